-- X6_feedNow X6_forget X6_tells X6_draftFor X6_reason X6_step X6_runs X6_sign
def m_X6_feedNow_L4 (S : S_X6) : Nat → Int32 → Int32 → Option (Int32)
  | 0, _, _ => none
  | n + 1, y1, y2 => if (8 : Int32) ≤ y2 then (some y1) else ((m_X6_isFed S y2).bind fun v2 => (if v2 = 0 then (nmL (y1 + (0 : Int32)) fun x1_5 => (nmL (y2 + 1) fun x2_7 => ((m_X6_feedNow_L4 S n) x1_5 x2_7))) else ((m_X6_weight S y2 (0 : Int32)).bind fun v9 => (nmL (y1 + v9) fun x1_11 => (nmL (y2 + 1) fun x2_13 => ((m_X6_feedNow_L4 S n) x1_11 x2_13))))))
def m_X6_feedNow (S : S_X6) : Option (Int32) := m_X6_feedNow_L4 S 4000 (0 : Int32) (0 : Int32)
set_option maxHeartbeats 4000000 in
set_option maxRecDepth 100000 in
theorem c_X6_feedNow (l : Launch) (dC : Nat → ClassId) (dI : Nat → Nat → Nat) (cI cF : ClassId) (a : Nat → Nat) (S : S_X6) (u : Int32) (h : m_X6_feedNow S = some u) : cRO l (dC, dI) cI cF yX6_feedNow wsX6_feedNow ({ frames := 1, cells := 0, slots := 0, locals := 22 } : Room) [.ref (a 0)] (wX6 a cI cF S) (some (.int u)) := by
  refine Met.ofW (cc := cX6_feedNow) (maxL := 3) (ret := (some .int)) (by decide) rfl ?_
  intro p e s m args below meth c s₁ B hml hv
  obtain ⟨hargs, hP, hK⟩ := hv
  subst hargs
  have hx := B.exec
  have hb := B.bytes
  have hr := B.returns
  have hts := atoms_spec (ws := wsX6_feedNow) B.pre
  have hown : s.vm.findClass RX6 = some m.cls := findClass_of_methodNamed B.named
  have hlocks := B.notSynchronized
  have w40 := hts (.methodLink RX6 40 yX6_weight) (List.mem_of_getElem? (i := 7) rfl)
  have w44 := hts (.methodLink RX6 44 yX6_isFed) (List.mem_of_getElem? (i := 1) rfl)
  have L4 : ∀ (n : Nat), ∀ (y1 : Int32) (y2 : Int32), m_X6_feedNow_L4 S n y1 y2 = some u → ∀ (ls : Array Slot), lv_has ls 3 [(0, .ref (a 0)), (1, .int y1), (2, .int y2)] → W p l e (headSpec wsX6_feedNow ({ frames := 1, cells := 0, slots := 0, locals := 22 } : Room)).room s m ([.ref (a 0)] : List Value).toArray below meth c s.heap [] 0 0 (MQ below (qRO (some (.int u))) ([.ref (a 0)] : List Value).toArray s 0 0 (fun _ => False)) (F0 m 4 ls []) := by
    intro  n
    induction n with
    | zero =>
      intro y1 y2 h
      exact (o_0 h).elim
    | succ n ih4 =>
      intro y1 y2 h ls hl
      rw [m_X6_feedNow_L4] at h
      refine lv_iload_n hx hb dX6_feedNow_4 rfl (lv_at hl 2 rfl) ?_
      refine lv_bipush (v := (8 : Int32)) hx hb dX6_feedNow_5 (by decide) ?_
      refine lv_icmp_ge (tgt := 37) hx hb dX6_feedNow_7 (by decide) (fun c1 => ?_) (fun c1 => ?_)
      · have h := o_t h c1
        refine lv_iload_n hx hb dX6_feedNow_37 rfl (lv_at hl 1 rfl) ?_
        have hu := Option.some.inj h
        exact W.iret (v := y1) hx hb hr (fun t ht hW => ⟨congrArg (fun z => Outcome.returned (some (Value.int z))) hu, ht⟩) (fun q hq => absurd hq List.not_mem_nil) dX6_feedNow_38
      have h := o_f h c1
      refine lv_iload_n hx hb dX6_feedNow_10 rfl (lv_at hl 1 rfl) ?_
      refine lv_aload_n hx hb dX6_feedNow_11 rfl (lv_at hl 0 rfl) ?_
      refine lv_iload_n hx hb dX6_feedNow_12 rfl (lv_at hl 2 rfl) ?_
      obtain ⟨v2, g3, h⟩ := o_b h
      refine k_ro (va_runV (As := [.int y2]) (rest := [.int y1]) ⟨hx, hb, hml, hown, hts⟩ (c_X6_isFed l dC dI cI cF a S y2 v2 g3) (cwV 1 hts gX6_feedNow_X6_isFed rfl rfl rfl (by decide +kernel) ⟨Nat.le_of_ble_eq_true rfl, Nat.le_of_ble_eq_true rfl⟩) (k_preV (q0 := 0) (ci := 6) hK (hP.sub (ws' := wX6 a cI cF S) [0, 1, 2, 3, 4, 5] rfl) rfl rfl rfl) rfl rfl hl.1 rfl (lv_room (Nat.le_of_ble_eq_true rfl)) dX6_feedNow_13 ⟨Nat.zero_le _, Nat.zero_le _⟩) (st1 := [.int v2, .int y1]) rfl ?_
      refine lv_if_eq (tgt := 28) hx hb dX6_feedNow_16 (by decide) (fun c4 => ?_) (fun c4 => ?_)
      · have h := o_t h c4
        refine lv_iconst (v := (0 : Int32)) hx hb dX6_feedNow_28 (by decide) ?_
        refine lv_iadd hx hb dX6_feedNow_29 ?_
        obtain ⟨x1_5, e6, h⟩ := o_n h
        refine lv_nmi e6 ?_
        refine lv_istore_n (lv' := [(1, .int x1_5), (0, .ref (a 0)), (2, .int y2)]) hx hb dX6_feedNow_30 rfl hl (by decide) rfl (fun ls hl => ?_)
        obtain ⟨x2_7, e8, h⟩ := o_n h
        refine lv_iinc (v := x2_7) (lv' := [(2, .int x2_7), (1, .int x1_5), (0, .ref (a 0))]) hx hb dX6_feedNow_31 hl (k := 2) rfl (by rw [e8]; rfl) (by decide) rfl (fun ls hl => ?_)
        refine lv_goto (tgt := 4) hx hb dX6_feedNow_34 (by decide) ?_
        exact ih4 _ _ h _ (lv_sub hl [2, 1, 0] rfl)
      have h := o_f h c4
      refine lv_aload_n hx hb dX6_feedNow_19 rfl (lv_at hl 0 rfl) ?_
      refine lv_iload_n hx hb dX6_feedNow_20 rfl (lv_at hl 2 rfl) ?_
      refine lv_iconst (v := (0 : Int32)) hx hb dX6_feedNow_21 (by decide) ?_
      obtain ⟨v9, g10, h⟩ := o_b h
      refine k_ro (va_runV (As := [.int y2, .int (0 : Int32)]) (rest := [.int y1]) ⟨hx, hb, hml, hown, hts⟩ (c_X6_weight l dC dI cI cF a S y2 (0 : Int32) v9 g10) (cwV 2 hts gX6_feedNow_X6_weight rfl rfl rfl (by decide +kernel) ⟨Nat.le_of_ble_eq_true rfl, Nat.le_of_ble_eq_true rfl⟩) (k_preV (q0 := 0) (ci := 6) hK (hP.sub (ws' := wX6 a cI cF S) [0, 1, 2, 3, 4, 5] rfl) rfl rfl rfl) rfl rfl hl.1 rfl (lv_room (Nat.le_of_ble_eq_true rfl)) dX6_feedNow_22 ⟨Nat.zero_le _, Nat.zero_le _⟩) (st1 := [.int v9, .int y1]) rfl ?_
      refine lv_goto (tgt := 29) hx hb dX6_feedNow_25 (by decide) ?_
      refine lv_iadd hx hb dX6_feedNow_29 ?_
      obtain ⟨x1_11, e12, h⟩ := o_n h
      refine lv_nmi e12 ?_
      refine lv_istore_n (lv' := [(1, .int x1_11), (0, .ref (a 0)), (2, .int y2)]) hx hb dX6_feedNow_30 rfl hl (by decide) rfl (fun ls hl => ?_)
      obtain ⟨x2_13, e14, h⟩ := o_n h
      refine lv_iinc (v := x2_13) (lv' := [(2, .int x2_13), (1, .int x1_11), (0, .ref (a 0))]) hx hb dX6_feedNow_31 hl (k := 2) rfl (by rw [e14]; rfl) (by decide) rfl (fun ls hl => ?_)
      refine lv_goto (tgt := 4) hx hb dX6_feedNow_34 (by decide) ?_
      exact ih4 _ _ h _ (lv_sub hl [2, 1, 0] rfl)
  have hl := lv_entry ([.ref (a 0)]) (n := 3) (Nat.le_of_ble_eq_true rfl)
  rw [lg_entry_eq]
  generalize (lg_sl ([.ref (a 0)]) ++ List.replicate (3 - (lg_sl ([.ref (a 0)])).length) Slot.unset).toArray = ls at hl ⊢
  have hl : lv_has ls 3 [(0, .ref (a 0))] := hl
  rw [m_X6_feedNow] at h
  refine lv_iconst (v := (0 : Int32)) hx hb dX6_feedNow_0 (by decide) ?_
  refine lv_istore_n (lv' := [(1, .int (0 : Int32)), (0, .ref (a 0))]) hx hb dX6_feedNow_1 rfl hl (by decide) rfl (fun ls hl => ?_)
  refine lv_iconst (v := (0 : Int32)) hx hb dX6_feedNow_2 (by decide) ?_
  refine lv_istore_n (lv' := [(2, .int (0 : Int32)), (1, .int (0 : Int32)), (0, .ref (a 0))]) hx hb dX6_feedNow_3 rfl hl (by decide) rfl (fun ls hl => ?_)
  exact L4 _ _ _ h _ (lv_sub hl [2, 1, 0] rfl)

def m_X6_forget_L2 : Nat → Int32 → S_X6 → Option (S_X6)
  | 0, _, _ => none
  | n + 1, y1, S => if (7 : Int32) < y1 then (some S) else (if ((332 : Int32) + y1) < 0 ∨ 350 ≤ ((332 : Int32) + y1).toNatClampNeg then none else (nmL (y1 + 1) fun x1_3 => ((m_X6_forget_L2 n) x1_3 (s_X6_s S (upd (g_X6_s S) ((332 : Int32) + y1).toNatClampNeg (0 : Int32))))))
def m_X6_forget (S : S_X6) : Option (S_X6) := m_X6_forget_L2 4000 (0 : Int32) S
set_option maxHeartbeats 4000000 in
set_option maxRecDepth 100000 in
theorem c_X6_forget (l : Launch) (dC : Nat → ClassId) (dI : Nat → Nat → Nat) (cI cF : ClassId) (a : Nat → Nat) (S : S_X6) (u : S_X6) (h : m_X6_forget S = some u) : cRW l (dC, dI) cI cF yX6_forget wsX6_forget ({ frames := 0, cells := 0, slots := 0, locals := 0 } : Room) [.ref (a 0)] (wX6 a cI cF S) (wX6 a cI cF u) (none) := by
  intro sz
  refine Met.ofW (cc := cX6_forget) (maxL := 2) (ret := none) (by decide) rfl ?_
  intro p e s m args below meth c s₁ B hml hv
  obtain ⟨hargs, hsz, hP, hK, hD0⟩ := hv
  subst hargs
  have hx := B.exec
  have hb := B.bytes
  have hr := B.returns
  have hts := atoms_spec (ws := wsX6_forget) B.pre
  have hown : s.vm.findClass RX6 = some m.cls := findClass_of_methodNamed B.named
  have hlocks := B.notSynchronized
  have w7 := hts (.fieldLink RX6 7 "DrawnSliversModel" "s" "[I") (List.mem_of_getElem? (i := 1) rfl)
  have huX6 : ∀ w ∈ u_ws RX6 TX6 11, w.before _ s = true := fun w h => hts w (List.mem_cons_of_mem _ (List.mem_append_right _ (h)))
  subst hsz
  have hD := hD0.self (sz := s.heap.size)
  generalize hAe : va_A (wX6 a cI cF S) s.heap.size = A at hD ⊢
  have hA : ∀ q : Nat, s.heap.size ≤ q → A q := fun q h => by rw [← hAe]; exact Or.inr h
  have hS : va_S A s.heap s.heap [] := va_S.rf
  have L2 : ∀ (n : Nat), ∀ (y1 : Int32) (S : S_X6), m_X6_forget_L2 n y1 S = some u → ∀ (H : Heap) (locs : List Loc), va_P (dC, dI) vwCl (wX6 a cI cF S) H → va_D A (wX6 a cI cF S) → va_S A s.heap H locs → ∀ (ls : Array Slot), lv_has ls 2 [(0, .ref (a 0)), (1, .int y1)] → W p l e (headSpec wsX6_forget ({ frames := 0, cells := 0, slots := 0, locals := 0 } : Room)).room s m ([.ref (a 0)] : List Value).toArray below meth c H locs 0 0 (MQ below (qRW (dC, dI) (wX6 a cI cF u) (none) A) ([.ref (a 0)] : List Value).toArray s 0 0 A) (F0 m 2 ls []) := by
    intro  n
    induction n with
    | zero =>
      intro y1 S h
      exact (o_0 h).elim
    | succ n ih2 =>
      intro y1 S h H locs hP hD hS ls hl
      rw [m_X6_forget_L2] at h
      refine lv_iload_n hx hb dX6_forget_2 rfl (lv_at hl 1 rfl) ?_
      refine lv_bipush (v := (7 : Int32)) hx hb dX6_forget_3 (by decide) ?_
      refine lv_icmp_gt (tgt := 25) hx hb dX6_forget_5 (by decide) (fun c1 => ?_) (fun c1 => ?_)
      · have h := o_t h c1
        have hu := Option.some.inj h
        exact W.vret hx hb hr (fun t ht hW => ⟨⟨rfl, by rw [ht, ← hu]; exact hP⟩, hS.F ht⟩) hS.2.2 dX6_forget_25
      have h := o_f h c1
      refine lv_aload_n hx hb dX6_forget_8 rfl (lv_at hl 0 rfl) ?_
      refine va_get (D := (dC, dI)) (ci := 6) (v := .ref (a 1)) (C := RX6) (T := TX6) (N := 11) hx hb huX6 (fun _ h9 => h9) hown hK hP 0 rfl rfl 0 (by decide) w7 (fun _ h9 => h9) rfl dX6_forget_9 ?_
      refine lv_sipush (v := (332 : Int32)) hx hb dX6_forget_12 (by decide) ?_
      refine lv_iload_n hx hb dX6_forget_15 rfl (lv_at hl 1 rfl) ?_
      refine lv_iadd hx hb dX6_forget_16 ?_
      refine lv_iconst (v := (0 : Int32)) hx hb dX6_forget_17 (by decide) ?_
      obtain ⟨i2, h⟩ := o_in h
      refine va_iast hx hb hK hP hD hS 1 0 rfl rfl i2 dX6_forget_18 (fun H locs hP hD hS => ?_)
      have hP : va_P (dC, dI) vwCl (wX6 a cI cF (s_X6_s S (upd (g_X6_s S) ((332 : Int32) + y1).toNatClampNeg (0 : Int32)))) H := hP
      have hD : va_D A (wX6 a cI cF (s_X6_s S (upd (g_X6_s S) ((332 : Int32) + y1).toNatClampNeg (0 : Int32)))) := hD
      obtain ⟨x1_3, e4, h⟩ := o_n h
      refine lv_iinc (v := x1_3) (lv' := [(1, .int x1_3), (0, .ref (a 0))]) hx hb dX6_forget_19 hl (k := 1) rfl (by rw [e4]; rfl) (by decide) rfl (fun ls hl => ?_)
      refine lv_goto (tgt := 2) hx hb dX6_forget_22 (by decide) ?_
      exact ih2 _ _ h _ _ hP hD hS _ (lv_sub hl [1, 0] rfl)
  have hl := lv_entry ([.ref (a 0)]) (n := 2) (Nat.le_of_ble_eq_true rfl)
  rw [lg_entry_eq]
  generalize (lg_sl ([.ref (a 0)]) ++ List.replicate (2 - (lg_sl ([.ref (a 0)])).length) Slot.unset).toArray = ls at hl ⊢
  have hl : lv_has ls 2 [(0, .ref (a 0))] := hl
  rw [m_X6_forget] at h
  refine lv_iconst (v := (0 : Int32)) hx hb dX6_forget_0 (by decide) ?_
  refine lv_istore_n (lv' := [(1, .int (0 : Int32)), (0, .ref (a 0))]) hx hb dX6_forget_1 rfl hl (by decide) rfl (fun ls hl => ?_)
  exact L2 _ _ _ h _ _ hP hD hS _ (lv_sub hl [1, 0] rfl)

def m_X6_tells (S : S_X6) (x1 : Int32) : Option (Int32) := nmL ((g_X6_s S) (340 : Int32).toNatClampNeg) fun x2_1 => (if x2_1 = 0 then (some x1) else (if ((g_X6_s S) (332 : Int32).toNatClampNeg) < x2_1 then (some (-1 : Int32)) else (if (((333 : Int32) + x2_1) - (1 : Int32)) < 0 ∨ 350 ≤ (((333 : Int32) + x2_1) - (1 : Int32)).toNatClampNeg then none else (some ((g_X6_s S) (((333 : Int32) + x2_1) - (1 : Int32)).toNatClampNeg)))))
set_option maxHeartbeats 4000000 in
set_option maxRecDepth 100000 in
theorem c_X6_tells (l : Launch) (dC : Nat → ClassId) (dI : Nat → Nat → Nat) (cI cF : ClassId) (a : Nat → Nat) (S : S_X6) (x1 : Int32) (u : Int32) (h : m_X6_tells S x1 = some u) : cRO l (dC, dI) cI cF yX6_tells wsX6_tells ({ frames := 0, cells := 0, slots := 0, locals := 0 } : Room) [.ref (a 0), .int x1] (wX6 a cI cF S) (some (.int u)) := by
  refine Met.ofW (cc := cX6_tells) (maxL := 3) (ret := (some .int)) (by decide) rfl ?_
  intro p e s m args below meth c s₁ B hml hv
  obtain ⟨hargs, hP, hK⟩ := hv
  subst hargs
  have hx := B.exec
  have hb := B.bytes
  have hr := B.returns
  have hts := atoms_spec (ws := wsX6_tells) B.pre
  have hown : s.vm.findClass RX6 = some m.cls := findClass_of_methodNamed B.named
  have hlocks := B.notSynchronized
  have w7 := hts (.fieldLink RX6 7 "DrawnSliversModel" "s" "[I") (List.mem_of_getElem? (i := 1) rfl)
  have huX6 : ∀ w ∈ u_ws RX6 TX6 11, w.before _ s = true := fun w h => hts w (List.mem_cons_of_mem _ (List.mem_append_right _ (h)))
  have hl := lv_entry ([.ref (a 0), .int x1]) (n := 3) (Nat.le_of_ble_eq_true rfl)
  rw [lg_entry_eq]
  generalize (lg_sl ([.ref (a 0), .int x1]) ++ List.replicate (3 - (lg_sl ([.ref (a 0), .int x1])).length) Slot.unset).toArray = ls at hl ⊢
  have hl : lv_has ls 3 [(0, .ref (a 0)), (1, .int x1)] := hl
  rw [m_X6_tells] at h
  refine lv_aload_n hx hb dX6_tells_0 rfl (lv_at hl 0 rfl) ?_
  refine va_get (D := (dC, dI)) (ci := 6) (v := .ref (a 1)) (C := RX6) (T := TX6) (N := 11) hx hb huX6 (fun _ h9 => h9) hown hK hP 0 rfl rfl 0 (by decide) w7 (fun _ h9 => h9) rfl dX6_tells_1 ?_
  refine lv_sipush (v := (340 : Int32)) hx hb dX6_tells_4 (by decide) ?_
  refine va_iald hx hb hK hP 1 0 rfl rfl (by unfold vp_in; decide) dX6_tells_7 ?_
  obtain ⟨x2_1, e2, h⟩ := o_n h
  refine lv_nmi e2 ?_
  refine lv_istore_n (lv' := [(2, .int x2_1), (0, .ref (a 0)), (1, .int x1)]) hx hb dX6_tells_8 rfl hl (by decide) rfl (fun ls hl => ?_)
  refine lv_iload_n hx hb dX6_tells_9 rfl (lv_at hl 0 rfl) ?_
  refine lv_if_ne (tgt := 17) hx hb dX6_tells_10 (by decide) (fun c3 => ?_) (fun c3 => ?_)
  rotate_left
  · have h := o_t h c3
    refine lv_iload_n hx hb dX6_tells_13 rfl (lv_at hl 2 rfl) ?_
    refine lv_goto (tgt := 45) hx hb dX6_tells_14 (by decide) ?_
    have hu := Option.some.inj h
    exact W.iret (v := x1) hx hb hr (fun t ht hW => ⟨congrArg (fun z => Outcome.returned (some (Value.int z))) hu, ht⟩) (fun q hq => absurd hq List.not_mem_nil) dX6_tells_45
  have h := o_f h c3
  refine lv_iload_n hx hb dX6_tells_17 rfl (lv_at hl 0 rfl) ?_
  refine lv_aload_n hx hb dX6_tells_18 rfl (lv_at hl 1 rfl) ?_
  refine va_get (D := (dC, dI)) (ci := 6) (v := .ref (a 1)) (C := RX6) (T := TX6) (N := 11) hx hb huX6 (fun _ h9 => h9) hown hK hP 0 rfl rfl 0 (by decide) w7 (fun _ h9 => h9) rfl dX6_tells_19 ?_
  refine lv_sipush (v := (332 : Int32)) hx hb dX6_tells_22 (by decide) ?_
  refine va_iald hx hb hK hP 1 0 rfl rfl (by unfold vp_in; decide) dX6_tells_25 ?_
  refine lv_icmp_gt (tgt := 44) hx hb dX6_tells_26 (by decide) (fun c4 => ?_) (fun c4 => ?_)
  · have h := o_t h c4
    refine lv_iconst (v := (-1 : Int32)) hx hb dX6_tells_44 (by decide) ?_
    have hu := Option.some.inj h
    exact W.iret (v := (-1 : Int32)) hx hb hr (fun t ht hW => ⟨congrArg (fun z => Outcome.returned (some (Value.int z))) hu, ht⟩) (fun q hq => absurd hq List.not_mem_nil) dX6_tells_45
  have h := o_f h c4
  refine lv_aload_n hx hb dX6_tells_29 rfl (lv_at hl 1 rfl) ?_
  refine va_get (D := (dC, dI)) (ci := 6) (v := .ref (a 1)) (C := RX6) (T := TX6) (N := 11) hx hb huX6 (fun _ h9 => h9) hown hK hP 0 rfl rfl 0 (by decide) w7 (fun _ h9 => h9) rfl dX6_tells_30 ?_
  refine lv_sipush (v := (333 : Int32)) hx hb dX6_tells_33 (by decide) ?_
  refine lv_iload_n hx hb dX6_tells_36 rfl (lv_at hl 0 rfl) ?_
  refine lv_iadd hx hb dX6_tells_37 ?_
  refine lv_iconst (v := (1 : Int32)) hx hb dX6_tells_38 (by decide) ?_
  refine lv_isub hx hb dX6_tells_39 ?_
  obtain ⟨i5, h⟩ := o_in h
  refine va_iald hx hb hK hP 1 0 rfl rfl i5 dX6_tells_40 ?_
  refine lv_goto (tgt := 45) hx hb dX6_tells_41 (by decide) ?_
  have hu := Option.some.inj h
  exact W.iret (v := (g_X6_s S) (((333 : Int32) + x2_1) - (1 : Int32)).toNatClampNeg) hx hb hr (fun t ht hW => ⟨congrArg (fun z => Outcome.returned (some (Value.int z))) hu, ht⟩) (fun q hq => absurd hq List.not_mem_nil) dX6_tells_45

def m_X6_draftFor (S : S_X6) (x1 : Int32) : Option (Int32) := (m_X6_tells S x1).bind fun v1 => (if ((g_X6_s S) (343 : Int32).toNatClampNeg) = 0 then (some ((g_X6_s S) (341 : Int32).toNatClampNeg)) else (if v1 = (-1 : Int32) then (some ((g_X6_s S) (341 : Int32).toNatClampNeg)) else (nmL ((g_X6_s S) (342 : Int32).toNatClampNeg) fun x3_5 => (if ((2 : Int32) * x3_5) = 0 then none else (nmL ((((2 : Int32) * v1) + x3_5) / ((2 : Int32) * x3_5)) fun x4_8 => (if (1 : Int32) ≤ x4_8 then (if x4_8 ≤ (8 : Int32) then (some x4_8) else (some (8 : Int32))) else (some (1 : Int32))))))))
set_option maxHeartbeats 4000000 in
set_option maxRecDepth 100000 in
theorem c_X6_draftFor (l : Launch) (dC : Nat → ClassId) (dI : Nat → Nat → Nat) (cI cF : ClassId) (a : Nat → Nat) (S : S_X6) (x1 : Int32) (u : Int32) (h : m_X6_draftFor S x1 = some u) : cRO l (dC, dI) cI cF yX6_draftFor wsX6_draftFor ({ frames := 1, cells := 0, slots := 0, locals := 22 } : Room) [.ref (a 0), .int x1] (wX6 a cI cF S) (some (.int u)) := by
  refine Met.ofW (cc := cX6_draftFor) (maxL := 5) (ret := (some .int)) (by decide) rfl ?_
  intro p e s m args below meth c s₁ B hml hv
  obtain ⟨hargs, hP, hK⟩ := hv
  subst hargs
  have hx := B.exec
  have hb := B.bytes
  have hr := B.returns
  have hts := atoms_spec (ws := wsX6_draftFor) B.pre
  have hown : s.vm.findClass RX6 = some m.cls := findClass_of_methodNamed B.named
  have hlocks := B.notSynchronized
  have w48 := hts (.methodLink RX6 48 yX6_tells) (List.mem_of_getElem? (i := 2) rfl)
  have w7 := hts (.fieldLink RX6 7 "DrawnSliversModel" "s" "[I") (List.mem_of_getElem? (i := 1) rfl)
  have huX6 : ∀ w ∈ u_ws RX6 TX6 11, w.before _ s = true := fun w h => hts w (List.mem_cons_of_mem _ (List.mem_append_right _ (h)))
  have hl := lv_entry ([.ref (a 0), .int x1]) (n := 5) (Nat.le_of_ble_eq_true rfl)
  rw [lg_entry_eq]
  generalize (lg_sl ([.ref (a 0), .int x1]) ++ List.replicate (5 - (lg_sl ([.ref (a 0), .int x1])).length) Slot.unset).toArray = ls at hl ⊢
  have hl : lv_has ls 5 [(0, .ref (a 0)), (1, .int x1)] := hl
  rw [m_X6_draftFor] at h
  refine lv_aload_n hx hb dX6_draftFor_0 rfl (lv_at hl 0 rfl) ?_
  refine lv_iload_n hx hb dX6_draftFor_1 rfl (lv_at hl 1 rfl) ?_
  obtain ⟨v1, g2, h⟩ := o_b h
  refine k_ro (va_runV (As := [.int x1]) (rest := []) ⟨hx, hb, hml, hown, hts⟩ (c_X6_tells l dC dI cI cF a S x1 v1 g2) (cwV 1 hts gX6_draftFor_X6_tells rfl rfl rfl (by decide +kernel) ⟨Nat.le_of_ble_eq_true rfl, Nat.le_of_ble_eq_true rfl⟩) (k_preV (q0 := 0) (ci := 6) hK (hP.sub (ws' := wX6 a cI cF S) [0, 1, 2, 3, 4, 5] rfl) rfl rfl rfl) rfl rfl hl.1 rfl (lv_room (Nat.le_of_ble_eq_true rfl)) dX6_draftFor_2 ⟨Nat.zero_le _, Nat.zero_le _⟩) (st1 := [.int v1]) rfl ?_
  refine lv_istore_n (lv' := [(2, .int v1), (0, .ref (a 0)), (1, .int x1)]) hx hb dX6_draftFor_5 rfl hl (by decide) rfl (fun ls hl => ?_)
  refine lv_aload_n hx hb dX6_draftFor_6 rfl (lv_at hl 1 rfl) ?_
  refine va_get (D := (dC, dI)) (ci := 6) (v := .ref (a 1)) (C := RX6) (T := TX6) (N := 11) hx hb huX6 (fun _ h9 => h9) hown hK hP 0 rfl rfl 0 (by decide) w7 (fun _ h9 => h9) rfl dX6_draftFor_7 ?_
  refine lv_sipush (v := (343 : Int32)) hx hb dX6_draftFor_10 (by decide) ?_
  refine va_iald hx hb hK hP 1 0 rfl rfl (by unfold vp_in; decide) dX6_draftFor_13 ?_
  refine lv_if_eq (tgt := 22) hx hb dX6_draftFor_14 (by decide) (fun c3 => ?_) (fun c3 => ?_)
  · have h := o_t h c3
    refine lv_aload_n hx hb dX6_draftFor_22 rfl (lv_at hl 1 rfl) ?_
    refine va_get (D := (dC, dI)) (ci := 6) (v := .ref (a 1)) (C := RX6) (T := TX6) (N := 11) hx hb huX6 (fun _ h9 => h9) hown hK hP 0 rfl rfl 0 (by decide) w7 (fun _ h9 => h9) rfl dX6_draftFor_23 ?_
    refine lv_sipush (v := (341 : Int32)) hx hb dX6_draftFor_26 (by decide) ?_
    refine va_iald hx hb hK hP 1 0 rfl rfl (by unfold vp_in; decide) dX6_draftFor_29 ?_
    have hu := Option.some.inj h
    exact W.iret (v := (g_X6_s S) (341 : Int32).toNatClampNeg) hx hb hr (fun t ht hW => ⟨congrArg (fun z => Outcome.returned (some (Value.int z))) hu, ht⟩) (fun q hq => absurd hq List.not_mem_nil) dX6_draftFor_30
  have h := o_f h c3
  refine lv_iload_n hx hb dX6_draftFor_17 rfl (lv_at hl 0 rfl) ?_
  refine lv_iconst (v := (-1 : Int32)) hx hb dX6_draftFor_18 (by decide) ?_
  refine lv_icmp_ne (tgt := 31) hx hb dX6_draftFor_19 (by decide) (fun c4 => ?_) (fun c4 => ?_)
  rotate_left
  · have h := o_t h c4
    refine lv_aload_n hx hb dX6_draftFor_22 rfl (lv_at hl 1 rfl) ?_
    refine va_get (D := (dC, dI)) (ci := 6) (v := .ref (a 1)) (C := RX6) (T := TX6) (N := 11) hx hb huX6 (fun _ h9 => h9) hown hK hP 0 rfl rfl 0 (by decide) w7 (fun _ h9 => h9) rfl dX6_draftFor_23 ?_
    refine lv_sipush (v := (341 : Int32)) hx hb dX6_draftFor_26 (by decide) ?_
    refine va_iald hx hb hK hP 1 0 rfl rfl (by unfold vp_in; decide) dX6_draftFor_29 ?_
    have hu := Option.some.inj h
    exact W.iret (v := (g_X6_s S) (341 : Int32).toNatClampNeg) hx hb hr (fun t ht hW => ⟨congrArg (fun z => Outcome.returned (some (Value.int z))) hu, ht⟩) (fun q hq => absurd hq List.not_mem_nil) dX6_draftFor_30
  have h := o_f h c4
  refine lv_aload_n hx hb dX6_draftFor_31 rfl (lv_at hl 1 rfl) ?_
  refine va_get (D := (dC, dI)) (ci := 6) (v := .ref (a 1)) (C := RX6) (T := TX6) (N := 11) hx hb huX6 (fun _ h9 => h9) hown hK hP 0 rfl rfl 0 (by decide) w7 (fun _ h9 => h9) rfl dX6_draftFor_32 ?_
  refine lv_sipush (v := (342 : Int32)) hx hb dX6_draftFor_35 (by decide) ?_
  refine va_iald hx hb hK hP 1 0 rfl rfl (by unfold vp_in; decide) dX6_draftFor_38 ?_
  obtain ⟨x3_5, e6, h⟩ := o_n h
  refine lv_nmi e6 ?_
  refine lv_istore_n (lv' := [(3, .int x3_5), (2, .int v1), (0, .ref (a 0)), (1, .int x1)]) hx hb dX6_draftFor_39 rfl hl (by decide) rfl (fun ls hl => ?_)
  refine lv_iconst (v := (2 : Int32)) hx hb dX6_draftFor_40 (by decide) ?_
  refine lv_iload_n hx hb dX6_draftFor_41 rfl (lv_at hl 1 rfl) ?_
  refine lv_imul hx hb dX6_draftFor_42 ?_
  refine lv_iload_n hx hb dX6_draftFor_43 rfl (lv_at hl 0 rfl) ?_
  refine lv_iadd hx hb dX6_draftFor_44 ?_
  refine lv_iconst (v := (2 : Int32)) hx hb dX6_draftFor_45 (by decide) ?_
  refine lv_iload_n hx hb dX6_draftFor_46 rfl (lv_at hl 0 rfl) ?_
  refine lv_imul hx hb dX6_draftFor_47 ?_
  obtain ⟨i7, h⟩ := o_in h
  refine lv_idiv hx hb dX6_draftFor_48 i7 ?_
  obtain ⟨x4_8, e9, h⟩ := o_n h
  refine lv_nmi e9 ?_
  refine lv_istore (lv' := [(4, .int x4_8), (3, .int x3_5), (2, .int v1), (0, .ref (a 0)), (1, .int x1)]) hx hb dX6_draftFor_49 hl (by decide) rfl (fun ls hl => ?_)
  refine lv_iload hx hb dX6_draftFor_51 (lv_at hl 0 rfl) ?_
  refine lv_iconst (v := (1 : Int32)) hx hb dX6_draftFor_53 (by decide) ?_
  refine lv_icmp_ge (tgt := 61) hx hb dX6_draftFor_54 (by decide) (fun c10 => ?_) (fun c10 => ?_)
  rotate_left
  · have h := o_f h c10
    refine lv_iconst (v := (1 : Int32)) hx hb dX6_draftFor_57 (by decide) ?_
    refine lv_goto (tgt := 75) hx hb dX6_draftFor_58 (by decide) ?_
    have hu := Option.some.inj h
    exact W.iret (v := (1 : Int32)) hx hb hr (fun t ht hW => ⟨congrArg (fun z => Outcome.returned (some (Value.int z))) hu, ht⟩) (fun q hq => absurd hq List.not_mem_nil) dX6_draftFor_75
  have h := o_t h c10
  refine lv_iload hx hb dX6_draftFor_61 (lv_at hl 0 rfl) ?_
  refine lv_bipush (v := (8 : Int32)) hx hb dX6_draftFor_63 (by decide) ?_
  refine lv_icmp_le (tgt := 73) hx hb dX6_draftFor_65 (by decide) (fun c11 => ?_) (fun c11 => ?_)
  · have h := o_t h c11
    refine lv_iload hx hb dX6_draftFor_73 (lv_at hl 0 rfl) ?_
    have hu := Option.some.inj h
    exact W.iret (v := x4_8) hx hb hr (fun t ht hW => ⟨congrArg (fun z => Outcome.returned (some (Value.int z))) hu, ht⟩) (fun q hq => absurd hq List.not_mem_nil) dX6_draftFor_75
  have h := o_f h c11
  refine lv_bipush (v := (8 : Int32)) hx hb dX6_draftFor_68 (by decide) ?_
  refine lv_goto (tgt := 75) hx hb dX6_draftFor_70 (by decide) ?_
  have hu := Option.some.inj h
  exact W.iret (v := (8 : Int32)) hx hb hr (fun t ht hW => ⟨congrArg (fun z => Outcome.returned (some (Value.int z))) hu, ht⟩) (fun q hq => absurd hq List.not_mem_nil) dX6_draftFor_75

def m_X6_reason_L76 (S : S_X6) : Option (Int32) := (m_X6_metres S ((g_X6_s S) (329 : Int32).toNatClampNeg)).bind fun v7 => ((m_X6_feedNow S).bind fun v9 => ((m_X6_draftFor S v9).bind fun v11 => (if (v7 + v11) ≤ (40 : Int32) then (some (0 : Int32)) else (some (5 : Int32)))))
def m_X6_reason_L46 (S : S_X6) : Nat → Int32 → Option (Int32)
  | 0, _ => none
  | n + 1, y1 => if (8 : Int32) ≤ y1 then (m_X6_reason_L76 S) else ((m_X6_isFed S y1).bind fun v14 => (if v14 = 0 then (nmL (y1 + 1) fun x1_17 => ((m_X6_reason_L46 S n) x1_17)) else ((m_X6_metres S y1).bind fun v19 => (if v19 = 0 then (some (4 : Int32)) else (nmL (y1 + 1) fun x1_22 => ((m_X6_reason_L46 S n) x1_22))))))
def m_X6_reason (S : S_X6) : Option (Int32) := if ((g_X6_s S) (330 : Int32).toNatClampNeg) = (1 : Int32) then (some (1 : Int32)) else (if ((g_X6_s S) (328 : Int32).toNatClampNeg) = 0 then (some (2 : Int32)) else ((m_X6_isFed S ((g_X6_s S) (329 : Int32).toNatClampNeg)).bind fun v3 => (if v3 = 0 then (m_X6_reason_L46 S 4000 (0 : Int32)) else (some (3 : Int32)))))
set_option maxHeartbeats 4000000 in
set_option maxRecDepth 100000 in
theorem c_X6_reason (l : Launch) (dC : Nat → ClassId) (dI : Nat → Nat → Nat) (cI cF : ClassId) (a : Nat → Nat) (S : S_X6) (u : Int32) (h : m_X6_reason S = some u) : cRO l (dC, dI) cI cF yX6_reason wsX6_reason ({ frames := 2, cells := 0, slots := 0, locals := 46 } : Room) [.ref (a 0)] (wX6 a cI cF S) (some (.int u)) := by
  refine Met.ofW (cc := cX6_reason) (maxL := 2) (ret := (some .int)) (by decide) rfl ?_
  intro p e s m args below meth c s₁ B hml hv
  obtain ⟨hargs, hP, hK⟩ := hv
  subst hargs
  have hx := B.exec
  have hb := B.bytes
  have hr := B.returns
  have hts := atoms_spec (ws := wsX6_reason) B.pre
  have hown : s.vm.findClass RX6 = some m.cls := findClass_of_methodNamed B.named
  have hlocks := B.notSynchronized
  have w36 := hts (.methodLink RX6 36 yX6_metres) (List.mem_of_getElem? (i := 7) rfl)
  have w44 := hts (.methodLink RX6 44 yX6_isFed) (List.mem_of_getElem? (i := 2) rfl)
  have w51 := hts (.methodLink RX6 51 yX6_feedNow) (List.mem_of_getElem? (i := 11) rfl)
  have w55 := hts (.methodLink RX6 55 yX6_draftFor) (List.mem_of_getElem? (i := 19) rfl)
  have w7 := hts (.fieldLink RX6 7 "DrawnSliversModel" "s" "[I") (List.mem_of_getElem? (i := 1) rfl)
  have huX6 : ∀ w ∈ u_ws RX6 TX6 11, w.before _ s = true := fun w h => hts w (List.mem_cons_of_mem _ (List.mem_append_right _ (h)))
  have L76 : m_X6_reason_L76 S = some u → ∀ (ls : Array Slot), lv_has ls 2 [(0, .ref (a 0))] → W p l e (headSpec wsX6_reason ({ frames := 2, cells := 0, slots := 0, locals := 46 } : Room)).room s m ([.ref (a 0)] : List Value).toArray below meth c s.heap [] 0 0 (MQ below (qRO (some (.int u))) ([.ref (a 0)] : List Value).toArray s 0 0 (fun _ => False)) (F0 m 76 ls []) := by
    intro   h ls hl
    rw [m_X6_reason_L76] at h
    refine lv_aload_n hx hb dX6_reason_76 rfl (lv_at hl 0 rfl) ?_
    refine lv_aload_n hx hb dX6_reason_77 rfl (lv_at hl 0 rfl) ?_
    refine va_get (D := (dC, dI)) (ci := 6) (v := .ref (a 1)) (C := RX6) (T := TX6) (N := 11) hx hb huX6 (fun _ h9 => h9) hown hK hP 0 rfl rfl 0 (by decide) w7 (fun _ h9 => h9) rfl dX6_reason_78 ?_
    refine lv_sipush (v := (329 : Int32)) hx hb dX6_reason_81 (by decide) ?_
    refine va_iald hx hb hK hP 1 0 rfl rfl (by unfold vp_in; decide) dX6_reason_84 ?_
    obtain ⟨v7, g8, h⟩ := o_b h
    refine k_ro (va_runV (As := [.int ((g_X6_s S) (329 : Int32).toNatClampNeg)]) (rest := []) ⟨hx, hb, hml, hown, hts⟩ (c_X6_metres l dC dI cI cF a S ((g_X6_s S) (329 : Int32).toNatClampNeg) v7 g8) (cwV 1 hts gX6_reason_X6_metres rfl rfl rfl (by decide +kernel) ⟨Nat.le_of_ble_eq_true rfl, Nat.le_of_ble_eq_true rfl⟩) (k_preV (q0 := 0) (ci := 6) hK (hP.sub (ws' := wX6 a cI cF S) [0, 1, 2, 3, 4, 5] rfl) rfl rfl rfl) rfl rfl hl.1 rfl (lv_room (Nat.le_of_ble_eq_true rfl)) dX6_reason_85 ⟨Nat.zero_le _, Nat.zero_le _⟩) (st1 := [.int v7]) rfl ?_
    refine lv_aload_n hx hb dX6_reason_88 rfl (lv_at hl 0 rfl) ?_
    refine lv_aload_n hx hb dX6_reason_89 rfl (lv_at hl 0 rfl) ?_
    obtain ⟨v9, g10, h⟩ := o_b h
    refine k_ro (va_runV (As := []) (rest := [.ref (a 0), .int v7]) ⟨hx, hb, hml, hown, hts⟩ (c_X6_feedNow l dC dI cI cF a S v9 g10) (cwV 0 hts gX6_reason_X6_feedNow rfl rfl rfl (by decide +kernel) ⟨Nat.le_of_ble_eq_true rfl, Nat.le_of_ble_eq_true rfl⟩) (k_preV (q0 := 0) (ci := 6) hK (hP.sub (ws' := wX6 a cI cF S) [0, 1, 2, 3, 4, 5] rfl) rfl rfl rfl) rfl rfl hl.1 rfl (lv_room (Nat.le_of_ble_eq_true rfl)) dX6_reason_90 ⟨Nat.zero_le _, Nat.zero_le _⟩) (st1 := [.int v9, .ref (a 0), .int v7]) rfl ?_
    obtain ⟨v11, g12, h⟩ := o_b h
    refine k_ro (va_runV (As := [.int v9]) (rest := [.int v7]) ⟨hx, hb, hml, hown, hts⟩ (c_X6_draftFor l dC dI cI cF a S v9 v11 g12) (cwV 1 hts gX6_reason_X6_draftFor rfl rfl rfl (by decide +kernel) ⟨Nat.le_of_ble_eq_true rfl, Nat.le_of_ble_eq_true rfl⟩) (k_preV (q0 := 0) (ci := 6) hK (hP.sub (ws' := wX6 a cI cF S) [0, 1, 2, 3, 4, 5] rfl) rfl rfl rfl) rfl rfl hl.1 rfl (lv_room (Nat.le_of_ble_eq_true rfl)) dX6_reason_93 ⟨Nat.zero_le _, Nat.zero_le _⟩) (st1 := [.int v11, .int v7]) rfl ?_
    refine lv_iadd hx hb dX6_reason_96 ?_
    refine lv_bipush (v := (40 : Int32)) hx hb dX6_reason_97 (by decide) ?_
    refine lv_icmp_le (tgt := 106) hx hb dX6_reason_99 (by decide) (fun c13 => ?_) (fun c13 => ?_)
    · have h := o_t h c13
      refine lv_iconst (v := (0 : Int32)) hx hb dX6_reason_106 (by decide) ?_
      have hu := Option.some.inj h
      exact W.iret (v := (0 : Int32)) hx hb hr (fun t ht hW => ⟨congrArg (fun z => Outcome.returned (some (Value.int z))) hu, ht⟩) (fun q hq => absurd hq List.not_mem_nil) dX6_reason_107
    have h := o_f h c13
    refine lv_iconst (v := (5 : Int32)) hx hb dX6_reason_102 (by decide) ?_
    refine lv_goto (tgt := 107) hx hb dX6_reason_103 (by decide) ?_
    have hu := Option.some.inj h
    exact W.iret (v := (5 : Int32)) hx hb hr (fun t ht hW => ⟨congrArg (fun z => Outcome.returned (some (Value.int z))) hu, ht⟩) (fun q hq => absurd hq List.not_mem_nil) dX6_reason_107
  have L46 : ∀ (n : Nat), ∀ (y1 : Int32), m_X6_reason_L46 S n y1 = some u → ∀ (ls : Array Slot), lv_has ls 2 [(0, .ref (a 0)), (1, .int y1)] → W p l e (headSpec wsX6_reason ({ frames := 2, cells := 0, slots := 0, locals := 46 } : Room)).room s m ([.ref (a 0)] : List Value).toArray below meth c s.heap [] 0 0 (MQ below (qRO (some (.int u))) ([.ref (a 0)] : List Value).toArray s 0 0 (fun _ => False)) (F0 m 46 ls []) := by
    intro  n
    induction n with
    | zero =>
      intro y1 h
      exact (o_0 h).elim
    | succ n ih46 =>
      intro y1 h ls hl
      rw [m_X6_reason_L46] at h
      refine lv_iload_n hx hb dX6_reason_46 rfl (lv_at hl 1 rfl) ?_
      refine lv_bipush (v := (8 : Int32)) hx hb dX6_reason_47 (by decide) ?_
      refine lv_icmp_ge (tgt := 76) hx hb dX6_reason_49 (by decide) (fun c6 => ?_) (fun c6 => ?_)
      · have h := o_t h c6
        exact L76 h _ (lv_sub hl [0] rfl)
      have h := o_f h c6
      refine lv_aload_n hx hb dX6_reason_52 rfl (lv_at hl 0 rfl) ?_
      refine lv_iload_n hx hb dX6_reason_53 rfl (lv_at hl 1 rfl) ?_
      obtain ⟨v14, g15, h⟩ := o_b h
      refine k_ro (va_runV (As := [.int y1]) (rest := []) ⟨hx, hb, hml, hown, hts⟩ (c_X6_isFed l dC dI cI cF a S y1 v14 g15) (cwV 1 hts gX6_reason_X6_isFed rfl rfl rfl (by decide +kernel) ⟨Nat.le_of_ble_eq_true rfl, Nat.le_of_ble_eq_true rfl⟩) (k_preV (q0 := 0) (ci := 6) hK (hP.sub (ws' := wX6 a cI cF S) [0, 1, 2, 3, 4, 5] rfl) rfl rfl rfl) rfl rfl hl.1 rfl (lv_room (Nat.le_of_ble_eq_true rfl)) dX6_reason_54 ⟨Nat.zero_le _, Nat.zero_le _⟩) (st1 := [.int v14]) rfl ?_
      refine lv_if_eq (tgt := 70) hx hb dX6_reason_57 (by decide) (fun c16 => ?_) (fun c16 => ?_)
      · have h := o_t h c16
        obtain ⟨x1_17, e18, h⟩ := o_n h
        refine lv_iinc (v := x1_17) (lv' := [(1, .int x1_17), (0, .ref (a 0))]) hx hb dX6_reason_70 hl (k := 1) rfl (by rw [e18]; rfl) (by decide) rfl (fun ls hl => ?_)
        refine lv_goto (tgt := 46) hx hb dX6_reason_73 (by decide) ?_
        exact ih46 _ h _ (lv_sub hl [1, 0] rfl)
      have h := o_f h c16
      refine lv_aload_n hx hb dX6_reason_60 rfl (lv_at hl 0 rfl) ?_
      refine lv_iload_n hx hb dX6_reason_61 rfl (lv_at hl 1 rfl) ?_
      obtain ⟨v19, g20, h⟩ := o_b h
      refine k_ro (va_runV (As := [.int y1]) (rest := []) ⟨hx, hb, hml, hown, hts⟩ (c_X6_metres l dC dI cI cF a S y1 v19 g20) (cwV 1 hts gX6_reason_X6_metres rfl rfl rfl (by decide +kernel) ⟨Nat.le_of_ble_eq_true rfl, Nat.le_of_ble_eq_true rfl⟩) (k_preV (q0 := 0) (ci := 6) hK (hP.sub (ws' := wX6 a cI cF S) [0, 1, 2, 3, 4, 5] rfl) rfl rfl rfl) rfl rfl hl.1 rfl (lv_room (Nat.le_of_ble_eq_true rfl)) dX6_reason_62 ⟨Nat.zero_le _, Nat.zero_le _⟩) (st1 := [.int v19]) rfl ?_
      refine lv_if_ne (tgt := 70) hx hb dX6_reason_65 (by decide) (fun c21 => ?_) (fun c21 => ?_)
      rotate_left
      · have h := o_t h c21
        refine lv_iconst (v := (4 : Int32)) hx hb dX6_reason_68 (by decide) ?_
        have hu := Option.some.inj h
        exact W.iret (v := (4 : Int32)) hx hb hr (fun t ht hW => ⟨congrArg (fun z => Outcome.returned (some (Value.int z))) hu, ht⟩) (fun q hq => absurd hq List.not_mem_nil) dX6_reason_69
      have h := o_f h c21
      obtain ⟨x1_22, e23, h⟩ := o_n h
      refine lv_iinc (v := x1_22) (lv' := [(1, .int x1_22), (0, .ref (a 0))]) hx hb dX6_reason_70 hl (k := 1) rfl (by rw [e23]; rfl) (by decide) rfl (fun ls hl => ?_)
      refine lv_goto (tgt := 46) hx hb dX6_reason_73 (by decide) ?_
      exact ih46 _ h _ (lv_sub hl [1, 0] rfl)
  have hl := lv_entry ([.ref (a 0)]) (n := 2) (Nat.le_of_ble_eq_true rfl)
  rw [lg_entry_eq]
  generalize (lg_sl ([.ref (a 0)]) ++ List.replicate (2 - (lg_sl ([.ref (a 0)])).length) Slot.unset).toArray = ls at hl ⊢
  have hl : lv_has ls 2 [(0, .ref (a 0))] := hl
  rw [m_X6_reason] at h
  refine lv_aload_n hx hb dX6_reason_0 rfl (lv_at hl 0 rfl) ?_
  refine va_get (D := (dC, dI)) (ci := 6) (v := .ref (a 1)) (C := RX6) (T := TX6) (N := 11) hx hb huX6 (fun _ h9 => h9) hown hK hP 0 rfl rfl 0 (by decide) w7 (fun _ h9 => h9) rfl dX6_reason_1 ?_
  refine lv_sipush (v := (330 : Int32)) hx hb dX6_reason_4 (by decide) ?_
  refine va_iald hx hb hK hP 1 0 rfl rfl (by unfold vp_in; decide) dX6_reason_7 ?_
  refine lv_iconst (v := (1 : Int32)) hx hb dX6_reason_8 (by decide) ?_
  refine lv_icmp_ne (tgt := 14) hx hb dX6_reason_9 (by decide) (fun c1 => ?_) (fun c1 => ?_)
  rotate_left
  · have h := o_t h c1
    refine lv_iconst (v := (1 : Int32)) hx hb dX6_reason_12 (by decide) ?_
    have hu := Option.some.inj h
    exact W.iret (v := (1 : Int32)) hx hb hr (fun t ht hW => ⟨congrArg (fun z => Outcome.returned (some (Value.int z))) hu, ht⟩) (fun q hq => absurd hq List.not_mem_nil) dX6_reason_13
  have h := o_f h c1
  refine lv_aload_n hx hb dX6_reason_14 rfl (lv_at hl 0 rfl) ?_
  refine va_get (D := (dC, dI)) (ci := 6) (v := .ref (a 1)) (C := RX6) (T := TX6) (N := 11) hx hb huX6 (fun _ h9 => h9) hown hK hP 0 rfl rfl 0 (by decide) w7 (fun _ h9 => h9) rfl dX6_reason_15 ?_
  refine lv_sipush (v := (328 : Int32)) hx hb dX6_reason_18 (by decide) ?_
  refine va_iald hx hb hK hP 1 0 rfl rfl (by unfold vp_in; decide) dX6_reason_21 ?_
  refine lv_if_ne (tgt := 27) hx hb dX6_reason_22 (by decide) (fun c2 => ?_) (fun c2 => ?_)
  rotate_left
  · have h := o_t h c2
    refine lv_iconst (v := (2 : Int32)) hx hb dX6_reason_25 (by decide) ?_
    have hu := Option.some.inj h
    exact W.iret (v := (2 : Int32)) hx hb hr (fun t ht hW => ⟨congrArg (fun z => Outcome.returned (some (Value.int z))) hu, ht⟩) (fun q hq => absurd hq List.not_mem_nil) dX6_reason_26
  have h := o_f h c2
  refine lv_aload_n hx hb dX6_reason_27 rfl (lv_at hl 0 rfl) ?_
  refine lv_aload_n hx hb dX6_reason_28 rfl (lv_at hl 0 rfl) ?_
  refine va_get (D := (dC, dI)) (ci := 6) (v := .ref (a 1)) (C := RX6) (T := TX6) (N := 11) hx hb huX6 (fun _ h9 => h9) hown hK hP 0 rfl rfl 0 (by decide) w7 (fun _ h9 => h9) rfl dX6_reason_29 ?_
  refine lv_sipush (v := (329 : Int32)) hx hb dX6_reason_32 (by decide) ?_
  refine va_iald hx hb hK hP 1 0 rfl rfl (by unfold vp_in; decide) dX6_reason_35 ?_
  obtain ⟨v3, g4, h⟩ := o_b h
  refine k_ro (va_runV (As := [.int ((g_X6_s S) (329 : Int32).toNatClampNeg)]) (rest := []) ⟨hx, hb, hml, hown, hts⟩ (c_X6_isFed l dC dI cI cF a S ((g_X6_s S) (329 : Int32).toNatClampNeg) v3 g4) (cwV 1 hts gX6_reason_X6_isFed rfl rfl rfl (by decide +kernel) ⟨Nat.le_of_ble_eq_true rfl, Nat.le_of_ble_eq_true rfl⟩) (k_preV (q0 := 0) (ci := 6) hK (hP.sub (ws' := wX6 a cI cF S) [0, 1, 2, 3, 4, 5] rfl) rfl rfl rfl) rfl rfl hl.1 rfl (lv_room (Nat.le_of_ble_eq_true rfl)) dX6_reason_36 ⟨Nat.zero_le _, Nat.zero_le _⟩) (st1 := [.int v3]) rfl ?_
  refine lv_if_eq (tgt := 44) hx hb dX6_reason_39 (by decide) (fun c5 => ?_) (fun c5 => ?_)
  · have h := o_t h c5
    refine lv_iconst (v := (0 : Int32)) hx hb dX6_reason_44 (by decide) ?_
    refine lv_istore_n (lv' := [(1, .int (0 : Int32)), (0, .ref (a 0))]) hx hb dX6_reason_45 rfl hl (by decide) rfl (fun ls hl => ?_)
    exact L46 _ _ h _ (lv_sub hl [1, 0] rfl)
  have h := o_f h c5
  refine lv_iconst (v := (3 : Int32)) hx hb dX6_reason_42 (by decide) ?_
  have hu := Option.some.inj h
  exact W.iret (v := (3 : Int32)) hx hb hr (fun t ht hW => ⟨congrArg (fun z => Outcome.returned (some (Value.int z))) hu, ht⟩) (fun q hq => absurd hq List.not_mem_nil) dX6_reason_43

def m_X6_step_L142 (k122 : Int32 → Int32 → Int32 → S_X6 → Option (S_X6)) (y1 : Int32) (y2 : Int32) (y3 : Int32) (t0 : Int32) (t1 : Int32) (S : S_X6) : Option (S_X6) := nmL (t0 + t1) fun x4_12 => (if x4_12 ≤ ((g_X6_s S) (344 : Int32).toNatClampNeg) then ((m_X6_add S ((g_X6_s S) (329 : Int32).toNatClampNeg) x4_12).bind fun v15 => (nmL (y3 + 1) fun x3_17 => (k122 y1 y2 x3_17 (s_X6_s v15 (upd (g_X6_s v15) (349 : Int32).toNatClampNeg (((g_X6_s v15) (349 : Int32).toNatClampNeg) + (1 : Int32))))))) else (nmL (y3 + 1) fun x3_19 => (k122 y1 y2 x3_19 (s_X6_s S (upd (upd (upd (g_X6_s S) (346 : Int32).toNatClampNeg (((g_X6_s S) (346 : Int32).toNatClampNeg) + (1 : Int32))) (347 : Int32).toNatClampNeg (((upd (g_X6_s S) (346 : Int32).toNatClampNeg (((g_X6_s S) (346 : Int32).toNatClampNeg) + (1 : Int32))) (347 : Int32).toNatClampNeg) + x4_12)) (330 : Int32).toNatClampNeg (1 : Int32))))))
def m_X6_step_L122 : Nat → Int32 → Int32 → Int32 → S_X6 → Option (S_X6)
  | 0, _, _, _, _ => none
  | n + 1, y1, y2, y3, S => if y2 ≤ y3 then (some (s_X6_s S (upd (g_X6_s S) (345 : Int32).toNatClampNeg (((g_X6_s S) (345 : Int32).toNatClampNeg) + (1 : Int32))))) else (if y2 = 0 then none else (if y2 = 0 then none else (if (y1 - y1 / y2 * y2) ≤ y3 then (m_X6_step_L142 (m_X6_step_L122 n) y1 y2 y3 (y1 / y2) (0 : Int32) S) else (m_X6_step_L142 (m_X6_step_L122 n) y1 y2 y3 (y1 / y2) (1 : Int32) S))))
def m_X6_step_L73 (y1 : Int32) (y2 : Int32) (S : S_X6) : Option (S_X6) := if (7 : Int32) ≤ ((upd (g_X6_s S) (333 : Int32).toNatClampNeg y1) (332 : Int32).toNatClampNeg) then (m_X6_step_L122 4000 y1 y2 (0 : Int32) (s_X6_s S (upd (upd (upd (g_X6_s S) (333 : Int32).toNatClampNeg y1) (332 : Int32).toNatClampNeg (((upd (g_X6_s S) (333 : Int32).toNatClampNeg y1) (332 : Int32).toNatClampNeg) + (0 : Int32))) (331 : Int32).toNatClampNeg y2))) else (m_X6_step_L122 4000 y1 y2 (0 : Int32) (s_X6_s S (upd (upd (upd (g_X6_s S) (333 : Int32).toNatClampNeg y1) (332 : Int32).toNatClampNeg (((upd (g_X6_s S) (333 : Int32).toNatClampNeg y1) (332 : Int32).toNatClampNeg) + (1 : Int32))) (331 : Int32).toNatClampNeg y2)))
def m_X6_step_L41 : Nat → Int32 → Int32 → Int32 → S_X6 → Option (S_X6)
  | 0, _, _, _, _ => none
  | n + 1, y1, y2, y3, S => if y3 ≤ 0 then (m_X6_step_L73 y1 y2 S) else (if (((333 : Int32) + y3) - (1 : Int32)) < 0 ∨ 350 ≤ (((333 : Int32) + y3) - (1 : Int32)).toNatClampNeg then none else (if ((333 : Int32) + y3) < 0 ∨ 350 ≤ ((333 : Int32) + y3).toNatClampNeg then none else (nmL (y3 + (-1)) fun x3_23 => ((m_X6_step_L41 n) y1 y2 x3_23 (s_X6_s S (upd (g_X6_s S) ((333 : Int32) + y3).toNatClampNeg ((g_X6_s S) (((333 : Int32) + y3) - (1 : Int32)).toNatClampNeg)))))))
def m_X6_step_L13 : Nat → Int32 → Int32 → Int32 → S_X6 → Option (S_X6)
  | 0, _, _, _, _ => none
  | n + 1, y1, y2, y3, S => if (8 : Int32) ≤ y3 then (m_X6_step_L41 4000 y1 y2 (6 : Int32) S) else ((m_X6_isFed S y3).bind fun v25 => (if v25 = 0 then (nmL (y3 + 1) fun x3_28 => ((m_X6_step_L13 n) y1 y2 x3_28 S)) else ((m_X6_takeFront S y3).bind fun v30 => (nmL (y3 + 1) fun x3_32 => ((m_X6_step_L13 n) y1 y2 x3_32 v30)))))
def m_X6_step (S : S_X6) : Option (S_X6) := (m_X6_feedNow S).bind fun v1 => ((m_X6_draftFor S v1).bind fun v3 => (m_X6_step_L13 4000 v1 v3 (0 : Int32) S))
set_option maxHeartbeats 4000000 in
set_option maxRecDepth 100000 in
theorem c_X6_step (l : Launch) (dC : Nat → ClassId) (dI : Nat → Nat → Nat) (cI cF : ClassId) (a : Nat → Nat) (S : S_X6) (u : S_X6) (h : m_X6_step S = some u) : cRW l (dC, dI) cI cF yX6_step wsX6_step ({ frames := 2, cells := 0, slots := 0, locals := 46 } : Room) [.ref (a 0)] (wX6 a cI cF S) (wX6 a cI cF u) (none) := by
  intro sz
  refine Met.ofW (cc := cX6_step) (maxL := 5) (ret := none) (by decide) rfl ?_
  intro p e s m args below meth c s₁ B hml hv
  obtain ⟨hargs, hsz, hP, hK, hD0⟩ := hv
  subst hargs
  have hx := B.exec
  have hb := B.bytes
  have hr := B.returns
  have hts := atoms_spec (ws := wsX6_step) B.pre
  have hown : s.vm.findClass RX6 = some m.cls := findClass_of_methodNamed B.named
  have hlocks := B.notSynchronized
  have w44 := hts (.methodLink RX6 44 yX6_isFed) (List.mem_of_getElem? (i := 7) rfl)
  have w51 := hts (.methodLink RX6 51 yX6_feedNow) (List.mem_of_getElem? (i := 2) rfl)
  have w55 := hts (.methodLink RX6 55 yX6_draftFor) (List.mem_of_getElem? (i := 15) rfl)
  have w58 := hts (.methodLink RX6 58 yX6_takeFront) (List.mem_of_getElem? (i := 23) rfl)
  have w62 := hts (.methodLink RX6 62 yX6_add) (List.mem_of_getElem? (i := 31) rfl)
  have w7 := hts (.fieldLink RX6 7 "DrawnSliversModel" "s" "[I") (List.mem_of_getElem? (i := 1) rfl)
  have huX6 : ∀ w ∈ u_ws RX6 TX6 11, w.before _ s = true := fun w h => hts w (List.mem_cons_of_mem _ (List.mem_append_right _ (h)))
  subst hsz
  have hD := hD0.self (sz := s.heap.size)
  generalize hAe : va_A (wX6 a cI cF S) s.heap.size = A at hD ⊢
  have hA : ∀ q : Nat, s.heap.size ≤ q → A q := fun q h => by rw [← hAe]; exact Or.inr h
  have hS : va_S A s.heap s.heap [] := va_S.rf
  have L142 : ∀ (k122 : Int32 → Int32 → Int32 → S_X6 → Option (S_X6)) (ih122 : ∀ (y1 : Int32) (y2 : Int32) (y3 : Int32) (S : S_X6), k122 y1 y2 y3 S = some u → ∀ (H : Heap) (locs : List Loc), va_P (dC, dI) vwCl (wX6 a cI cF S) H → va_D A (wX6 a cI cF S) → va_S A s.heap H locs → ∀ (ls : Array Slot), lv_has ls 5 [(0, .ref (a 0)), (1, .int y1), (2, .int y2), (3, .int y3)] → W p l e (headSpec wsX6_step ({ frames := 2, cells := 0, slots := 0, locals := 46 } : Room)).room s m ([.ref (a 0)] : List Value).toArray below meth c H locs 0 0 (MQ below (qRW (dC, dI) (wX6 a cI cF u) (none) A) ([.ref (a 0)] : List Value).toArray s 0 0 A) (F0 m 122 ls [])), ∀ (y1 : Int32) (y2 : Int32) (y3 : Int32) (t0 : Int32) (t1 : Int32) (S : S_X6), m_X6_step_L142 k122 y1 y2 y3 t0 t1 S = some u → ∀ (H : Heap) (locs : List Loc), va_P (dC, dI) vwCl (wX6 a cI cF S) H → va_D A (wX6 a cI cF S) → va_S A s.heap H locs → ∀ (ls : Array Slot), lv_has ls 5 [(0, .ref (a 0)), (1, .int y1), (2, .int y2), (3, .int y3)] → W p l e (headSpec wsX6_step ({ frames := 2, cells := 0, slots := 0, locals := 46 } : Room)).room s m ([.ref (a 0)] : List Value).toArray below meth c H locs 0 0 (MQ below (qRW (dC, dI) (wX6 a cI cF u) (none) A) ([.ref (a 0)] : List Value).toArray s 0 0 A) (F0 m 142 ls [.int t1, .int t0]) := by
    intro k122 ih122 y1 y2 y3 t0 t1 S h H locs hP hD hS ls hl
    rw [m_X6_step_L142] at h
    refine lv_iadd hx hb dX6_step_142 ?_
    obtain ⟨x4_12, e13, h⟩ := o_n h
    refine lv_nmi e13 ?_
    refine lv_istore (lv' := [(4, .int x4_12), (0, .ref (a 0)), (1, .int y1), (2, .int y2), (3, .int y3)]) hx hb dX6_step_143 hl (by decide) rfl (fun ls hl => ?_)
    refine lv_iload hx hb dX6_step_145 (lv_at hl 0 rfl) ?_
    refine lv_aload_n hx hb dX6_step_147 rfl (lv_at hl 1 rfl) ?_
    refine va_get (D := (dC, dI)) (ci := 6) (v := .ref (a 1)) (C := RX6) (T := TX6) (N := 11) hx hb huX6 (fun _ h9 => h9) hown hK hP 0 rfl rfl 0 (by decide) w7 (fun _ h9 => h9) rfl dX6_step_148 ?_
    refine lv_sipush (v := (344 : Int32)) hx hb dX6_step_151 (by decide) ?_
    refine va_iald hx hb hK hP 1 0 rfl rfl (by unfold vp_in; decide) dX6_step_154 ?_
    refine lv_icmp_le (tgt := 195) hx hb dX6_step_155 (by decide) (fun c14 => ?_) (fun c14 => ?_)
    · have h := o_t h c14
      refine lv_aload_n hx hb dX6_step_195 rfl (lv_at hl 1 rfl) ?_
      refine lv_aload_n hx hb dX6_step_196 rfl (lv_at hl 1 rfl) ?_
      refine va_get (D := (dC, dI)) (ci := 6) (v := .ref (a 1)) (C := RX6) (T := TX6) (N := 11) hx hb huX6 (fun _ h9 => h9) hown hK hP 0 rfl rfl 0 (by decide) w7 (fun _ h9 => h9) rfl dX6_step_197 ?_
      refine lv_sipush (v := (329 : Int32)) hx hb dX6_step_200 (by decide) ?_
      refine va_iald hx hb hK hP 1 0 rfl rfl (by unfold vp_in; decide) dX6_step_203 ?_
      refine lv_iload hx hb dX6_step_204 (lv_at hl 0 rfl) ?_
      obtain ⟨v15, g16, h⟩ := o_b h
      refine k_rw (va_runV (As := [.int ((g_X6_s S) (329 : Int32).toNatClampNeg), .int x4_12]) (rest := []) ⟨hx, hb, hml, hown, hts⟩ (c_X6_add l dC dI cI cF a S ((g_X6_s S) (329 : Int32).toNatClampNeg) x4_12 v15 g16 H.size) (cwV 2 hts gX6_step_X6_add rfl rfl rfl (by decide +kernel) ⟨Nat.le_of_ble_eq_true rfl, Nat.le_of_ble_eq_true rfl⟩) (k_preVw (q0 := 0) (ci := 6) hK hP hD [0, 1, 2, 3, 4, 5] rfl rfl rfl rfl rfl) rfl rfl hl.1 rfl (lv_room (Nat.le_of_ble_eq_true rfl)) dX6_step_206 ⟨Nat.zero_le _, Nat.zero_le _⟩) (st1 := []) rfl hP hD hS hA [0, 1, 2, 3, 4, 5] rfl rfl (wn := wX6 a cI cF v15) rfl rfl rfl (fun H locs hP hD hS => ?_)
      refine lv_aload_n hx hb dX6_step_209 rfl (lv_at hl 1 rfl) ?_
      refine va_get (D := (dC, dI)) (ci := 6) (v := .ref (a 1)) (C := RX6) (T := TX6) (N := 11) hx hb huX6 (fun _ h9 => h9) hown hK hP 0 rfl rfl 0 (by decide) w7 (fun _ h9 => h9) rfl dX6_step_210 ?_
      refine lv_sipush (v := (349 : Int32)) hx hb dX6_step_213 (by decide) ?_
      refine lv_dup2_11 hx hb dX6_step_216 rfl rfl ?_
      refine va_iald hx hb hK hP 1 0 rfl rfl (by unfold vp_in; decide) dX6_step_217 ?_
      refine lv_iconst (v := (1 : Int32)) hx hb dX6_step_218 (by decide) ?_
      refine lv_iadd hx hb dX6_step_219 ?_
      refine va_iast hx hb hK hP hD hS 1 0 rfl rfl (by unfold vp_in; decide) dX6_step_220 (fun H locs hP hD hS => ?_)
      have hP : va_P (dC, dI) vwCl (wX6 a cI cF (s_X6_s v15 (upd (g_X6_s v15) (349 : Int32).toNatClampNeg (((g_X6_s v15) (349 : Int32).toNatClampNeg) + (1 : Int32))))) H := hP
      have hD : va_D A (wX6 a cI cF (s_X6_s v15 (upd (g_X6_s v15) (349 : Int32).toNatClampNeg (((g_X6_s v15) (349 : Int32).toNatClampNeg) + (1 : Int32))))) := hD
      obtain ⟨x3_17, e18, h⟩ := o_n h
      refine lv_iinc (v := x3_17) (lv' := [(3, .int x3_17), (4, .int x4_12), (0, .ref (a 0)), (1, .int y1), (2, .int y2)]) hx hb dX6_step_221 hl (k := 4) rfl (by rw [e18]; rfl) (by decide) rfl (fun ls hl => ?_)
      refine lv_goto (tgt := 122) hx hb dX6_step_224 (by decide) ?_
      exact ih122 _ _ _ _ h _ _ hP hD hS _ (lv_sub hl [2, 3, 4, 0] rfl)
    have h := o_f h c14
    refine lv_aload_n hx hb dX6_step_158 rfl (lv_at hl 1 rfl) ?_
    refine va_get (D := (dC, dI)) (ci := 6) (v := .ref (a 1)) (C := RX6) (T := TX6) (N := 11) hx hb huX6 (fun _ h9 => h9) hown hK hP 0 rfl rfl 0 (by decide) w7 (fun _ h9 => h9) rfl dX6_step_159 ?_
    refine lv_sipush (v := (346 : Int32)) hx hb dX6_step_162 (by decide) ?_
    refine lv_dup2_11 hx hb dX6_step_165 rfl rfl ?_
    refine va_iald hx hb hK hP 1 0 rfl rfl (by unfold vp_in; decide) dX6_step_166 ?_
    refine lv_iconst (v := (1 : Int32)) hx hb dX6_step_167 (by decide) ?_
    refine lv_iadd hx hb dX6_step_168 ?_
    refine va_iast hx hb hK hP hD hS 1 0 rfl rfl (by unfold vp_in; decide) dX6_step_169 (fun H locs hP hD hS => ?_)
    have hP : va_P (dC, dI) vwCl (wX6 a cI cF (s_X6_s S (upd (g_X6_s S) (346 : Int32).toNatClampNeg (((g_X6_s S) (346 : Int32).toNatClampNeg) + (1 : Int32))))) H := hP
    have hD : va_D A (wX6 a cI cF (s_X6_s S (upd (g_X6_s S) (346 : Int32).toNatClampNeg (((g_X6_s S) (346 : Int32).toNatClampNeg) + (1 : Int32))))) := hD
    refine lv_aload_n hx hb dX6_step_170 rfl (lv_at hl 1 rfl) ?_
    refine va_get (D := (dC, dI)) (ci := 6) (v := .ref (a 1)) (C := RX6) (T := TX6) (N := 11) hx hb huX6 (fun _ h9 => h9) hown hK hP 0 rfl rfl 0 (by decide) w7 (fun _ h9 => h9) rfl dX6_step_171 ?_
    refine lv_sipush (v := (347 : Int32)) hx hb dX6_step_174 (by decide) ?_
    refine lv_dup2_11 hx hb dX6_step_177 rfl rfl ?_
    refine va_iald hx hb hK hP 1 0 rfl rfl (by unfold vp_in; decide) dX6_step_178 ?_
    refine lv_iload hx hb dX6_step_179 (lv_at hl 0 rfl) ?_
    refine lv_iadd hx hb dX6_step_181 ?_
    refine va_iast hx hb hK hP hD hS 1 0 rfl rfl (by unfold vp_in; decide) dX6_step_182 (fun H locs hP hD hS => ?_)
    have hP : va_P (dC, dI) vwCl (wX6 a cI cF (s_X6_s S (upd (upd (g_X6_s S) (346 : Int32).toNatClampNeg (((g_X6_s S) (346 : Int32).toNatClampNeg) + (1 : Int32))) (347 : Int32).toNatClampNeg (((upd (g_X6_s S) (346 : Int32).toNatClampNeg (((g_X6_s S) (346 : Int32).toNatClampNeg) + (1 : Int32))) (347 : Int32).toNatClampNeg) + x4_12)))) H := hP
    have hD : va_D A (wX6 a cI cF (s_X6_s S (upd (upd (g_X6_s S) (346 : Int32).toNatClampNeg (((g_X6_s S) (346 : Int32).toNatClampNeg) + (1 : Int32))) (347 : Int32).toNatClampNeg (((upd (g_X6_s S) (346 : Int32).toNatClampNeg (((g_X6_s S) (346 : Int32).toNatClampNeg) + (1 : Int32))) (347 : Int32).toNatClampNeg) + x4_12)))) := hD
    refine lv_aload_n hx hb dX6_step_183 rfl (lv_at hl 1 rfl) ?_
    refine va_get (D := (dC, dI)) (ci := 6) (v := .ref (a 1)) (C := RX6) (T := TX6) (N := 11) hx hb huX6 (fun _ h9 => h9) hown hK hP 0 rfl rfl 0 (by decide) w7 (fun _ h9 => h9) rfl dX6_step_184 ?_
    refine lv_sipush (v := (330 : Int32)) hx hb dX6_step_187 (by decide) ?_
    refine lv_iconst (v := (1 : Int32)) hx hb dX6_step_190 (by decide) ?_
    refine va_iast hx hb hK hP hD hS 1 0 rfl rfl (by unfold vp_in; decide) dX6_step_191 (fun H locs hP hD hS => ?_)
    have hP : va_P (dC, dI) vwCl (wX6 a cI cF (s_X6_s S (upd (upd (upd (g_X6_s S) (346 : Int32).toNatClampNeg (((g_X6_s S) (346 : Int32).toNatClampNeg) + (1 : Int32))) (347 : Int32).toNatClampNeg (((upd (g_X6_s S) (346 : Int32).toNatClampNeg (((g_X6_s S) (346 : Int32).toNatClampNeg) + (1 : Int32))) (347 : Int32).toNatClampNeg) + x4_12)) (330 : Int32).toNatClampNeg (1 : Int32)))) H := hP
    have hD : va_D A (wX6 a cI cF (s_X6_s S (upd (upd (upd (g_X6_s S) (346 : Int32).toNatClampNeg (((g_X6_s S) (346 : Int32).toNatClampNeg) + (1 : Int32))) (347 : Int32).toNatClampNeg (((upd (g_X6_s S) (346 : Int32).toNatClampNeg (((g_X6_s S) (346 : Int32).toNatClampNeg) + (1 : Int32))) (347 : Int32).toNatClampNeg) + x4_12)) (330 : Int32).toNatClampNeg (1 : Int32)))) := hD
    refine lv_goto (tgt := 221) hx hb dX6_step_192 (by decide) ?_
    obtain ⟨x3_19, e20, h⟩ := o_n h
    refine lv_iinc (v := x3_19) (lv' := [(3, .int x3_19), (4, .int x4_12), (0, .ref (a 0)), (1, .int y1), (2, .int y2)]) hx hb dX6_step_221 hl (k := 4) rfl (by rw [e20]; rfl) (by decide) rfl (fun ls hl => ?_)
    refine lv_goto (tgt := 122) hx hb dX6_step_224 (by decide) ?_
    exact ih122 _ _ _ _ h _ _ hP hD hS _ (lv_sub hl [2, 3, 4, 0] rfl)
  have L122 : ∀ (n : Nat), ∀ (y1 : Int32) (y2 : Int32) (y3 : Int32) (S : S_X6), m_X6_step_L122 n y1 y2 y3 S = some u → ∀ (H : Heap) (locs : List Loc), va_P (dC, dI) vwCl (wX6 a cI cF S) H → va_D A (wX6 a cI cF S) → va_S A s.heap H locs → ∀ (ls : Array Slot), lv_has ls 5 [(0, .ref (a 0)), (1, .int y1), (2, .int y2), (3, .int y3)] → W p l e (headSpec wsX6_step ({ frames := 2, cells := 0, slots := 0, locals := 46 } : Room)).room s m ([.ref (a 0)] : List Value).toArray below meth c H locs 0 0 (MQ below (qRW (dC, dI) (wX6 a cI cF u) (none) A) ([.ref (a 0)] : List Value).toArray s 0 0 A) (F0 m 122 ls []) := by
    intro  n
    induction n with
    | zero =>
      intro y1 y2 y3 S h
      exact (o_0 h).elim
    | succ n ih122 =>
      intro y1 y2 y3 S h H locs hP hD hS ls hl
      rw [m_X6_step_L122] at h
      refine lv_iload_n hx hb dX6_step_122 rfl (lv_at hl 3 rfl) ?_
      refine lv_iload_n hx hb dX6_step_123 rfl (lv_at hl 2 rfl) ?_
      refine lv_icmp_ge (tgt := 227) hx hb dX6_step_124 (by decide) (fun c8 => ?_) (fun c8 => ?_)
      · have h := o_t h c8
        refine lv_aload_n hx hb dX6_step_227 rfl (lv_at hl 0 rfl) ?_
        refine va_get (D := (dC, dI)) (ci := 6) (v := .ref (a 1)) (C := RX6) (T := TX6) (N := 11) hx hb huX6 (fun _ h9 => h9) hown hK hP 0 rfl rfl 0 (by decide) w7 (fun _ h9 => h9) rfl dX6_step_228 ?_
        refine lv_sipush (v := (345 : Int32)) hx hb dX6_step_231 (by decide) ?_
        refine lv_dup2_11 hx hb dX6_step_234 rfl rfl ?_
        refine va_iald hx hb hK hP 1 0 rfl rfl (by unfold vp_in; decide) dX6_step_235 ?_
        refine lv_iconst (v := (1 : Int32)) hx hb dX6_step_236 (by decide) ?_
        refine lv_iadd hx hb dX6_step_237 ?_
        refine va_iast hx hb hK hP hD hS 1 0 rfl rfl (by unfold vp_in; decide) dX6_step_238 (fun H locs hP hD hS => ?_)
        have hP : va_P (dC, dI) vwCl (wX6 a cI cF (s_X6_s S (upd (g_X6_s S) (345 : Int32).toNatClampNeg (((g_X6_s S) (345 : Int32).toNatClampNeg) + (1 : Int32))))) H := hP
        have hD : va_D A (wX6 a cI cF (s_X6_s S (upd (g_X6_s S) (345 : Int32).toNatClampNeg (((g_X6_s S) (345 : Int32).toNatClampNeg) + (1 : Int32))))) := hD
        have hu := Option.some.inj h
        exact W.vret hx hb hr (fun t ht hW => ⟨⟨rfl, by rw [ht, ← hu]; exact hP⟩, hS.F ht⟩) hS.2.2 dX6_step_239
      have h := o_f h c8
      refine lv_iload_n hx hb dX6_step_127 rfl (lv_at hl 1 rfl) ?_
      refine lv_iload_n hx hb dX6_step_128 rfl (lv_at hl 2 rfl) ?_
      obtain ⟨i9, h⟩ := o_in h
      refine lv_idiv hx hb dX6_step_129 i9 ?_
      refine lv_iload_n hx hb dX6_step_130 rfl (lv_at hl 3 rfl) ?_
      refine lv_iload_n hx hb dX6_step_131 rfl (lv_at hl 1 rfl) ?_
      refine lv_iload_n hx hb dX6_step_132 rfl (lv_at hl 2 rfl) ?_
      obtain ⟨i10, h⟩ := o_in h
      refine lv_irem hx hb dX6_step_133 i10 ?_
      refine lv_icmp_ge (tgt := 141) hx hb dX6_step_134 (by decide) (fun c11 => ?_) (fun c11 => ?_)
      · have h := o_t h c11
        refine lv_iconst (v := (0 : Int32)) hx hb dX6_step_141 (by decide) ?_
        exact L142 _ ih122 _ _ _ _ _ _ h _ _ hP hD hS _ (lv_sub hl [0, 1, 2, 3] rfl)
      have h := o_f h c11
      refine lv_iconst (v := (1 : Int32)) hx hb dX6_step_137 (by decide) ?_
      refine lv_goto (tgt := 142) hx hb dX6_step_138 (by decide) ?_
      exact L142 _ ih122 _ _ _ _ _ _ h _ _ hP hD hS _ (lv_sub hl [0, 1, 2, 3] rfl)
  have L73 : ∀ (y1 : Int32) (y2 : Int32) (S : S_X6), m_X6_step_L73 y1 y2 S = some u → ∀ (H : Heap) (locs : List Loc), va_P (dC, dI) vwCl (wX6 a cI cF S) H → va_D A (wX6 a cI cF S) → va_S A s.heap H locs → ∀ (ls : Array Slot), lv_has ls 5 [(0, .ref (a 0)), (1, .int y1), (2, .int y2)] → W p l e (headSpec wsX6_step ({ frames := 2, cells := 0, slots := 0, locals := 46 } : Room)).room s m ([.ref (a 0)] : List Value).toArray below meth c H locs 0 0 (MQ below (qRW (dC, dI) (wX6 a cI cF u) (none) A) ([.ref (a 0)] : List Value).toArray s 0 0 A) (F0 m 73 ls []) := by
    intro  y1 y2 S h H locs hP hD hS ls hl
    rw [m_X6_step_L73] at h
    refine lv_aload_n hx hb dX6_step_73 rfl (lv_at hl 0 rfl) ?_
    refine va_get (D := (dC, dI)) (ci := 6) (v := .ref (a 1)) (C := RX6) (T := TX6) (N := 11) hx hb huX6 (fun _ h9 => h9) hown hK hP 0 rfl rfl 0 (by decide) w7 (fun _ h9 => h9) rfl dX6_step_74 ?_
    refine lv_sipush (v := (333 : Int32)) hx hb dX6_step_77 (by decide) ?_
    refine lv_iload_n hx hb dX6_step_80 rfl (lv_at hl 1 rfl) ?_
    refine va_iast hx hb hK hP hD hS 1 0 rfl rfl (by unfold vp_in; decide) dX6_step_81 (fun H locs hP hD hS => ?_)
    have hP : va_P (dC, dI) vwCl (wX6 a cI cF (s_X6_s S (upd (g_X6_s S) (333 : Int32).toNatClampNeg y1))) H := hP
    have hD : va_D A (wX6 a cI cF (s_X6_s S (upd (g_X6_s S) (333 : Int32).toNatClampNeg y1))) := hD
    refine lv_aload_n hx hb dX6_step_82 rfl (lv_at hl 0 rfl) ?_
    refine va_get (D := (dC, dI)) (ci := 6) (v := .ref (a 1)) (C := RX6) (T := TX6) (N := 11) hx hb huX6 (fun _ h9 => h9) hown hK hP 0 rfl rfl 0 (by decide) w7 (fun _ h9 => h9) rfl dX6_step_83 ?_
    refine lv_sipush (v := (332 : Int32)) hx hb dX6_step_86 (by decide) ?_
    refine lv_dup2_11 hx hb dX6_step_89 rfl rfl ?_
    refine va_iald hx hb hK hP 1 0 rfl rfl (by unfold vp_in; decide) dX6_step_90 ?_
    refine lv_aload_n hx hb dX6_step_91 rfl (lv_at hl 0 rfl) ?_
    refine va_get (D := (dC, dI)) (ci := 6) (v := .ref (a 1)) (C := RX6) (T := TX6) (N := 11) hx hb huX6 (fun _ h9 => h9) hown hK hP 0 rfl rfl 0 (by decide) w7 (fun _ h9 => h9) rfl dX6_step_92 ?_
    refine lv_sipush (v := (332 : Int32)) hx hb dX6_step_95 (by decide) ?_
    refine va_iald hx hb hK hP 1 0 rfl rfl (by unfold vp_in; decide) dX6_step_98 ?_
    refine lv_bipush (v := (7 : Int32)) hx hb dX6_step_99 (by decide) ?_
    refine lv_icmp_ge (tgt := 108) hx hb dX6_step_101 (by decide) (fun c7 => ?_) (fun c7 => ?_)
    · have h := o_t h c7
      refine lv_iconst (v := (0 : Int32)) hx hb dX6_step_108 (by decide) ?_
      refine lv_iadd hx hb dX6_step_109 ?_
      refine va_iast hx hb hK hP hD hS 1 0 rfl rfl (by unfold vp_in; decide) dX6_step_110 (fun H locs hP hD hS => ?_)
      have hP : va_P (dC, dI) vwCl (wX6 a cI cF (s_X6_s S (upd (upd (g_X6_s S) (333 : Int32).toNatClampNeg y1) (332 : Int32).toNatClampNeg (((upd (g_X6_s S) (333 : Int32).toNatClampNeg y1) (332 : Int32).toNatClampNeg) + (0 : Int32))))) H := hP
      have hD : va_D A (wX6 a cI cF (s_X6_s S (upd (upd (g_X6_s S) (333 : Int32).toNatClampNeg y1) (332 : Int32).toNatClampNeg (((upd (g_X6_s S) (333 : Int32).toNatClampNeg y1) (332 : Int32).toNatClampNeg) + (0 : Int32))))) := hD
      refine lv_aload_n hx hb dX6_step_111 rfl (lv_at hl 0 rfl) ?_
      refine va_get (D := (dC, dI)) (ci := 6) (v := .ref (a 1)) (C := RX6) (T := TX6) (N := 11) hx hb huX6 (fun _ h9 => h9) hown hK hP 0 rfl rfl 0 (by decide) w7 (fun _ h9 => h9) rfl dX6_step_112 ?_
      refine lv_sipush (v := (331 : Int32)) hx hb dX6_step_115 (by decide) ?_
      refine lv_iload_n hx hb dX6_step_118 rfl (lv_at hl 2 rfl) ?_
      refine va_iast hx hb hK hP hD hS 1 0 rfl rfl (by unfold vp_in; decide) dX6_step_119 (fun H locs hP hD hS => ?_)
      have hP : va_P (dC, dI) vwCl (wX6 a cI cF (s_X6_s S (upd (upd (upd (g_X6_s S) (333 : Int32).toNatClampNeg y1) (332 : Int32).toNatClampNeg (((upd (g_X6_s S) (333 : Int32).toNatClampNeg y1) (332 : Int32).toNatClampNeg) + (0 : Int32))) (331 : Int32).toNatClampNeg y2))) H := hP
      have hD : va_D A (wX6 a cI cF (s_X6_s S (upd (upd (upd (g_X6_s S) (333 : Int32).toNatClampNeg y1) (332 : Int32).toNatClampNeg (((upd (g_X6_s S) (333 : Int32).toNatClampNeg y1) (332 : Int32).toNatClampNeg) + (0 : Int32))) (331 : Int32).toNatClampNeg y2))) := hD
      refine lv_iconst (v := (0 : Int32)) hx hb dX6_step_120 (by decide) ?_
      refine lv_istore_n (lv' := [(3, .int (0 : Int32)), (0, .ref (a 0)), (1, .int y1), (2, .int y2)]) hx hb dX6_step_121 rfl hl (by decide) rfl (fun ls hl => ?_)
      exact L122 _ _ _ _ _ h _ _ hP hD hS _ (lv_sub hl [1, 2, 3, 0] rfl)
    have h := o_f h c7
    refine lv_iconst (v := (1 : Int32)) hx hb dX6_step_104 (by decide) ?_
    refine lv_goto (tgt := 109) hx hb dX6_step_105 (by decide) ?_
    refine lv_iadd hx hb dX6_step_109 ?_
    refine va_iast hx hb hK hP hD hS 1 0 rfl rfl (by unfold vp_in; decide) dX6_step_110 (fun H locs hP hD hS => ?_)
    have hP : va_P (dC, dI) vwCl (wX6 a cI cF (s_X6_s S (upd (upd (g_X6_s S) (333 : Int32).toNatClampNeg y1) (332 : Int32).toNatClampNeg (((upd (g_X6_s S) (333 : Int32).toNatClampNeg y1) (332 : Int32).toNatClampNeg) + (1 : Int32))))) H := hP
    have hD : va_D A (wX6 a cI cF (s_X6_s S (upd (upd (g_X6_s S) (333 : Int32).toNatClampNeg y1) (332 : Int32).toNatClampNeg (((upd (g_X6_s S) (333 : Int32).toNatClampNeg y1) (332 : Int32).toNatClampNeg) + (1 : Int32))))) := hD
    refine lv_aload_n hx hb dX6_step_111 rfl (lv_at hl 0 rfl) ?_
    refine va_get (D := (dC, dI)) (ci := 6) (v := .ref (a 1)) (C := RX6) (T := TX6) (N := 11) hx hb huX6 (fun _ h9 => h9) hown hK hP 0 rfl rfl 0 (by decide) w7 (fun _ h9 => h9) rfl dX6_step_112 ?_
    refine lv_sipush (v := (331 : Int32)) hx hb dX6_step_115 (by decide) ?_
    refine lv_iload_n hx hb dX6_step_118 rfl (lv_at hl 2 rfl) ?_
    refine va_iast hx hb hK hP hD hS 1 0 rfl rfl (by unfold vp_in; decide) dX6_step_119 (fun H locs hP hD hS => ?_)
    have hP : va_P (dC, dI) vwCl (wX6 a cI cF (s_X6_s S (upd (upd (upd (g_X6_s S) (333 : Int32).toNatClampNeg y1) (332 : Int32).toNatClampNeg (((upd (g_X6_s S) (333 : Int32).toNatClampNeg y1) (332 : Int32).toNatClampNeg) + (1 : Int32))) (331 : Int32).toNatClampNeg y2))) H := hP
    have hD : va_D A (wX6 a cI cF (s_X6_s S (upd (upd (upd (g_X6_s S) (333 : Int32).toNatClampNeg y1) (332 : Int32).toNatClampNeg (((upd (g_X6_s S) (333 : Int32).toNatClampNeg y1) (332 : Int32).toNatClampNeg) + (1 : Int32))) (331 : Int32).toNatClampNeg y2))) := hD
    refine lv_iconst (v := (0 : Int32)) hx hb dX6_step_120 (by decide) ?_
    refine lv_istore_n (lv' := [(3, .int (0 : Int32)), (0, .ref (a 0)), (1, .int y1), (2, .int y2)]) hx hb dX6_step_121 rfl hl (by decide) rfl (fun ls hl => ?_)
    exact L122 _ _ _ _ _ h _ _ hP hD hS _ (lv_sub hl [1, 2, 3, 0] rfl)
  have L41 : ∀ (n : Nat), ∀ (y1 : Int32) (y2 : Int32) (y3 : Int32) (S : S_X6), m_X6_step_L41 n y1 y2 y3 S = some u → ∀ (H : Heap) (locs : List Loc), va_P (dC, dI) vwCl (wX6 a cI cF S) H → va_D A (wX6 a cI cF S) → va_S A s.heap H locs → ∀ (ls : Array Slot), lv_has ls 5 [(0, .ref (a 0)), (1, .int y1), (2, .int y2), (3, .int y3)] → W p l e (headSpec wsX6_step ({ frames := 2, cells := 0, slots := 0, locals := 46 } : Room)).room s m ([.ref (a 0)] : List Value).toArray below meth c H locs 0 0 (MQ below (qRW (dC, dI) (wX6 a cI cF u) (none) A) ([.ref (a 0)] : List Value).toArray s 0 0 A) (F0 m 41 ls []) := by
    intro  n
    induction n with
    | zero =>
      intro y1 y2 y3 S h
      exact (o_0 h).elim
    | succ n ih41 =>
      intro y1 y2 y3 S h H locs hP hD hS ls hl
      rw [m_X6_step_L41] at h
      refine lv_iload_n hx hb dX6_step_41 rfl (lv_at hl 3 rfl) ?_
      refine lv_if_le (tgt := 73) hx hb dX6_step_42 (by decide) (fun c6 => ?_) (fun c6 => ?_)
      · have h := o_t h c6
        exact L73 _ _ _ h _ _ hP hD hS _ (lv_sub hl [0, 1, 2] rfl)
      have h := o_f h c6
      refine lv_aload_n hx hb dX6_step_45 rfl (lv_at hl 0 rfl) ?_
      refine va_get (D := (dC, dI)) (ci := 6) (v := .ref (a 1)) (C := RX6) (T := TX6) (N := 11) hx hb huX6 (fun _ h9 => h9) hown hK hP 0 rfl rfl 0 (by decide) w7 (fun _ h9 => h9) rfl dX6_step_46 ?_
      refine lv_sipush (v := (333 : Int32)) hx hb dX6_step_49 (by decide) ?_
      refine lv_iload_n hx hb dX6_step_52 rfl (lv_at hl 3 rfl) ?_
      refine lv_iadd hx hb dX6_step_53 ?_
      refine lv_aload_n hx hb dX6_step_54 rfl (lv_at hl 0 rfl) ?_
      refine va_get (D := (dC, dI)) (ci := 6) (v := .ref (a 1)) (C := RX6) (T := TX6) (N := 11) hx hb huX6 (fun _ h9 => h9) hown hK hP 0 rfl rfl 0 (by decide) w7 (fun _ h9 => h9) rfl dX6_step_55 ?_
      refine lv_sipush (v := (333 : Int32)) hx hb dX6_step_58 (by decide) ?_
      refine lv_iload_n hx hb dX6_step_61 rfl (lv_at hl 3 rfl) ?_
      refine lv_iadd hx hb dX6_step_62 ?_
      refine lv_iconst (v := (1 : Int32)) hx hb dX6_step_63 (by decide) ?_
      refine lv_isub hx hb dX6_step_64 ?_
      obtain ⟨i21, h⟩ := o_in h
      refine va_iald hx hb hK hP 1 0 rfl rfl i21 dX6_step_65 ?_
      obtain ⟨i22, h⟩ := o_in h
      refine va_iast hx hb hK hP hD hS 1 0 rfl rfl i22 dX6_step_66 (fun H locs hP hD hS => ?_)
      have hP : va_P (dC, dI) vwCl (wX6 a cI cF (s_X6_s S (upd (g_X6_s S) ((333 : Int32) + y3).toNatClampNeg ((g_X6_s S) (((333 : Int32) + y3) - (1 : Int32)).toNatClampNeg)))) H := hP
      have hD : va_D A (wX6 a cI cF (s_X6_s S (upd (g_X6_s S) ((333 : Int32) + y3).toNatClampNeg ((g_X6_s S) (((333 : Int32) + y3) - (1 : Int32)).toNatClampNeg)))) := hD
      obtain ⟨x3_23, e24, h⟩ := o_n h
      refine lv_iinc (v := x3_23) (lv' := [(3, .int x3_23), (0, .ref (a 0)), (1, .int y1), (2, .int y2)]) hx hb dX6_step_67 hl (k := 3) rfl (by rw [e24]; rfl) (by decide) rfl (fun ls hl => ?_)
      refine lv_goto (tgt := 41) hx hb dX6_step_70 (by decide) ?_
      exact ih41 _ _ _ _ h _ _ hP hD hS _ (lv_sub hl [1, 2, 3, 0] rfl)
  have L13 : ∀ (n : Nat), ∀ (y1 : Int32) (y2 : Int32) (y3 : Int32) (S : S_X6), m_X6_step_L13 n y1 y2 y3 S = some u → ∀ (H : Heap) (locs : List Loc), va_P (dC, dI) vwCl (wX6 a cI cF S) H → va_D A (wX6 a cI cF S) → va_S A s.heap H locs → ∀ (ls : Array Slot), lv_has ls 5 [(0, .ref (a 0)), (1, .int y1), (2, .int y2), (3, .int y3)] → W p l e (headSpec wsX6_step ({ frames := 2, cells := 0, slots := 0, locals := 46 } : Room)).room s m ([.ref (a 0)] : List Value).toArray below meth c H locs 0 0 (MQ below (qRW (dC, dI) (wX6 a cI cF u) (none) A) ([.ref (a 0)] : List Value).toArray s 0 0 A) (F0 m 13 ls []) := by
    intro  n
    induction n with
    | zero =>
      intro y1 y2 y3 S h
      exact (o_0 h).elim
    | succ n ih13 =>
      intro y1 y2 y3 S h H locs hP hD hS ls hl
      rw [m_X6_step_L13] at h
      refine lv_iload_n hx hb dX6_step_13 rfl (lv_at hl 3 rfl) ?_
      refine lv_bipush (v := (8 : Int32)) hx hb dX6_step_14 (by decide) ?_
      refine lv_icmp_ge (tgt := 38) hx hb dX6_step_16 (by decide) (fun c5 => ?_) (fun c5 => ?_)
      · have h := o_t h c5
        refine lv_bipush (v := (6 : Int32)) hx hb dX6_step_38 (by decide) ?_
        refine lv_istore_n (lv' := [(3, .int (6 : Int32)), (0, .ref (a 0)), (1, .int y1), (2, .int y2)]) hx hb dX6_step_40 rfl hl (by decide) rfl (fun ls hl => ?_)
        exact L41 _ _ _ _ _ h _ _ hP hD hS _ (lv_sub hl [1, 2, 3, 0] rfl)
      have h := o_f h c5
      refine lv_aload_n hx hb dX6_step_19 rfl (lv_at hl 0 rfl) ?_
      refine lv_iload_n hx hb dX6_step_20 rfl (lv_at hl 3 rfl) ?_
      obtain ⟨v25, g26, h⟩ := o_b h
      refine k_ro (va_runV (As := [.int y3]) (rest := []) ⟨hx, hb, hml, hown, hts⟩ (c_X6_isFed l dC dI cI cF a S y3 v25 g26) (cwV 1 hts gX6_step_X6_isFed rfl rfl rfl (by decide +kernel) ⟨Nat.le_of_ble_eq_true rfl, Nat.le_of_ble_eq_true rfl⟩) (k_preV (q0 := 0) (ci := 6) hK (hP.sub (ws' := wX6 a cI cF S) [0, 1, 2, 3, 4, 5] rfl) rfl rfl rfl) rfl rfl hl.1 rfl (lv_room (Nat.le_of_ble_eq_true rfl)) dX6_step_21 ⟨Nat.zero_le _, Nat.zero_le _⟩) (st1 := [.int v25]) rfl ?_
      refine lv_if_eq (tgt := 32) hx hb dX6_step_24 (by decide) (fun c27 => ?_) (fun c27 => ?_)
      · have h := o_t h c27
        obtain ⟨x3_28, e29, h⟩ := o_n h
        refine lv_iinc (v := x3_28) (lv' := [(3, .int x3_28), (0, .ref (a 0)), (1, .int y1), (2, .int y2)]) hx hb dX6_step_32 hl (k := 3) rfl (by rw [e29]; rfl) (by decide) rfl (fun ls hl => ?_)
        refine lv_goto (tgt := 13) hx hb dX6_step_35 (by decide) ?_
        exact ih13 _ _ _ _ h _ _ hP hD hS _ (lv_sub hl [1, 2, 3, 0] rfl)
      have h := o_f h c27
      refine lv_aload_n hx hb dX6_step_27 rfl (lv_at hl 0 rfl) ?_
      refine lv_iload_n hx hb dX6_step_28 rfl (lv_at hl 3 rfl) ?_
      obtain ⟨v30, g31, h⟩ := o_b h
      refine k_rw (va_runV (As := [.int y3]) (rest := []) ⟨hx, hb, hml, hown, hts⟩ (c_X6_takeFront l dC dI cI cF a S y3 v30 g31 H.size) (cwV 1 hts gX6_step_X6_takeFront rfl rfl rfl (by decide +kernel) ⟨Nat.le_of_ble_eq_true rfl, Nat.le_of_ble_eq_true rfl⟩) (k_preVw (q0 := 0) (ci := 6) hK hP hD [0, 1, 2, 3, 4, 5] rfl rfl rfl rfl rfl) rfl rfl hl.1 rfl (lv_room (Nat.le_of_ble_eq_true rfl)) dX6_step_29 ⟨Nat.zero_le _, Nat.zero_le _⟩) (st1 := []) rfl hP hD hS hA [0, 1, 2, 3, 4, 5] rfl rfl (wn := wX6 a cI cF v30) rfl rfl rfl (fun H locs hP hD hS => ?_)
      obtain ⟨x3_32, e33, h⟩ := o_n h
      refine lv_iinc (v := x3_32) (lv' := [(3, .int x3_32), (0, .ref (a 0)), (1, .int y1), (2, .int y2)]) hx hb dX6_step_32 hl (k := 3) rfl (by rw [e33]; rfl) (by decide) rfl (fun ls hl => ?_)
      refine lv_goto (tgt := 13) hx hb dX6_step_35 (by decide) ?_
      exact ih13 _ _ _ _ h _ _ hP hD hS _ (lv_sub hl [1, 2, 3, 0] rfl)
  have hl := lv_entry ([.ref (a 0)]) (n := 5) (Nat.le_of_ble_eq_true rfl)
  rw [lg_entry_eq]
  generalize (lg_sl ([.ref (a 0)]) ++ List.replicate (5 - (lg_sl ([.ref (a 0)])).length) Slot.unset).toArray = ls at hl ⊢
  have hl : lv_has ls 5 [(0, .ref (a 0))] := hl
  rw [m_X6_step] at h
  refine lv_aload_n hx hb dX6_step_0 rfl (lv_at hl 0 rfl) ?_
  obtain ⟨v1, g2, h⟩ := o_b h
  refine k_ro (va_runV (As := []) (rest := []) ⟨hx, hb, hml, hown, hts⟩ (c_X6_feedNow l dC dI cI cF a S v1 g2) (cwV 0 hts gX6_step_X6_feedNow rfl rfl rfl (by decide +kernel) ⟨Nat.le_of_ble_eq_true rfl, Nat.le_of_ble_eq_true rfl⟩) (k_preV (q0 := 0) (ci := 6) hK (hP.sub (ws' := wX6 a cI cF S) [0, 1, 2, 3, 4, 5] rfl) rfl rfl rfl) rfl rfl hl.1 rfl (lv_room (Nat.le_of_ble_eq_true rfl)) dX6_step_1 ⟨Nat.zero_le _, Nat.zero_le _⟩) (st1 := [.int v1]) rfl ?_
  refine lv_istore_n (lv' := [(1, .int v1), (0, .ref (a 0))]) hx hb dX6_step_4 rfl hl (by decide) rfl (fun ls hl => ?_)
  refine lv_aload_n hx hb dX6_step_5 rfl (lv_at hl 1 rfl) ?_
  refine lv_iload_n hx hb dX6_step_6 rfl (lv_at hl 0 rfl) ?_
  obtain ⟨v3, g4, h⟩ := o_b h
  refine k_ro (va_runV (As := [.int v1]) (rest := []) ⟨hx, hb, hml, hown, hts⟩ (c_X6_draftFor l dC dI cI cF a S v1 v3 g4) (cwV 1 hts gX6_step_X6_draftFor rfl rfl rfl (by decide +kernel) ⟨Nat.le_of_ble_eq_true rfl, Nat.le_of_ble_eq_true rfl⟩) (k_preV (q0 := 0) (ci := 6) hK (hP.sub (ws' := wX6 a cI cF S) [0, 1, 2, 3, 4, 5] rfl) rfl rfl rfl) rfl rfl hl.1 rfl (lv_room (Nat.le_of_ble_eq_true rfl)) dX6_step_7 ⟨Nat.zero_le _, Nat.zero_le _⟩) (st1 := [.int v3]) rfl ?_
  refine lv_istore_n (lv' := [(2, .int v3), (1, .int v1), (0, .ref (a 0))]) hx hb dX6_step_10 rfl hl (by decide) rfl (fun ls hl => ?_)
  refine lv_iconst (v := (0 : Int32)) hx hb dX6_step_11 (by decide) ?_
  refine lv_istore_n (lv' := [(3, .int (0 : Int32)), (2, .int v3), (1, .int v1), (0, .ref (a 0))]) hx hb dX6_step_12 rfl hl (by decide) rfl (fun ls hl => ?_)
  exact L13 _ _ _ _ _ h _ _ hP hD hS _ (lv_sub hl [3, 2, 1, 0] rfl)

def m_X6_runs_L2 : Nat → Int32 → Int32 → S_X6 → Option (Int32 × S_X6)
  | 0, _, _, _ => none
  | n + 1, y1, y2, S => if y1 ≤ y2 then (some (y2, S)) else ((m_X6_reason S).bind fun v2 => (if v2 = 0 then ((m_X6_step S).bind fun v5 => (nmL (y2 + 1) fun x2_7 => ((m_X6_runs_L2 n) y1 x2_7 v5))) else (some (y2, S))))
def m_X6_runs (S : S_X6) (x1 : Int32) : Option (Int32 × S_X6) := m_X6_runs_L2 4000 x1 (0 : Int32) S
set_option maxHeartbeats 4000000 in
set_option maxRecDepth 100000 in
theorem c_X6_runs (l : Launch) (dC : Nat → ClassId) (dI : Nat → Nat → Nat) (cI cF : ClassId) (a : Nat → Nat) (S : S_X6) (x1 : Int32) (u : Int32 × S_X6) (h : m_X6_runs S x1 = some u) : cRW l (dC, dI) cI cF yX6_runs wsX6_runs ({ frames := 3, cells := 0, slots := 0, locals := 70 } : Room) [.ref (a 0), .int x1] (wX6 a cI cF S) (wX6 a cI cF u.2) (some (.int u.1)) := by
  intro sz
  refine Met.ofW (cc := cX6_runs) (maxL := 3) (ret := (some .int)) (by decide) rfl ?_
  intro p e s m args below meth c s₁ B hml hv
  obtain ⟨hargs, hsz, hP, hK, hD0⟩ := hv
  subst hargs
  have hx := B.exec
  have hb := B.bytes
  have hr := B.returns
  have hts := atoms_spec (ws := wsX6_runs) B.pre
  have hown : s.vm.findClass RX6 = some m.cls := findClass_of_methodNamed B.named
  have hlocks := B.notSynchronized
  have w66 := hts (.methodLink RX6 66 yX6_reason) (List.mem_of_getElem? (i := 1) rfl)
  have w69 := hts (.methodLink RX6 69 yX6_step) (List.mem_of_getElem? (i := 31) rfl)
  subst hsz
  have hD := hD0.self (sz := s.heap.size)
  generalize hAe : va_A (wX6 a cI cF S) s.heap.size = A at hD ⊢
  have hA : ∀ q : Nat, s.heap.size ≤ q → A q := fun q h => by rw [← hAe]; exact Or.inr h
  have hS : va_S A s.heap s.heap [] := va_S.rf
  have L2 : ∀ (n : Nat), ∀ (y1 : Int32) (y2 : Int32) (S : S_X6), m_X6_runs_L2 n y1 y2 S = some u → ∀ (H : Heap) (locs : List Loc), va_P (dC, dI) vwCl (wX6 a cI cF S) H → va_D A (wX6 a cI cF S) → va_S A s.heap H locs → ∀ (ls : Array Slot), lv_has ls 3 [(0, .ref (a 0)), (1, .int y1), (2, .int y2)] → W p l e (headSpec wsX6_runs ({ frames := 3, cells := 0, slots := 0, locals := 70 } : Room)).room s m ([.ref (a 0), .int x1] : List Value).toArray below meth c H locs 0 0 (MQ below (qRW (dC, dI) (wX6 a cI cF u.2) (some (.int u.1)) A) ([.ref (a 0), .int x1] : List Value).toArray s 0 0 A) (F0 m 2 ls []) := by
    intro  n
    induction n with
    | zero =>
      intro y1 y2 S h
      exact (o_0 h).elim
    | succ n ih2 =>
      intro y1 y2 S h H locs hP hD hS ls hl
      rw [m_X6_runs_L2] at h
      refine lv_iload_n hx hb dX6_runs_2 rfl (lv_at hl 2 rfl) ?_
      refine lv_iload_n hx hb dX6_runs_3 rfl (lv_at hl 1 rfl) ?_
      refine lv_icmp_ge (tgt := 24) hx hb dX6_runs_4 (by decide) (fun c1 => ?_) (fun c1 => ?_)
      · have h := o_t h c1
        refine lv_iload_n hx hb dX6_runs_24 rfl (lv_at hl 2 rfl) ?_
        have hu := Option.some.inj h
        exact W.iret (v := y2) hx hb hr (fun t ht hW => ⟨⟨congrArg (fun z => Outcome.returned (some (Value.int z.1))) hu, by rw [ht, ← hu]; exact hP⟩, hS.F ht⟩) hS.2.2 dX6_runs_25
      have h := o_f h c1
      refine lv_aload_n hx hb dX6_runs_7 rfl (lv_at hl 0 rfl) ?_
      obtain ⟨v2, g3, h⟩ := o_b h
      refine k_ro (va_runV (As := []) (rest := []) ⟨hx, hb, hml, hown, hts⟩ (c_X6_reason l dC dI cI cF a S v2 g3) (cwV 0 hts gX6_runs_X6_reason rfl rfl rfl (by decide +kernel) ⟨Nat.le_of_ble_eq_true rfl, Nat.le_of_ble_eq_true rfl⟩) (k_preV (q0 := 0) (ci := 6) hK (hP.sub (ws' := wX6 a cI cF S) [0, 1, 2, 3, 4, 5] rfl) rfl rfl rfl) rfl rfl hl.1 rfl (lv_room (Nat.le_of_ble_eq_true rfl)) dX6_runs_8 ⟨Nat.zero_le _, Nat.zero_le _⟩) (st1 := [.int v2]) rfl ?_
      refine lv_if_ne (tgt := 24) hx hb dX6_runs_11 (by decide) (fun c4 => ?_) (fun c4 => ?_)
      · have h := o_f h c4
        refine lv_iload_n hx hb dX6_runs_24 rfl (lv_at hl 2 rfl) ?_
        have hu := Option.some.inj h
        exact W.iret (v := y2) hx hb hr (fun t ht hW => ⟨⟨congrArg (fun z => Outcome.returned (some (Value.int z.1))) hu, by rw [ht, ← hu]; exact hP⟩, hS.F ht⟩) hS.2.2 dX6_runs_25
      have h := o_t h c4
      refine lv_aload_n hx hb dX6_runs_14 rfl (lv_at hl 0 rfl) ?_
      obtain ⟨v5, g6, h⟩ := o_b h
      refine k_rw (va_runV (As := []) (rest := []) ⟨hx, hb, hml, hown, hts⟩ (c_X6_step l dC dI cI cF a S v5 g6 H.size) (cwV 0 hts gX6_runs_X6_step rfl rfl rfl (by decide +kernel) ⟨Nat.le_of_ble_eq_true rfl, Nat.le_of_ble_eq_true rfl⟩) (k_preVw (q0 := 0) (ci := 6) hK hP hD [0, 1, 2, 3, 4, 5] rfl rfl rfl rfl rfl) rfl rfl hl.1 rfl (lv_room (Nat.le_of_ble_eq_true rfl)) dX6_runs_15 ⟨Nat.zero_le _, Nat.zero_le _⟩) (st1 := []) rfl hP hD hS hA [0, 1, 2, 3, 4, 5] rfl rfl (wn := wX6 a cI cF v5) rfl rfl rfl (fun H locs hP hD hS => ?_)
      obtain ⟨x2_7, e8, h⟩ := o_n h
      refine lv_iinc (v := x2_7) (lv' := [(2, .int x2_7), (0, .ref (a 0)), (1, .int y1)]) hx hb dX6_runs_18 hl (k := 2) rfl (by rw [e8]; rfl) (by decide) rfl (fun ls hl => ?_)
      refine lv_goto (tgt := 2) hx hb dX6_runs_21 (by decide) ?_
      exact ih2 _ _ _ h _ _ hP hD hS _ (lv_sub hl [1, 2, 0] rfl)
  have hl := lv_entry ([.ref (a 0), .int x1]) (n := 3) (Nat.le_of_ble_eq_true rfl)
  rw [lg_entry_eq]
  generalize (lg_sl ([.ref (a 0), .int x1]) ++ List.replicate (3 - (lg_sl ([.ref (a 0), .int x1])).length) Slot.unset).toArray = ls at hl ⊢
  have hl : lv_has ls 3 [(0, .ref (a 0)), (1, .int x1)] := hl
  rw [m_X6_runs] at h
  refine lv_iconst (v := (0 : Int32)) hx hb dX6_runs_0 (by decide) ?_
  refine lv_istore_n (lv' := [(2, .int (0 : Int32)), (0, .ref (a 0)), (1, .int x1)]) hx hb dX6_runs_1 rfl hl (by decide) rfl (fun ls hl => ?_)
  exact L2 _ _ _ _ h _ _ hP hD hS _ (lv_sub hl [1, 2, 0] rfl)

def m_X6_sign_L58 (y3 : Int32) (t1 : Int32) (S : S_X6) : Option (Int32 × S_X6) := if t1 = 0 ∨ t1 = 1 then (if t1 = 0 then (some (y3, s_X6_isWrong (s_X6_place S ((g_X6_place S) + (1 : Int32))) t1)) else (some (y3, s_X6_isWrong (s_X6_place S ((g_X6_place S) + (0 : Int32))) t1))) else none
def m_X6_sign_L24 (y1 : Int32) (y2 : Int32) (t0 : Int32) (S : S_X6) : Option (Int32 × S_X6) := if (g_X6_isWrong S) = 0 then (if (g_X6_length S) ≤ (g_X6_place S) then (m_X6_sign_L58 t0 (1 : Int32) S) else ((m_X6_in t0 y1 y2).bind fun v6 => (if v6 = 0 then (m_X6_sign_L58 t0 (1 : Int32) S) else (m_X6_sign_L58 t0 (0 : Int32) S)))) else (m_X6_sign_L58 t0 (1 : Int32) S)
def m_X6_sign (S : S_X6) (x1 : Int32) (x2 : Int32) : Option (Int32 × S_X6) := if (g_X6_length S) ≤ (g_X6_place S) then (m_X6_sign_L24 x1 x2 (0 : Int32) S) else (if (g_X6_place S) < 0 ∨ 60 ≤ (g_X6_place S).toNatClampNeg then none else (m_X6_sign_L24 x1 x2 ((g_X6_text S) (g_X6_place S).toNatClampNeg) S))
set_option maxHeartbeats 4000000 in
set_option maxRecDepth 100000 in
theorem c_X6_sign (l : Launch) (dC : Nat → ClassId) (dI : Nat → Nat → Nat) (cI cF : ClassId) (a : Nat → Nat) (S : S_X6) (x1 : Int32) (x2 : Int32) (u : Int32 × S_X6) (h : m_X6_sign S x1 x2 = some u) : cRW l (dC, dI) cI cF yX6_sign wsX6_sign ({ frames := 1, cells := 0, slots := 0, locals := 22 } : Room) [.ref (a 0), .int x1, .int x2] (wX6 a cI cF S) (wX6 a cI cF u.2) (some (.int u.1)) := by
  intro sz
  refine Met.ofW (cc := cX6_sign) (maxL := 4) (ret := (some .int)) (by decide) rfl ?_
  intro p e s m args below meth c s₁ B hml hv
  obtain ⟨hargs, hsz, hP, hK, hD0⟩ := hv
  subst hargs
  have hx := B.exec
  have hb := B.bytes
  have hr := B.returns
  have hts := atoms_spec (ws := wsX6_sign) B.pre
  have hown : s.vm.findClass RX6 = some m.cls := findClass_of_methodNamed B.named
  have hlocks := B.notSynchronized
  have w22 := hts (.fieldLink RX6 22 "DrawnSliversModel" "text" "[I") (List.mem_of_getElem? (i := 3) rfl)
  have w32 := hts (.methodLink RX6 32 yX6_in) (List.mem_of_getElem? (i := 5) rfl)
  have w72 := hts (.fieldLink RX6 72 "DrawnSliversModel" "place" "I") (List.mem_of_getElem? (i := 1) rfl)
  have w75 := hts (.fieldLink RX6 75 "DrawnSliversModel" "length" "I") (List.mem_of_getElem? (i := 2) rfl)
  have w78 := hts (.fieldLink RX6 78 "DrawnSliversModel" "isWrong" "Z") (List.mem_of_getElem? (i := 4) rfl)
  have huX6 : ∀ w ∈ u_ws RX6 TX6 11, w.before _ s = true := fun w h => hts w (List.mem_cons_of_mem _ (List.mem_append_right _ (h)))
  subst hsz
  have hD := hD0.self (sz := s.heap.size)
  generalize hAe : va_A (wX6 a cI cF S) s.heap.size = A at hD ⊢
  have hA : ∀ q : Nat, s.heap.size ≤ q → A q := fun q h => by rw [← hAe]; exact Or.inr h
  have hS : va_S A s.heap s.heap [] := va_S.rf
  have L58 : ∀ (y3 : Int32) (t1 : Int32) (S : S_X6), m_X6_sign_L58 y3 t1 S = some u → ∀ (H : Heap) (locs : List Loc), va_P (dC, dI) vwCl (wX6 a cI cF S) H → va_D A (wX6 a cI cF S) → va_S A s.heap H locs → ∀ (ls : Array Slot), lv_has ls 4 [(0, .ref (a 0)), (3, .int y3)] → W p l e (headSpec wsX6_sign ({ frames := 1, cells := 0, slots := 0, locals := 22 } : Room)).room s m ([.ref (a 0), .int x1, .int x2] : List Value).toArray below meth c H locs 0 0 (MQ below (qRW (dC, dI) (wX6 a cI cF u.2) (some (.int u.1)) A) ([.ref (a 0), .int x1, .int x2] : List Value).toArray s 0 0 A) (F0 m 58 ls [.int t1, .ref (a 0)]) := by
    intro  y3 t1 S h H locs hP hD hS ls hl
    rw [m_X6_sign_L58] at h
    obtain ⟨b3, h⟩ := o_ok h
    refine va_put (D := (dC, dI)) (ci := 6) (v := .int t1) (ty := .boolean) (C := RX6) (T := TX6) (N := 11) hx hb huX6 (fun _ h9 => h9) tyX6 tyX6_ok nmX6 hown hK hP hD hS 0 rfl rfl 10 (by decide) w78 (fun _ h9 => h9) rfl (by decide +kernel) (k_bool b3) (k_fitb b3) (Nat.le_of_ble_eq_true rfl) dX6_sign_58 (fun H locs hP hD hS => ?_)
    have hP : va_P (dC, dI) vwCl (wX6 a cI cF (s_X6_isWrong S t1)) H := hP
    have hD : va_D A (wX6 a cI cF (s_X6_isWrong S t1)) := hD
    refine lv_aload_n hx hb dX6_sign_61 rfl (lv_at hl 0 rfl) ?_
    refine lv_dup hx hb dX6_sign_62 rfl ?_
    refine va_get (D := (dC, dI)) (ci := 6) (v := .int (g_X6_place S)) (C := RX6) (T := TX6) (N := 11) hx hb huX6 (fun _ h9 => h9) hown hK hP 0 rfl rfl 9 (by decide) w72 (fun _ h9 => h9) rfl dX6_sign_63 ?_
    refine lv_aload_n hx hb dX6_sign_66 rfl (lv_at hl 0 rfl) ?_
    refine va_get (D := (dC, dI)) (ci := 6) (v := .int t1) (C := RX6) (T := TX6) (N := 11) hx hb huX6 (fun _ h9 => h9) hown hK hP 0 rfl rfl 10 (by decide) w78 (fun _ h9 => h9) rfl dX6_sign_67 ?_
    refine lv_if_eq (tgt := 77) hx hb dX6_sign_70 (by decide) (fun c4 => ?_) (fun c4 => ?_)
    · have h := o_t h c4
      refine lv_iconst (v := (1 : Int32)) hx hb dX6_sign_77 (by decide) ?_
      refine lv_iadd hx hb dX6_sign_78 ?_
      refine va_put (D := (dC, dI)) (ci := 6) (v := .int ((g_X6_place S) + (1 : Int32))) (ty := .int) (C := RX6) (T := TX6) (N := 11) hx hb huX6 (fun _ h9 => h9) tyX6 tyX6_ok nmX6 hown hK hP hD hS 0 rfl rfl 9 (by decide) w72 (fun _ h9 => h9) rfl (by decide +kernel) rfl rfl (Nat.le_of_ble_eq_true rfl) dX6_sign_79 (fun H locs hP hD hS => ?_)
      have hP : va_P (dC, dI) vwCl (wX6 a cI cF (s_X6_isWrong (s_X6_place S ((g_X6_place S) + (1 : Int32))) t1)) H := hP
      have hD : va_D A (wX6 a cI cF (s_X6_isWrong (s_X6_place S ((g_X6_place S) + (1 : Int32))) t1)) := hD
      refine lv_iload_n hx hb dX6_sign_82 rfl (lv_at hl 1 rfl) ?_
      have hu := Option.some.inj h
      exact W.iret (v := y3) hx hb hr (fun t ht hW => ⟨⟨congrArg (fun z => Outcome.returned (some (Value.int z.1))) hu, by rw [ht, ← hu]; exact hP⟩, hS.F ht⟩) hS.2.2 dX6_sign_83
    have h := o_f h c4
    refine lv_iconst (v := (0 : Int32)) hx hb dX6_sign_73 (by decide) ?_
    refine lv_goto (tgt := 78) hx hb dX6_sign_74 (by decide) ?_
    refine lv_iadd hx hb dX6_sign_78 ?_
    refine va_put (D := (dC, dI)) (ci := 6) (v := .int ((g_X6_place S) + (0 : Int32))) (ty := .int) (C := RX6) (T := TX6) (N := 11) hx hb huX6 (fun _ h9 => h9) tyX6 tyX6_ok nmX6 hown hK hP hD hS 0 rfl rfl 9 (by decide) w72 (fun _ h9 => h9) rfl (by decide +kernel) rfl rfl (Nat.le_of_ble_eq_true rfl) dX6_sign_79 (fun H locs hP hD hS => ?_)
    have hP : va_P (dC, dI) vwCl (wX6 a cI cF (s_X6_isWrong (s_X6_place S ((g_X6_place S) + (0 : Int32))) t1)) H := hP
    have hD : va_D A (wX6 a cI cF (s_X6_isWrong (s_X6_place S ((g_X6_place S) + (0 : Int32))) t1)) := hD
    refine lv_iload_n hx hb dX6_sign_82 rfl (lv_at hl 1 rfl) ?_
    have hu := Option.some.inj h
    exact W.iret (v := y3) hx hb hr (fun t ht hW => ⟨⟨congrArg (fun z => Outcome.returned (some (Value.int z.1))) hu, by rw [ht, ← hu]; exact hP⟩, hS.F ht⟩) hS.2.2 dX6_sign_83
  have L24 : ∀ (y1 : Int32) (y2 : Int32) (t0 : Int32) (S : S_X6), m_X6_sign_L24 y1 y2 t0 S = some u → ∀ (H : Heap) (locs : List Loc), va_P (dC, dI) vwCl (wX6 a cI cF S) H → va_D A (wX6 a cI cF S) → va_S A s.heap H locs → ∀ (ls : Array Slot), lv_has ls 4 [(0, .ref (a 0)), (1, .int y1), (2, .int y2)] → W p l e (headSpec wsX6_sign ({ frames := 1, cells := 0, slots := 0, locals := 22 } : Room)).room s m ([.ref (a 0), .int x1, .int x2] : List Value).toArray below meth c H locs 0 0 (MQ below (qRW (dC, dI) (wX6 a cI cF u.2) (some (.int u.1)) A) ([.ref (a 0), .int x1, .int x2] : List Value).toArray s 0 0 A) (F0 m 24 ls [.int t0]) := by
    intro  y1 y2 t0 S h H locs hP hD hS ls hl
    rw [m_X6_sign_L24] at h
    refine lv_istore_n (lv' := [(3, .int t0), (0, .ref (a 0)), (1, .int y1), (2, .int y2)]) hx hb dX6_sign_24 rfl hl (by decide) rfl (fun ls hl => ?_)
    refine lv_aload_n hx hb dX6_sign_25 rfl (lv_at hl 1 rfl) ?_
    refine lv_aload_n hx hb dX6_sign_26 rfl (lv_at hl 1 rfl) ?_
    refine va_get (D := (dC, dI)) (ci := 6) (v := .int (g_X6_isWrong S)) (C := RX6) (T := TX6) (N := 11) hx hb huX6 (fun _ h9 => h9) hown hK hP 0 rfl rfl 10 (by decide) w78 (fun _ h9 => h9) rfl dX6_sign_27 ?_
    refine lv_if_ne (tgt := 53) hx hb dX6_sign_30 (by decide) (fun c2 => ?_) (fun c2 => ?_)
    · have h := o_f h c2
      refine lv_iconst (v := (1 : Int32)) hx hb dX6_sign_53 (by decide) ?_
      refine lv_goto (tgt := 58) hx hb dX6_sign_54 (by decide) ?_
      exact L58 _ _ _ h _ _ hP hD hS _ (lv_sub hl [1, 0] rfl)
    have h := o_t h c2
    refine lv_aload_n hx hb dX6_sign_33 rfl (lv_at hl 1 rfl) ?_
    refine va_get (D := (dC, dI)) (ci := 6) (v := .int (g_X6_place S)) (C := RX6) (T := TX6) (N := 11) hx hb huX6 (fun _ h9 => h9) hown hK hP 0 rfl rfl 9 (by decide) w72 (fun _ h9 => h9) rfl dX6_sign_34 ?_
    refine lv_aload_n hx hb dX6_sign_37 rfl (lv_at hl 1 rfl) ?_
    refine va_get (D := (dC, dI)) (ci := 6) (v := .int (g_X6_length S)) (C := RX6) (T := TX6) (N := 11) hx hb huX6 (fun _ h9 => h9) hown hK hP 0 rfl rfl 7 (by decide) w75 (fun _ h9 => h9) rfl dX6_sign_38 ?_
    refine lv_icmp_ge (tgt := 53) hx hb dX6_sign_41 (by decide) (fun c5 => ?_) (fun c5 => ?_)
    · have h := o_t h c5
      refine lv_iconst (v := (1 : Int32)) hx hb dX6_sign_53 (by decide) ?_
      refine lv_goto (tgt := 58) hx hb dX6_sign_54 (by decide) ?_
      exact L58 _ _ _ h _ _ hP hD hS _ (lv_sub hl [1, 0] rfl)
    have h := o_f h c5
    refine lv_iload_n hx hb dX6_sign_44 rfl (lv_at hl 0 rfl) ?_
    refine lv_iload_n hx hb dX6_sign_45 rfl (lv_at hl 2 rfl) ?_
    refine lv_iload_n hx hb dX6_sign_46 rfl (lv_at hl 3 rfl) ?_
    obtain ⟨v6, g7, h⟩ := o_b h
    refine k_ro (va_runS (As := [.int t0, .int y1, .int y2]) (rest := [.ref (a 0)]) ⟨hx, hb, hml, hown, hts⟩ (c_X6_in l dC dI cI cF t0 y1 y2 v6 g7) (va_cwS 3 hts gX6_sign_X6_in rfl rfl rfl (by decide +kernel) ⟨Nat.le_of_ble_eq_true rfl, Nat.le_of_ble_eq_true rfl⟩) (k_prePU) rfl rfl hl.1 rfl (lv_room (Nat.le_of_ble_eq_true rfl)) dX6_sign_47 ⟨Nat.zero_le _, Nat.zero_le _⟩) (st1 := [.int v6, .ref (a 0)]) rfl ?_
    refine lv_if_ne (tgt := 57) hx hb dX6_sign_50 (by decide) (fun c8 => ?_) (fun c8 => ?_)
    · have h := o_f h c8
      refine lv_iconst (v := (0 : Int32)) hx hb dX6_sign_57 (by decide) ?_
      exact L58 _ _ _ h _ _ hP hD hS _ (lv_sub hl [1, 0] rfl)
    have h := o_t h c8
    refine lv_iconst (v := (1 : Int32)) hx hb dX6_sign_53 (by decide) ?_
    refine lv_goto (tgt := 58) hx hb dX6_sign_54 (by decide) ?_
    exact L58 _ _ _ h _ _ hP hD hS _ (lv_sub hl [1, 0] rfl)
  have hl := lv_entry ([.ref (a 0), .int x1, .int x2]) (n := 4) (Nat.le_of_ble_eq_true rfl)
  rw [lg_entry_eq]
  generalize (lg_sl ([.ref (a 0), .int x1, .int x2]) ++ List.replicate (4 - (lg_sl ([.ref (a 0), .int x1, .int x2])).length) Slot.unset).toArray = ls at hl ⊢
  have hl : lv_has ls 4 [(0, .ref (a 0)), (1, .int x1), (2, .int x2)] := hl
  rw [m_X6_sign] at h
  refine lv_aload_n hx hb dX6_sign_0 rfl (lv_at hl 0 rfl) ?_
  refine va_get (D := (dC, dI)) (ci := 6) (v := .int (g_X6_place S)) (C := RX6) (T := TX6) (N := 11) hx hb huX6 (fun _ h9 => h9) hown hK hP 0 rfl rfl 9 (by decide) w72 (fun _ h9 => h9) rfl dX6_sign_1 ?_
  refine lv_aload_n hx hb dX6_sign_4 rfl (lv_at hl 0 rfl) ?_
  refine va_get (D := (dC, dI)) (ci := 6) (v := .int (g_X6_length S)) (C := RX6) (T := TX6) (N := 11) hx hb huX6 (fun _ h9 => h9) hown hK hP 0 rfl rfl 7 (by decide) w75 (fun _ h9 => h9) rfl dX6_sign_5 ?_
  refine lv_icmp_ge (tgt := 23) hx hb dX6_sign_8 (by decide) (fun c1 => ?_) (fun c1 => ?_)
  · have h := o_t h c1
    refine lv_iconst (v := (0 : Int32)) hx hb dX6_sign_23 (by decide) ?_
    exact L24 _ _ _ _ h _ _ hP hD hS _ (lv_sub hl [0, 1, 2] rfl)
  have h := o_f h c1
  refine lv_aload_n hx hb dX6_sign_11 rfl (lv_at hl 0 rfl) ?_
  refine va_get (D := (dC, dI)) (ci := 6) (v := .ref (a 5)) (C := RX6) (T := TX6) (N := 11) hx hb huX6 (fun _ h9 => h9) hown hK hP 0 rfl rfl 6 (by decide) w22 (fun _ h9 => h9) rfl dX6_sign_12 ?_
  refine lv_aload_n hx hb dX6_sign_15 rfl (lv_at hl 0 rfl) ?_
  refine va_get (D := (dC, dI)) (ci := 6) (v := .int (g_X6_place S)) (C := RX6) (T := TX6) (N := 11) hx hb huX6 (fun _ h9 => h9) hown hK hP 0 rfl rfl 9 (by decide) w72 (fun _ h9 => h9) rfl dX6_sign_16 ?_
  obtain ⟨i9, h⟩ := o_in h
  refine va_iald hx hb hK hP 5 0 rfl rfl i9 dX6_sign_19 ?_
  refine lv_goto (tgt := 24) hx hb dX6_sign_20 (by decide) ?_
  exact L24 _ _ _ _ h _ _ hP hD hS _ (lv_sub hl [0, 1, 2] rfl)

