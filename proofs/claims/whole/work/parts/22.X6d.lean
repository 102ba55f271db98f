-- X6_out X6_run X6_clear X6_set X6_append X6_clearBuffer X6_firstError X6_keep X6_goBack X6_undo
def m_X6_out (S : S_X6) (x1 : Int32) : Option (Int32 × S_X6) := (m_X6_isCan x1).bind fun v1 => (if v1 = 0 then ((m_X6_throwing (s_X6_thrown S (0 : Int32)) (1 : Int32)).bind fun v8 => (some (v8.1, v8.2))) else ((m_X6_save (s_X6_thrown S (0 : Int32))).bind fun v4 => (nmL ((g_X6_s v4) (329 : Int32).toNatClampNeg) fun x2_6 => (some (x2_6, s_X6_s v4 (upd (g_X6_s v4) (329 : Int32).toNatClampNeg x1))))))
set_option maxHeartbeats 4000000 in
set_option maxRecDepth 100000 in
theorem c_X6_out (l : Launch) (dC : Nat → ClassId) (dI : Nat → Nat → Nat) (cI cF : ClassId) (a : Nat → Nat) (S : S_X6) (x1 : Int32) (u : Int32 × S_X6) (h : m_X6_out S x1 = some u) : cRW l (dC, dI) cI cF yX6_out wsX6_out ({ frames := 2, cells := 0, slots := 0, locals := 42 } : Room) [.ref (a 0), .int x1] (wX6 a cI cF S) (wX6 a cI cF u.2) (some (.int u.1)) := by
  intro sz
  refine Met.ofW (cc := cX6_out) (maxL := 3) (ret := (some .int)) (by decide) rfl ?_
  intro p e s m args below meth c s₁ B hml hv
  obtain ⟨hargs, hsz, hP, hK, hD0⟩ := hv
  subst hargs
  have hx := B.exec
  have hb := B.bytes
  have hr := B.returns
  have hts := atoms_spec (ws := wsX6_out) B.pre
  have hown : s.vm.findClass RX6 = some m.cls := findClass_of_methodNamed B.named
  have hlocks := B.notSynchronized
  have w104 := hts (.methodLink RX6 104 yX6_save) (List.mem_of_getElem? (i := 14) rfl)
  have w25 := hts (.fieldLink RX6 25 "DrawnSliversModel" "thrown" "I") (List.mem_of_getElem? (i := 1) rfl)
  have w7 := hts (.fieldLink RX6 7 "DrawnSliversModel" "s" "[I") (List.mem_of_getElem? (i := 2) rfl)
  have w95 := hts (.methodLink RX6 95 yX6_isCan) (List.mem_of_getElem? (i := 3) rfl)
  have w98 := hts (.methodLink RX6 98 yX6_throwing) (List.mem_of_getElem? (i := 10) rfl)
  have huX6 : ∀ w ∈ u_ws RX6 TX6 11, w.before _ s = true := fun w h => hts w (List.mem_cons_of_mem _ (List.mem_append_right _ (h)))
  subst hsz
  have hD := hD0.self (sz := s.heap.size)
  generalize hAe : va_A (wX6 a cI cF S) s.heap.size = A at hD ⊢
  have hA : ∀ q : Nat, s.heap.size ≤ q → A q := fun q h => by rw [← hAe]; exact Or.inr h
  have hS : va_S A s.heap s.heap [] := va_S.rf
  have hl := lv_entry ([.ref (a 0), .int x1]) (n := 3) (Nat.le_of_ble_eq_true rfl)
  rw [lg_entry_eq]
  generalize (lg_sl ([.ref (a 0), .int x1]) ++ List.replicate (3 - (lg_sl ([.ref (a 0), .int x1])).length) Slot.unset).toArray = ls at hl ⊢
  have hl : lv_has ls 3 [(0, .ref (a 0)), (1, .int x1)] := hl
  rw [m_X6_out] at h
  refine lv_aload_n hx hb dX6_out_0 rfl (lv_at hl 0 rfl) ?_
  refine lv_iconst (v := (0 : Int32)) hx hb dX6_out_1 (by decide) ?_
  refine va_put (D := (dC, dI)) (ci := 6) (v := .int (0 : Int32)) (ty := .int) (C := RX6) (T := TX6) (N := 11) hx hb huX6 (fun _ h9 => h9) tyX6 tyX6_ok nmX6 hown hK hP hD hS 0 rfl rfl 8 (by decide) w25 (fun _ h9 => h9) rfl (by decide +kernel) rfl rfl (Nat.le_of_ble_eq_true rfl) dX6_out_2 (fun H locs hP hD hS => ?_)
  have hP : va_P (dC, dI) vwCl (wX6 a cI cF (s_X6_thrown S (0 : Int32))) H := hP
  have hD : va_D A (wX6 a cI cF (s_X6_thrown S (0 : Int32))) := hD
  refine lv_iload_n hx hb dX6_out_5 rfl (lv_at hl 1 rfl) ?_
  obtain ⟨v1, g2, h⟩ := o_b h
  refine k_ro (va_runS (As := [.int x1]) (rest := []) ⟨hx, hb, hml, hown, hts⟩ (c_X6_isCan l dC dI cI cF x1 v1 g2) (va_cwS 1 hts gX6_out_X6_isCan rfl rfl rfl (by decide +kernel) ⟨Nat.le_of_ble_eq_true rfl, Nat.le_of_ble_eq_true rfl⟩) (k_prePU) rfl rfl hl.1 rfl (lv_room (Nat.le_of_ble_eq_true rfl)) dX6_out_6 ⟨Nat.zero_le _, Nat.zero_le _⟩) (st1 := [.int v1]) rfl ?_
  refine lv_if_ne (tgt := 18) hx hb dX6_out_9 (by decide) (fun c3 => ?_) (fun c3 => ?_)
  rotate_left
  · have h := o_t h c3
    refine lv_aload_n hx hb dX6_out_12 rfl (lv_at hl 0 rfl) ?_
    refine lv_iconst (v := (1 : Int32)) hx hb dX6_out_13 (by decide) ?_
    obtain ⟨v8, g9, h⟩ := o_b h
    refine k_rw (va_runV (As := [.int (1 : Int32)]) (rest := []) ⟨hx, hb, hml, hown, hts⟩ (c_X6_throwing l dC dI cI cF a (s_X6_thrown S (0 : Int32)) (1 : Int32) v8 g9 H.size) (cwV 1 hts gX6_out_X6_throwing rfl rfl rfl (by decide +kernel) ⟨Nat.le_of_ble_eq_true rfl, Nat.le_of_ble_eq_true rfl⟩) (k_preVw (q0 := 0) (ci := 6) hK hP hD [0, 1, 2, 3, 4, 5] rfl rfl rfl rfl rfl) rfl rfl hl.1 rfl (lv_room (Nat.le_of_ble_eq_true rfl)) dX6_out_14 ⟨Nat.zero_le _, Nat.zero_le _⟩) (st1 := [.int v8.1]) rfl hP hD hS hA [0, 1, 2, 3, 4, 5] rfl rfl (wn := wX6 a cI cF v8.2) rfl rfl rfl (fun H locs hP hD hS => ?_)
    have hu := Option.some.inj h
    exact W.iret (v := v8.1) hx hb hr (fun t ht hW => ⟨⟨congrArg (fun z => Outcome.returned (some (Value.int z.1))) hu, by rw [ht, ← hu]; exact hP⟩, hS.F ht⟩) hS.2.2 dX6_out_17
  have h := o_f h c3
  refine lv_aload_n hx hb dX6_out_18 rfl (lv_at hl 0 rfl) ?_
  obtain ⟨v4, g5, h⟩ := o_b h
  refine k_rw (va_runV (As := []) (rest := []) ⟨hx, hb, hml, hown, hts⟩ (c_X6_save l dC dI cI cF a (s_X6_thrown S (0 : Int32)) v4 g5 H.size) (cwV 0 hts gX6_out_X6_save rfl rfl rfl (by decide +kernel) ⟨Nat.le_of_ble_eq_true rfl, Nat.le_of_ble_eq_true rfl⟩) (k_preVw (q0 := 0) (ci := 6) hK hP hD [0, 1, 2, 3, 4, 5] rfl rfl rfl rfl rfl) rfl rfl hl.1 rfl (lv_room (Nat.le_of_ble_eq_true rfl)) dX6_out_19 ⟨Nat.zero_le _, Nat.zero_le _⟩) (st1 := []) rfl hP hD hS hA [0, 1, 2, 3, 4, 5] rfl rfl (wn := wX6 a cI cF v4) rfl rfl rfl (fun H locs hP hD hS => ?_)
  refine lv_aload_n hx hb dX6_out_22 rfl (lv_at hl 0 rfl) ?_
  refine va_get (D := (dC, dI)) (ci := 6) (v := .ref (a 1)) (C := RX6) (T := TX6) (N := 11) hx hb huX6 (fun _ h9 => h9) hown hK hP 0 rfl rfl 0 (by decide) w7 (fun _ h9 => h9) rfl dX6_out_23 ?_
  refine lv_sipush (v := (329 : Int32)) hx hb dX6_out_26 (by decide) ?_
  refine va_iald hx hb hK hP 1 0 rfl rfl (by unfold vp_in; decide) dX6_out_29 ?_
  obtain ⟨x2_6, e7, h⟩ := o_n h
  refine lv_nmi e7 ?_
  refine lv_istore_n (lv' := [(2, .int x2_6), (0, .ref (a 0)), (1, .int x1)]) hx hb dX6_out_30 rfl hl (by decide) rfl (fun ls hl => ?_)
  refine lv_aload_n hx hb dX6_out_31 rfl (lv_at hl 1 rfl) ?_
  refine va_get (D := (dC, dI)) (ci := 6) (v := .ref (a 1)) (C := RX6) (T := TX6) (N := 11) hx hb huX6 (fun _ h9 => h9) hown hK hP 0 rfl rfl 0 (by decide) w7 (fun _ h9 => h9) rfl dX6_out_32 ?_
  refine lv_sipush (v := (329 : Int32)) hx hb dX6_out_35 (by decide) ?_
  refine lv_iload_n hx hb dX6_out_38 rfl (lv_at hl 2 rfl) ?_
  refine va_iast hx hb hK hP hD hS 1 0 rfl rfl (by unfold vp_in; decide) dX6_out_39 (fun H locs hP hD hS => ?_)
  have hP : va_P (dC, dI) vwCl (wX6 a cI cF (s_X6_s v4 (upd (g_X6_s v4) (329 : Int32).toNatClampNeg x1))) H := hP
  have hD : va_D A (wX6 a cI cF (s_X6_s v4 (upd (g_X6_s v4) (329 : Int32).toNatClampNeg x1))) := hD
  refine lv_iload_n hx hb dX6_out_40 rfl (lv_at hl 0 rfl) ?_
  have hu := Option.some.inj h
  exact W.iret (v := x2_6) hx hb hr (fun t ht hW => ⟨⟨congrArg (fun z => Outcome.returned (some (Value.int z.1))) hu, by rw [ht, ← hu]; exact hP⟩, hS.F ht⟩) hS.2.2 dX6_out_41

def m_X6_run (S : S_X6) (x1 : Int32) : Option (Int32 × S_X6) := (m_X6_in x1 (1 : Int32) (40 : Int32)).bind fun v1 => (if v1 = 0 then ((m_X6_throwing (s_X6_thrown S (0 : Int32)) (1 : Int32)).bind fun v8 => (some (v8.1, v8.2))) else ((m_X6_save (s_X6_thrown S (0 : Int32))).bind fun v4 => ((m_X6_runs v4 x1).bind fun v6 => (some (v6.1, v6.2)))))
set_option maxHeartbeats 4000000 in
set_option maxRecDepth 100000 in
theorem c_X6_run (l : Launch) (dC : Nat → ClassId) (dI : Nat → Nat → Nat) (cI cF : ClassId) (a : Nat → Nat) (S : S_X6) (x1 : Int32) (u : Int32 × S_X6) (h : m_X6_run S x1 = some u) : cRW l (dC, dI) cI cF yX6_run wsX6_run ({ frames := 4, cells := 0, slots := 0, locals := 92 } : Room) [.ref (a 0), .int x1] (wX6 a cI cF S) (wX6 a cI cF u.2) (some (.int u.1)) := by
  intro sz
  refine Met.ofW (cc := cX6_run) (maxL := 2) (ret := (some .int)) (by decide) rfl ?_
  intro p e s m args below meth c s₁ B hml hv
  obtain ⟨hargs, hsz, hP, hK, hD0⟩ := hv
  subst hargs
  have hx := B.exec
  have hb := B.bytes
  have hr := B.returns
  have hts := atoms_spec (ws := wsX6_run) B.pre
  have hown : s.vm.findClass RX6 = some m.cls := findClass_of_methodNamed B.named
  have hlocks := B.notSynchronized
  have w104 := hts (.methodLink RX6 104 yX6_save) (List.mem_of_getElem? (i := 10) rfl)
  have w113 := hts (.methodLink RX6 113 yX6_runs) (List.mem_of_getElem? (i := 17) rfl)
  have w25 := hts (.fieldLink RX6 25 "DrawnSliversModel" "thrown" "I") (List.mem_of_getElem? (i := 1) rfl)
  have w32 := hts (.methodLink RX6 32 yX6_in) (List.mem_of_getElem? (i := 2) rfl)
  have w98 := hts (.methodLink RX6 98 yX6_throwing) (List.mem_of_getElem? (i := 6) rfl)
  have huX6 : ∀ w ∈ u_ws RX6 TX6 11, w.before _ s = true := fun w h => hts w (List.mem_cons_of_mem _ (List.mem_append_right _ (h)))
  subst hsz
  have hD := hD0.self (sz := s.heap.size)
  generalize hAe : va_A (wX6 a cI cF S) s.heap.size = A at hD ⊢
  have hA : ∀ q : Nat, s.heap.size ≤ q → A q := fun q h => by rw [← hAe]; exact Or.inr h
  have hS : va_S A s.heap s.heap [] := va_S.rf
  have hl := lv_entry ([.ref (a 0), .int x1]) (n := 2) (Nat.le_of_ble_eq_true rfl)
  rw [lg_entry_eq]
  generalize (lg_sl ([.ref (a 0), .int x1]) ++ List.replicate (2 - (lg_sl ([.ref (a 0), .int x1])).length) Slot.unset).toArray = ls at hl ⊢
  have hl : lv_has ls 2 [(0, .ref (a 0)), (1, .int x1)] := hl
  rw [m_X6_run] at h
  refine lv_aload_n hx hb dX6_run_0 rfl (lv_at hl 0 rfl) ?_
  refine lv_iconst (v := (0 : Int32)) hx hb dX6_run_1 (by decide) ?_
  refine va_put (D := (dC, dI)) (ci := 6) (v := .int (0 : Int32)) (ty := .int) (C := RX6) (T := TX6) (N := 11) hx hb huX6 (fun _ h9 => h9) tyX6 tyX6_ok nmX6 hown hK hP hD hS 0 rfl rfl 8 (by decide) w25 (fun _ h9 => h9) rfl (by decide +kernel) rfl rfl (Nat.le_of_ble_eq_true rfl) dX6_run_2 (fun H locs hP hD hS => ?_)
  have hP : va_P (dC, dI) vwCl (wX6 a cI cF (s_X6_thrown S (0 : Int32))) H := hP
  have hD : va_D A (wX6 a cI cF (s_X6_thrown S (0 : Int32))) := hD
  refine lv_iload_n hx hb dX6_run_5 rfl (lv_at hl 1 rfl) ?_
  refine lv_iconst (v := (1 : Int32)) hx hb dX6_run_6 (by decide) ?_
  refine lv_bipush (v := (40 : Int32)) hx hb dX6_run_7 (by decide) ?_
  obtain ⟨v1, g2, h⟩ := o_b h
  refine k_ro (va_runS (As := [.int x1, .int (1 : Int32), .int (40 : Int32)]) (rest := []) ⟨hx, hb, hml, hown, hts⟩ (c_X6_in l dC dI cI cF x1 (1 : Int32) (40 : Int32) v1 g2) (va_cwS 3 hts gX6_run_X6_in rfl rfl rfl (by decide +kernel) ⟨Nat.le_of_ble_eq_true rfl, Nat.le_of_ble_eq_true rfl⟩) (k_prePU) rfl rfl hl.1 rfl (lv_room (Nat.le_of_ble_eq_true rfl)) dX6_run_9 ⟨Nat.zero_le _, Nat.zero_le _⟩) (st1 := [.int v1]) rfl ?_
  refine lv_if_ne (tgt := 21) hx hb dX6_run_12 (by decide) (fun c3 => ?_) (fun c3 => ?_)
  rotate_left
  · have h := o_t h c3
    refine lv_aload_n hx hb dX6_run_15 rfl (lv_at hl 0 rfl) ?_
    refine lv_iconst (v := (1 : Int32)) hx hb dX6_run_16 (by decide) ?_
    obtain ⟨v8, g9, h⟩ := o_b h
    refine k_rw (va_runV (As := [.int (1 : Int32)]) (rest := []) ⟨hx, hb, hml, hown, hts⟩ (c_X6_throwing l dC dI cI cF a (s_X6_thrown S (0 : Int32)) (1 : Int32) v8 g9 H.size) (cwV 1 hts gX6_run_X6_throwing rfl rfl rfl (by decide +kernel) ⟨Nat.le_of_ble_eq_true rfl, Nat.le_of_ble_eq_true rfl⟩) (k_preVw (q0 := 0) (ci := 6) hK hP hD [0, 1, 2, 3, 4, 5] rfl rfl rfl rfl rfl) rfl rfl hl.1 rfl (lv_room (Nat.le_of_ble_eq_true rfl)) dX6_run_17 ⟨Nat.zero_le _, Nat.zero_le _⟩) (st1 := [.int v8.1]) rfl hP hD hS hA [0, 1, 2, 3, 4, 5] rfl rfl (wn := wX6 a cI cF v8.2) rfl rfl rfl (fun H locs hP hD hS => ?_)
    have hu := Option.some.inj h
    exact W.iret (v := v8.1) hx hb hr (fun t ht hW => ⟨⟨congrArg (fun z => Outcome.returned (some (Value.int z.1))) hu, by rw [ht, ← hu]; exact hP⟩, hS.F ht⟩) hS.2.2 dX6_run_20
  have h := o_f h c3
  refine lv_aload_n hx hb dX6_run_21 rfl (lv_at hl 0 rfl) ?_
  obtain ⟨v4, g5, h⟩ := o_b h
  refine k_rw (va_runV (As := []) (rest := []) ⟨hx, hb, hml, hown, hts⟩ (c_X6_save l dC dI cI cF a (s_X6_thrown S (0 : Int32)) v4 g5 H.size) (cwV 0 hts gX6_run_X6_save rfl rfl rfl (by decide +kernel) ⟨Nat.le_of_ble_eq_true rfl, Nat.le_of_ble_eq_true rfl⟩) (k_preVw (q0 := 0) (ci := 6) hK hP hD [0, 1, 2, 3, 4, 5] rfl rfl rfl rfl rfl) rfl rfl hl.1 rfl (lv_room (Nat.le_of_ble_eq_true rfl)) dX6_run_22 ⟨Nat.zero_le _, Nat.zero_le _⟩) (st1 := []) rfl hP hD hS hA [0, 1, 2, 3, 4, 5] rfl rfl (wn := wX6 a cI cF v4) rfl rfl rfl (fun H locs hP hD hS => ?_)
  refine lv_aload_n hx hb dX6_run_25 rfl (lv_at hl 0 rfl) ?_
  refine lv_iload_n hx hb dX6_run_26 rfl (lv_at hl 1 rfl) ?_
  obtain ⟨v6, g7, h⟩ := o_b h
  refine k_rw (va_runV (As := [.int x1]) (rest := []) ⟨hx, hb, hml, hown, hts⟩ (c_X6_runs l dC dI cI cF a v4 x1 v6 g7 H.size) (cwV 1 hts gX6_run_X6_runs rfl rfl rfl (by decide +kernel) ⟨Nat.le_of_ble_eq_true rfl, Nat.le_of_ble_eq_true rfl⟩) (k_preVw (q0 := 0) (ci := 6) hK hP hD [0, 1, 2, 3, 4, 5] rfl rfl rfl rfl rfl) rfl rfl hl.1 rfl (lv_room (Nat.le_of_ble_eq_true rfl)) dX6_run_27 ⟨Nat.zero_le _, Nat.zero_le _⟩) (st1 := [.int v6.1]) rfl hP hD hS hA [0, 1, 2, 3, 4, 5] rfl rfl (wn := wX6 a cI cF v6.2) rfl rfl rfl (fun H locs hP hD hS => ?_)
  have hu := Option.some.inj h
  exact W.iret (v := v6.1) hx hb hr (fun t ht hW => ⟨⟨congrArg (fun z => Outcome.returned (some (Value.int z.1))) hu, by rw [ht, ← hu]; exact hP⟩, hS.F ht⟩) hS.2.2 dX6_run_30

def m_X6_clear (S : S_X6) : Option (Int32 × S_X6) := (m_X6_save (s_X6_thrown S (0 : Int32))).bind fun v1 => (nmL ((g_X6_s v1) (330 : Int32).toNatClampNeg) fun x1_3 => ((m_X6_forget (s_X6_s v1 (upd (g_X6_s v1) (330 : Int32).toNatClampNeg (0 : Int32)))).bind fun v5 => (some (x1_3, v5))))
set_option maxHeartbeats 4000000 in
set_option maxRecDepth 100000 in
theorem c_X6_clear (l : Launch) (dC : Nat → ClassId) (dI : Nat → Nat → Nat) (cI cF : ClassId) (a : Nat → Nat) (S : S_X6) (u : Int32 × S_X6) (h : m_X6_clear S = some u) : cRW l (dC, dI) cI cF yX6_clear wsX6_clear ({ frames := 1, cells := 0, slots := 0, locals := 21 } : Room) [.ref (a 0)] (wX6 a cI cF S) (wX6 a cI cF u.2) (some (.int u.1)) := by
  intro sz
  refine Met.ofW (cc := cX6_clear) (maxL := 2) (ret := (some .int)) (by decide) rfl ?_
  intro p e s m args below meth c s₁ B hml hv
  obtain ⟨hargs, hsz, hP, hK, hD0⟩ := hv
  subst hargs
  have hx := B.exec
  have hb := B.bytes
  have hr := B.returns
  have hts := atoms_spec (ws := wsX6_clear) B.pre
  have hown : s.vm.findClass RX6 = some m.cls := findClass_of_methodNamed B.named
  have hlocks := B.notSynchronized
  have w104 := hts (.methodLink RX6 104 yX6_save) (List.mem_of_getElem? (i := 3) rfl)
  have w110 := hts (.methodLink RX6 110 yX6_forget) (List.mem_of_getElem? (i := 10) rfl)
  have w25 := hts (.fieldLink RX6 25 "DrawnSliversModel" "thrown" "I") (List.mem_of_getElem? (i := 1) rfl)
  have w7 := hts (.fieldLink RX6 7 "DrawnSliversModel" "s" "[I") (List.mem_of_getElem? (i := 2) rfl)
  have huX6 : ∀ w ∈ u_ws RX6 TX6 11, w.before _ s = true := fun w h => hts w (List.mem_cons_of_mem _ (List.mem_append_right _ (h)))
  subst hsz
  have hD := hD0.self (sz := s.heap.size)
  generalize hAe : va_A (wX6 a cI cF S) s.heap.size = A at hD ⊢
  have hA : ∀ q : Nat, s.heap.size ≤ q → A q := fun q h => by rw [← hAe]; exact Or.inr h
  have hS : va_S A s.heap s.heap [] := va_S.rf
  have hl := lv_entry ([.ref (a 0)]) (n := 2) (Nat.le_of_ble_eq_true rfl)
  rw [lg_entry_eq]
  generalize (lg_sl ([.ref (a 0)]) ++ List.replicate (2 - (lg_sl ([.ref (a 0)])).length) Slot.unset).toArray = ls at hl ⊢
  have hl : lv_has ls 2 [(0, .ref (a 0))] := hl
  rw [m_X6_clear] at h
  refine lv_aload_n hx hb dX6_clear_0 rfl (lv_at hl 0 rfl) ?_
  refine lv_iconst (v := (0 : Int32)) hx hb dX6_clear_1 (by decide) ?_
  refine va_put (D := (dC, dI)) (ci := 6) (v := .int (0 : Int32)) (ty := .int) (C := RX6) (T := TX6) (N := 11) hx hb huX6 (fun _ h9 => h9) tyX6 tyX6_ok nmX6 hown hK hP hD hS 0 rfl rfl 8 (by decide) w25 (fun _ h9 => h9) rfl (by decide +kernel) rfl rfl (Nat.le_of_ble_eq_true rfl) dX6_clear_2 (fun H locs hP hD hS => ?_)
  have hP : va_P (dC, dI) vwCl (wX6 a cI cF (s_X6_thrown S (0 : Int32))) H := hP
  have hD : va_D A (wX6 a cI cF (s_X6_thrown S (0 : Int32))) := hD
  refine lv_aload_n hx hb dX6_clear_5 rfl (lv_at hl 0 rfl) ?_
  obtain ⟨v1, g2, h⟩ := o_b h
  refine k_rw (va_runV (As := []) (rest := []) ⟨hx, hb, hml, hown, hts⟩ (c_X6_save l dC dI cI cF a (s_X6_thrown S (0 : Int32)) v1 g2 H.size) (cwV 0 hts gX6_clear_X6_save rfl rfl rfl (by decide +kernel) ⟨Nat.le_of_ble_eq_true rfl, Nat.le_of_ble_eq_true rfl⟩) (k_preVw (q0 := 0) (ci := 6) hK hP hD [0, 1, 2, 3, 4, 5] rfl rfl rfl rfl rfl) rfl rfl hl.1 rfl (lv_room (Nat.le_of_ble_eq_true rfl)) dX6_clear_6 ⟨Nat.zero_le _, Nat.zero_le _⟩) (st1 := []) rfl hP hD hS hA [0, 1, 2, 3, 4, 5] rfl rfl (wn := wX6 a cI cF v1) rfl rfl rfl (fun H locs hP hD hS => ?_)
  refine lv_aload_n hx hb dX6_clear_9 rfl (lv_at hl 0 rfl) ?_
  refine va_get (D := (dC, dI)) (ci := 6) (v := .ref (a 1)) (C := RX6) (T := TX6) (N := 11) hx hb huX6 (fun _ h9 => h9) hown hK hP 0 rfl rfl 0 (by decide) w7 (fun _ h9 => h9) rfl dX6_clear_10 ?_
  refine lv_sipush (v := (330 : Int32)) hx hb dX6_clear_13 (by decide) ?_
  refine va_iald hx hb hK hP 1 0 rfl rfl (by unfold vp_in; decide) dX6_clear_16 ?_
  obtain ⟨x1_3, e4, h⟩ := o_n h
  refine lv_nmi e4 ?_
  refine lv_istore_n (lv' := [(1, .int x1_3), (0, .ref (a 0))]) hx hb dX6_clear_17 rfl hl (by decide) rfl (fun ls hl => ?_)
  refine lv_aload_n hx hb dX6_clear_18 rfl (lv_at hl 1 rfl) ?_
  refine va_get (D := (dC, dI)) (ci := 6) (v := .ref (a 1)) (C := RX6) (T := TX6) (N := 11) hx hb huX6 (fun _ h9 => h9) hown hK hP 0 rfl rfl 0 (by decide) w7 (fun _ h9 => h9) rfl dX6_clear_19 ?_
  refine lv_sipush (v := (330 : Int32)) hx hb dX6_clear_22 (by decide) ?_
  refine lv_iconst (v := (0 : Int32)) hx hb dX6_clear_25 (by decide) ?_
  refine va_iast hx hb hK hP hD hS 1 0 rfl rfl (by unfold vp_in; decide) dX6_clear_26 (fun H locs hP hD hS => ?_)
  have hP : va_P (dC, dI) vwCl (wX6 a cI cF (s_X6_s v1 (upd (g_X6_s v1) (330 : Int32).toNatClampNeg (0 : Int32)))) H := hP
  have hD : va_D A (wX6 a cI cF (s_X6_s v1 (upd (g_X6_s v1) (330 : Int32).toNatClampNeg (0 : Int32)))) := hD
  refine lv_aload_n hx hb dX6_clear_27 rfl (lv_at hl 1 rfl) ?_
  obtain ⟨v5, g6, h⟩ := o_b h
  refine k_rw (va_runV (As := []) (rest := []) ⟨hx, hb, hml, hown, hts⟩ (c_X6_forget l dC dI cI cF a (s_X6_s v1 (upd (g_X6_s v1) (330 : Int32).toNatClampNeg (0 : Int32))) v5 g6 H.size) (cwV 0 hts gX6_clear_X6_forget rfl rfl rfl (by decide +kernel) ⟨Nat.le_of_ble_eq_true rfl, Nat.le_of_ble_eq_true rfl⟩) (k_preVw (q0 := 0) (ci := 6) hK hP hD [0, 1, 2, 3, 4, 5] rfl rfl rfl rfl rfl) rfl rfl hl.1 rfl (lv_room (Nat.le_of_ble_eq_true rfl)) dX6_clear_28 ⟨Nat.zero_le _, Nat.zero_le _⟩) (st1 := []) rfl hP hD hS hA [0, 1, 2, 3, 4, 5] rfl rfl (wn := wX6 a cI cF v5) rfl rfl rfl (fun H locs hP hD hS => ?_)
  refine lv_iload_n hx hb dX6_clear_31 rfl (lv_at hl 0 rfl) ?_
  have hu := Option.some.inj h
  exact W.iret (v := x1_3) hx hb hr (fun t ht hW => ⟨⟨congrArg (fun z => Outcome.returned (some (Value.int z.1))) hu, by rw [ht, ← hu]; exact hP⟩, hS.F ht⟩) hS.2.2 dX6_clear_32

def m_X6_set_L86 (y1 : Int32) (y2 : Int32) (y3 : Int32) (t0 : Int32) (S : S_X6) : Option (Int32 × S_X6) := (m_X6_in y2 y3 t0).bind fun v9 => (if v9 = 0 then ((m_X6_throwing S (2 : Int32)).bind fun v18 => (some (v18.1, v18.2))) else ((m_X6_save S).bind fun v12 => (if ((340 : Int32) + y1) < 0 ∨ 350 ≤ ((340 : Int32) + y1).toNatClampNeg then none else (nmL ((g_X6_s v12) ((340 : Int32) + y1).toNatClampNeg) fun x5_15 => (if ((340 : Int32) + y1) < 0 ∨ 350 ≤ ((340 : Int32) + y1).toNatClampNeg then none else (some (x5_15, s_X6_s v12 (upd (g_X6_s v12) ((340 : Int32) + y1).toNatClampNeg y2))))))))
def m_X6_set_L44 (y1 : Int32) (y2 : Int32) (t0 : Int32) (S : S_X6) : Option (Int32 × S_X6) := if y1 = 0 then (m_X6_set_L86 y1 y2 t0 (6 : Int32) S) else (if y1 = (1 : Int32) then (m_X6_set_L86 y1 y2 t0 (8 : Int32) S) else (if y1 = (2 : Int32) then (m_X6_set_L86 y1 y2 t0 (99 : Int32) S) else (if y1 = (3 : Int32) then (m_X6_set_L86 y1 y2 t0 (1 : Int32) S) else (m_X6_set_L86 y1 y2 t0 (999 : Int32) S))))
def m_X6_set (S : S_X6) (x1 : Int32) (x2 : Int32) : Option (Int32 × S_X6) := (m_X6_in x1 (0 : Int32) (4 : Int32)).bind fun v1 => (if v1 = 0 then ((m_X6_throwing (s_X6_thrown S (0 : Int32)) (1 : Int32)).bind fun v22 => (some (v22.1, v22.2))) else (if x1 = 0 then (m_X6_set_L44 x1 x2 (0 : Int32) (s_X6_thrown S (0 : Int32))) else (if x1 = (3 : Int32) then (m_X6_set_L44 x1 x2 (0 : Int32) (s_X6_thrown S (0 : Int32))) else (if x1 = (4 : Int32) then (m_X6_set_L44 x1 x2 (10 : Int32) (s_X6_thrown S (0 : Int32))) else (m_X6_set_L44 x1 x2 (1 : Int32) (s_X6_thrown S (0 : Int32)))))))
set_option maxHeartbeats 4000000 in
set_option maxRecDepth 100000 in
theorem c_X6_set (l : Launch) (dC : Nat → ClassId) (dI : Nat → Nat → Nat) (cI cF : ClassId) (a : Nat → Nat) (S : S_X6) (x1 : Int32) (x2 : Int32) (u : Int32 × S_X6) (h : m_X6_set S x1 x2 = some u) : cRW l (dC, dI) cI cF yX6_set wsX6_set ({ frames := 1, cells := 0, slots := 0, locals := 22 } : Room) [.ref (a 0), .int x1, .int x2] (wX6 a cI cF S) (wX6 a cI cF u.2) (some (.int u.1)) := by
  intro sz
  refine Met.ofW (cc := cX6_set) (maxL := 6) (ret := (some .int)) (by decide) rfl ?_
  intro p e s m args below meth c s₁ B hml hv
  obtain ⟨hargs, hsz, hP, hK, hD0⟩ := hv
  subst hargs
  have hx := B.exec
  have hb := B.bytes
  have hr := B.returns
  have hts := atoms_spec (ws := wsX6_set) B.pre
  have hown : s.vm.findClass RX6 = some m.cls := findClass_of_methodNamed B.named
  have hlocks := B.notSynchronized
  have w104 := hts (.methodLink RX6 104 yX6_save) (List.mem_of_getElem? (i := 11) rfl)
  have w25 := hts (.fieldLink RX6 25 "DrawnSliversModel" "thrown" "I") (List.mem_of_getElem? (i := 1) rfl)
  have w32 := hts (.methodLink RX6 32 yX6_in) (List.mem_of_getElem? (i := 3) rfl)
  have w7 := hts (.fieldLink RX6 7 "DrawnSliversModel" "s" "[I") (List.mem_of_getElem? (i := 2) rfl)
  have w98 := hts (.methodLink RX6 98 yX6_throwing) (List.mem_of_getElem? (i := 7) rfl)
  have huX6 : ∀ w ∈ u_ws RX6 TX6 11, w.before _ s = true := fun w h => hts w (List.mem_cons_of_mem _ (List.mem_append_right _ (h)))
  subst hsz
  have hD := hD0.self (sz := s.heap.size)
  generalize hAe : va_A (wX6 a cI cF S) s.heap.size = A at hD ⊢
  have hA : ∀ q : Nat, s.heap.size ≤ q → A q := fun q h => by rw [← hAe]; exact Or.inr h
  have hS : va_S A s.heap s.heap [] := va_S.rf
  have L86 : ∀ (y1 : Int32) (y2 : Int32) (y3 : Int32) (t0 : Int32) (S : S_X6), m_X6_set_L86 y1 y2 y3 t0 S = some u → ∀ (H : Heap) (locs : List Loc), va_P (dC, dI) vwCl (wX6 a cI cF S) H → va_D A (wX6 a cI cF S) → va_S A s.heap H locs → ∀ (ls : Array Slot), lv_has ls 6 [(0, .ref (a 0)), (1, .int y1), (2, .int y2), (3, .int y3)] → W p l e (headSpec wsX6_set ({ frames := 1, cells := 0, slots := 0, locals := 22 } : Room)).room s m ([.ref (a 0), .int x1, .int x2] : List Value).toArray below meth c H locs 0 0 (MQ below (qRW (dC, dI) (wX6 a cI cF u.2) (some (.int u.1)) A) ([.ref (a 0), .int x1, .int x2] : List Value).toArray s 0 0 A) (F0 m 86 ls [.int t0]) := by
    intro  y1 y2 y3 t0 S h H locs hP hD hS ls hl
    rw [m_X6_set_L86] at h
    refine lv_istore (lv' := [(4, .int t0), (0, .ref (a 0)), (1, .int y1), (2, .int y2), (3, .int y3)]) hx hb dX6_set_86 hl (by decide) rfl (fun ls hl => ?_)
    refine lv_iload_n hx hb dX6_set_88 rfl (lv_at hl 3 rfl) ?_
    refine lv_iload_n hx hb dX6_set_89 rfl (lv_at hl 4 rfl) ?_
    refine lv_iload hx hb dX6_set_90 (lv_at hl 0 rfl) ?_
    obtain ⟨v9, g10, h⟩ := o_b h
    refine k_ro (va_runS (As := [.int y2, .int y3, .int t0]) (rest := []) ⟨hx, hb, hml, hown, hts⟩ (c_X6_in l dC dI cI cF y2 y3 t0 v9 g10) (va_cwS 3 hts gX6_set_X6_in rfl rfl rfl (by decide +kernel) ⟨Nat.le_of_ble_eq_true rfl, Nat.le_of_ble_eq_true rfl⟩) (k_prePU) rfl rfl hl.1 rfl (lv_room (Nat.le_of_ble_eq_true rfl)) dX6_set_92 ⟨Nat.zero_le _, Nat.zero_le _⟩) (st1 := [.int v9]) rfl ?_
    refine lv_if_ne (tgt := 104) hx hb dX6_set_95 (by decide) (fun c11 => ?_) (fun c11 => ?_)
    rotate_left
    · have h := o_t h c11
      refine lv_aload_n hx hb dX6_set_98 rfl (lv_at hl 1 rfl) ?_
      refine lv_iconst (v := (2 : Int32)) hx hb dX6_set_99 (by decide) ?_
      obtain ⟨v18, g19, h⟩ := o_b h
      refine k_rw (va_runV (As := [.int (2 : Int32)]) (rest := []) ⟨hx, hb, hml, hown, hts⟩ (c_X6_throwing l dC dI cI cF a S (2 : Int32) v18 g19 H.size) (cwV 1 hts gX6_set_X6_throwing rfl rfl rfl (by decide +kernel) ⟨Nat.le_of_ble_eq_true rfl, Nat.le_of_ble_eq_true rfl⟩) (k_preVw (q0 := 0) (ci := 6) hK hP hD [0, 1, 2, 3, 4, 5] rfl rfl rfl rfl rfl) rfl rfl hl.1 rfl (lv_room (Nat.le_of_ble_eq_true rfl)) dX6_set_100 ⟨Nat.zero_le _, Nat.zero_le _⟩) (st1 := [.int v18.1]) rfl hP hD hS hA [0, 1, 2, 3, 4, 5] rfl rfl (wn := wX6 a cI cF v18.2) rfl rfl rfl (fun H locs hP hD hS => ?_)
      have hu := Option.some.inj h
      exact W.iret (v := v18.1) hx hb hr (fun t ht hW => ⟨⟨congrArg (fun z => Outcome.returned (some (Value.int z.1))) hu, by rw [ht, ← hu]; exact hP⟩, hS.F ht⟩) hS.2.2 dX6_set_103
    have h := o_f h c11
    refine lv_aload_n hx hb dX6_set_104 rfl (lv_at hl 1 rfl) ?_
    obtain ⟨v12, g13, h⟩ := o_b h
    refine k_rw (va_runV (As := []) (rest := []) ⟨hx, hb, hml, hown, hts⟩ (c_X6_save l dC dI cI cF a S v12 g13 H.size) (cwV 0 hts gX6_set_X6_save rfl rfl rfl (by decide +kernel) ⟨Nat.le_of_ble_eq_true rfl, Nat.le_of_ble_eq_true rfl⟩) (k_preVw (q0 := 0) (ci := 6) hK hP hD [0, 1, 2, 3, 4, 5] rfl rfl rfl rfl rfl) rfl rfl hl.1 rfl (lv_room (Nat.le_of_ble_eq_true rfl)) dX6_set_105 ⟨Nat.zero_le _, Nat.zero_le _⟩) (st1 := []) rfl hP hD hS hA [0, 1, 2, 3, 4, 5] rfl rfl (wn := wX6 a cI cF v12) rfl rfl rfl (fun H locs hP hD hS => ?_)
    refine lv_aload_n hx hb dX6_set_108 rfl (lv_at hl 1 rfl) ?_
    refine va_get (D := (dC, dI)) (ci := 6) (v := .ref (a 1)) (C := RX6) (T := TX6) (N := 11) hx hb huX6 (fun _ h9 => h9) hown hK hP 0 rfl rfl 0 (by decide) w7 (fun _ h9 => h9) rfl dX6_set_109 ?_
    refine lv_sipush (v := (340 : Int32)) hx hb dX6_set_112 (by decide) ?_
    refine lv_iload_n hx hb dX6_set_115 rfl (lv_at hl 2 rfl) ?_
    refine lv_iadd hx hb dX6_set_116 ?_
    obtain ⟨i14, h⟩ := o_in h
    refine va_iald hx hb hK hP 1 0 rfl rfl i14 dX6_set_117 ?_
    obtain ⟨x5_15, e16, h⟩ := o_n h
    refine lv_nmi e16 ?_
    refine lv_istore (lv' := [(5, .int x5_15), (4, .int t0), (0, .ref (a 0)), (1, .int y1), (2, .int y2), (3, .int y3)]) hx hb dX6_set_118 hl (by decide) rfl (fun ls hl => ?_)
    refine lv_aload_n hx hb dX6_set_120 rfl (lv_at hl 2 rfl) ?_
    refine va_get (D := (dC, dI)) (ci := 6) (v := .ref (a 1)) (C := RX6) (T := TX6) (N := 11) hx hb huX6 (fun _ h9 => h9) hown hK hP 0 rfl rfl 0 (by decide) w7 (fun _ h9 => h9) rfl dX6_set_121 ?_
    refine lv_sipush (v := (340 : Int32)) hx hb dX6_set_124 (by decide) ?_
    refine lv_iload_n hx hb dX6_set_127 rfl (lv_at hl 3 rfl) ?_
    refine lv_iadd hx hb dX6_set_128 ?_
    refine lv_iload_n hx hb dX6_set_129 rfl (lv_at hl 4 rfl) ?_
    obtain ⟨i17, h⟩ := o_in h
    refine va_iast hx hb hK hP hD hS 1 0 rfl rfl i17 dX6_set_130 (fun H locs hP hD hS => ?_)
    have hP : va_P (dC, dI) vwCl (wX6 a cI cF (s_X6_s v12 (upd (g_X6_s v12) ((340 : Int32) + y1).toNatClampNeg y2))) H := hP
    have hD : va_D A (wX6 a cI cF (s_X6_s v12 (upd (g_X6_s v12) ((340 : Int32) + y1).toNatClampNeg y2))) := hD
    refine lv_iload hx hb dX6_set_131 (lv_at hl 0 rfl) ?_
    have hu := Option.some.inj h
    exact W.iret (v := x5_15) hx hb hr (fun t ht hW => ⟨⟨congrArg (fun z => Outcome.returned (some (Value.int z.1))) hu, by rw [ht, ← hu]; exact hP⟩, hS.F ht⟩) hS.2.2 dX6_set_133
  have L44 : ∀ (y1 : Int32) (y2 : Int32) (t0 : Int32) (S : S_X6), m_X6_set_L44 y1 y2 t0 S = some u → ∀ (H : Heap) (locs : List Loc), va_P (dC, dI) vwCl (wX6 a cI cF S) H → va_D A (wX6 a cI cF S) → va_S A s.heap H locs → ∀ (ls : Array Slot), lv_has ls 6 [(0, .ref (a 0)), (1, .int y1), (2, .int y2)] → W p l e (headSpec wsX6_set ({ frames := 1, cells := 0, slots := 0, locals := 22 } : Room)).room s m ([.ref (a 0), .int x1, .int x2] : List Value).toArray below meth c H locs 0 0 (MQ below (qRW (dC, dI) (wX6 a cI cF u.2) (some (.int u.1)) A) ([.ref (a 0), .int x1, .int x2] : List Value).toArray s 0 0 A) (F0 m 44 ls [.int t0]) := by
    intro  y1 y2 t0 S h H locs hP hD hS ls hl
    rw [m_X6_set_L44] at h
    refine lv_istore_n (lv' := [(3, .int t0), (0, .ref (a 0)), (1, .int y1), (2, .int y2)]) hx hb dX6_set_44 rfl hl (by decide) rfl (fun ls hl => ?_)
    refine lv_iload_n hx hb dX6_set_45 rfl (lv_at hl 2 rfl) ?_
    refine lv_if_ne (tgt := 54) hx hb dX6_set_46 (by decide) (fun c5 => ?_) (fun c5 => ?_)
    rotate_left
    · have h := o_t h c5
      refine lv_bipush (v := (6 : Int32)) hx hb dX6_set_49 (by decide) ?_
      refine lv_goto (tgt := 86) hx hb dX6_set_51 (by decide) ?_
      exact L86 _ _ _ _ _ h _ _ hP hD hS _ (lv_sub hl [1, 2, 3, 0] rfl)
    have h := o_f h c5
    refine lv_iload_n hx hb dX6_set_54 rfl (lv_at hl 2 rfl) ?_
    refine lv_iconst (v := (1 : Int32)) hx hb dX6_set_55 (by decide) ?_
    refine lv_icmp_ne (tgt := 64) hx hb dX6_set_56 (by decide) (fun c6 => ?_) (fun c6 => ?_)
    rotate_left
    · have h := o_t h c6
      refine lv_bipush (v := (8 : Int32)) hx hb dX6_set_59 (by decide) ?_
      refine lv_goto (tgt := 86) hx hb dX6_set_61 (by decide) ?_
      exact L86 _ _ _ _ _ h _ _ hP hD hS _ (lv_sub hl [1, 2, 3, 0] rfl)
    have h := o_f h c6
    refine lv_iload_n hx hb dX6_set_64 rfl (lv_at hl 2 rfl) ?_
    refine lv_iconst (v := (2 : Int32)) hx hb dX6_set_65 (by decide) ?_
    refine lv_icmp_ne (tgt := 74) hx hb dX6_set_66 (by decide) (fun c7 => ?_) (fun c7 => ?_)
    rotate_left
    · have h := o_t h c7
      refine lv_bipush (v := (99 : Int32)) hx hb dX6_set_69 (by decide) ?_
      refine lv_goto (tgt := 86) hx hb dX6_set_71 (by decide) ?_
      exact L86 _ _ _ _ _ h _ _ hP hD hS _ (lv_sub hl [1, 2, 3, 0] rfl)
    have h := o_f h c7
    refine lv_iload_n hx hb dX6_set_74 rfl (lv_at hl 2 rfl) ?_
    refine lv_iconst (v := (3 : Int32)) hx hb dX6_set_75 (by decide) ?_
    refine lv_icmp_ne (tgt := 83) hx hb dX6_set_76 (by decide) (fun c8 => ?_) (fun c8 => ?_)
    · have h := o_f h c8
      refine lv_sipush (v := (999 : Int32)) hx hb dX6_set_83 (by decide) ?_
      exact L86 _ _ _ _ _ h _ _ hP hD hS _ (lv_sub hl [1, 2, 3, 0] rfl)
    have h := o_t h c8
    refine lv_iconst (v := (1 : Int32)) hx hb dX6_set_79 (by decide) ?_
    refine lv_goto (tgt := 86) hx hb dX6_set_80 (by decide) ?_
    exact L86 _ _ _ _ _ h _ _ hP hD hS _ (lv_sub hl [1, 2, 3, 0] rfl)
  have hl := lv_entry ([.ref (a 0), .int x1, .int x2]) (n := 6) (Nat.le_of_ble_eq_true rfl)
  rw [lg_entry_eq]
  generalize (lg_sl ([.ref (a 0), .int x1, .int x2]) ++ List.replicate (6 - (lg_sl ([.ref (a 0), .int x1, .int x2])).length) Slot.unset).toArray = ls at hl ⊢
  have hl : lv_has ls 6 [(0, .ref (a 0)), (1, .int x1), (2, .int x2)] := hl
  rw [m_X6_set] at h
  refine lv_aload_n hx hb dX6_set_0 rfl (lv_at hl 0 rfl) ?_
  refine lv_iconst (v := (0 : Int32)) hx hb dX6_set_1 (by decide) ?_
  refine va_put (D := (dC, dI)) (ci := 6) (v := .int (0 : Int32)) (ty := .int) (C := RX6) (T := TX6) (N := 11) hx hb huX6 (fun _ h9 => h9) tyX6 tyX6_ok nmX6 hown hK hP hD hS 0 rfl rfl 8 (by decide) w25 (fun _ h9 => h9) rfl (by decide +kernel) rfl rfl (Nat.le_of_ble_eq_true rfl) dX6_set_2 (fun H locs hP hD hS => ?_)
  have hP : va_P (dC, dI) vwCl (wX6 a cI cF (s_X6_thrown S (0 : Int32))) H := hP
  have hD : va_D A (wX6 a cI cF (s_X6_thrown S (0 : Int32))) := hD
  refine lv_iload_n hx hb dX6_set_5 rfl (lv_at hl 1 rfl) ?_
  refine lv_iconst (v := (0 : Int32)) hx hb dX6_set_6 (by decide) ?_
  refine lv_iconst (v := (4 : Int32)) hx hb dX6_set_7 (by decide) ?_
  obtain ⟨v1, g2, h⟩ := o_b h
  refine k_ro (va_runS (As := [.int x1, .int (0 : Int32), .int (4 : Int32)]) (rest := []) ⟨hx, hb, hml, hown, hts⟩ (c_X6_in l dC dI cI cF x1 (0 : Int32) (4 : Int32) v1 g2) (va_cwS 3 hts gX6_set_X6_in rfl rfl rfl (by decide +kernel) ⟨Nat.le_of_ble_eq_true rfl, Nat.le_of_ble_eq_true rfl⟩) (k_prePU) rfl rfl hl.1 rfl (lv_room (Nat.le_of_ble_eq_true rfl)) dX6_set_8 ⟨Nat.zero_le _, Nat.zero_le _⟩) (st1 := [.int v1]) rfl ?_
  refine lv_if_ne (tgt := 20) hx hb dX6_set_11 (by decide) (fun c3 => ?_) (fun c3 => ?_)
  rotate_left
  · have h := o_t h c3
    refine lv_aload_n hx hb dX6_set_14 rfl (lv_at hl 0 rfl) ?_
    refine lv_iconst (v := (1 : Int32)) hx hb dX6_set_15 (by decide) ?_
    obtain ⟨v22, g23, h⟩ := o_b h
    refine k_rw (va_runV (As := [.int (1 : Int32)]) (rest := []) ⟨hx, hb, hml, hown, hts⟩ (c_X6_throwing l dC dI cI cF a (s_X6_thrown S (0 : Int32)) (1 : Int32) v22 g23 H.size) (cwV 1 hts gX6_set_X6_throwing rfl rfl rfl (by decide +kernel) ⟨Nat.le_of_ble_eq_true rfl, Nat.le_of_ble_eq_true rfl⟩) (k_preVw (q0 := 0) (ci := 6) hK hP hD [0, 1, 2, 3, 4, 5] rfl rfl rfl rfl rfl) rfl rfl hl.1 rfl (lv_room (Nat.le_of_ble_eq_true rfl)) dX6_set_16 ⟨Nat.zero_le _, Nat.zero_le _⟩) (st1 := [.int v22.1]) rfl hP hD hS hA [0, 1, 2, 3, 4, 5] rfl rfl (wn := wX6 a cI cF v22.2) rfl rfl rfl (fun H locs hP hD hS => ?_)
    have hu := Option.some.inj h
    exact W.iret (v := v22.1) hx hb hr (fun t ht hW => ⟨⟨congrArg (fun z => Outcome.returned (some (Value.int z.1))) hu, by rw [ht, ← hu]; exact hP⟩, hS.F ht⟩) hS.2.2 dX6_set_19
  have h := o_f h c3
  refine lv_iload_n hx hb dX6_set_20 rfl (lv_at hl 1 rfl) ?_
  refine lv_if_eq (tgt := 29) hx hb dX6_set_21 (by decide) (fun c4 => ?_) (fun c4 => ?_)
  · have h := o_t h c4
    refine lv_iconst (v := (0 : Int32)) hx hb dX6_set_29 (by decide) ?_
    refine lv_goto (tgt := 44) hx hb dX6_set_30 (by decide) ?_
    exact L44 _ _ _ _ h _ _ hP hD hS _ (lv_sub hl [0, 1, 2] rfl)
  have h := o_f h c4
  refine lv_iload_n hx hb dX6_set_24 rfl (lv_at hl 1 rfl) ?_
  refine lv_iconst (v := (3 : Int32)) hx hb dX6_set_25 (by decide) ?_
  refine lv_icmp_ne (tgt := 33) hx hb dX6_set_26 (by decide) (fun c20 => ?_) (fun c20 => ?_)
  rotate_left
  · have h := o_t h c20
    refine lv_iconst (v := (0 : Int32)) hx hb dX6_set_29 (by decide) ?_
    refine lv_goto (tgt := 44) hx hb dX6_set_30 (by decide) ?_
    exact L44 _ _ _ _ h _ _ hP hD hS _ (lv_sub hl [0, 1, 2] rfl)
  have h := o_f h c20
  refine lv_iload_n hx hb dX6_set_33 rfl (lv_at hl 1 rfl) ?_
  refine lv_iconst (v := (4 : Int32)) hx hb dX6_set_34 (by decide) ?_
  refine lv_icmp_ne (tgt := 43) hx hb dX6_set_35 (by decide) (fun c21 => ?_) (fun c21 => ?_)
  · have h := o_f h c21
    refine lv_iconst (v := (1 : Int32)) hx hb dX6_set_43 (by decide) ?_
    exact L44 _ _ _ _ h _ _ hP hD hS _ (lv_sub hl [0, 1, 2] rfl)
  have h := o_t h c21
  refine lv_bipush (v := (10 : Int32)) hx hb dX6_set_38 (by decide) ?_
  refine lv_goto (tgt := 44) hx hb dX6_set_40 (by decide) ?_
  exact L44 _ _ _ _ h _ _ hP hD hS _ (lv_sub hl [0, 1, 2] rfl)

def m_X6_append (S : S_X6) (x1 : Int32) : Option (Int32 × S_X6) := (m_X6_in x1 (33 : Int32) (126 : Int32)).bind fun v1 => (if v1 = 0 then ((m_X6_throwing (s_X6_thrown S (0 : Int32)) (1 : Int32)).bind fun v8 => (some (v8.1, v8.2))) else (if (g_X6_length S) = (60 : Int32) then ((m_X6_throwing (s_X6_thrown S (0 : Int32)) (2 : Int32)).bind fun v6 => (some (v6.1, v6.2))) else (if (g_X6_length S) < 0 ∨ 60 ≤ (g_X6_length S).toNatClampNeg then none else (some ((g_X6_length S) + (1 : Int32), s_X6_thrown (s_X6_length (s_X6_text S (upd (g_X6_text S) (g_X6_length S).toNatClampNeg x1)) ((g_X6_length S) + (1 : Int32))) (0 : Int32))))))
set_option maxHeartbeats 4000000 in
set_option maxRecDepth 100000 in
theorem c_X6_append (l : Launch) (dC : Nat → ClassId) (dI : Nat → Nat → Nat) (cI cF : ClassId) (a : Nat → Nat) (S : S_X6) (x1 : Int32) (u : Int32 × S_X6) (h : m_X6_append S x1 = some u) : cRW l (dC, dI) cI cF yX6_append wsX6_append ({ frames := 1, cells := 0, slots := 0, locals := 22 } : Room) [.ref (a 0), .int x1] (wX6 a cI cF S) (wX6 a cI cF u.2) (some (.int u.1)) := by
  intro sz
  refine Met.ofW (cc := cX6_append) (maxL := 2) (ret := (some .int)) (by decide) rfl ?_
  intro p e s m args below meth c s₁ B hml hv
  obtain ⟨hargs, hsz, hP, hK, hD0⟩ := hv
  subst hargs
  have hx := B.exec
  have hb := B.bytes
  have hr := B.returns
  have hts := atoms_spec (ws := wsX6_append) B.pre
  have hown : s.vm.findClass RX6 = some m.cls := findClass_of_methodNamed B.named
  have hlocks := B.notSynchronized
  have w22 := hts (.fieldLink RX6 22 "DrawnSliversModel" "text" "[I") (List.mem_of_getElem? (i := 3) rfl)
  have w25 := hts (.fieldLink RX6 25 "DrawnSliversModel" "thrown" "I") (List.mem_of_getElem? (i := 1) rfl)
  have w32 := hts (.methodLink RX6 32 yX6_in) (List.mem_of_getElem? (i := 4) rfl)
  have w75 := hts (.fieldLink RX6 75 "DrawnSliversModel" "length" "I") (List.mem_of_getElem? (i := 2) rfl)
  have w98 := hts (.methodLink RX6 98 yX6_throwing) (List.mem_of_getElem? (i := 8) rfl)
  have huX6 : ∀ w ∈ u_ws RX6 TX6 11, w.before _ s = true := fun w h => hts w (List.mem_cons_of_mem _ (List.mem_append_right _ (h)))
  subst hsz
  have hD := hD0.self (sz := s.heap.size)
  generalize hAe : va_A (wX6 a cI cF S) s.heap.size = A at hD ⊢
  have hA : ∀ q : Nat, s.heap.size ≤ q → A q := fun q h => by rw [← hAe]; exact Or.inr h
  have hS : va_S A s.heap s.heap [] := va_S.rf
  have hl := lv_entry ([.ref (a 0), .int x1]) (n := 2) (Nat.le_of_ble_eq_true rfl)
  rw [lg_entry_eq]
  generalize (lg_sl ([.ref (a 0), .int x1]) ++ List.replicate (2 - (lg_sl ([.ref (a 0), .int x1])).length) Slot.unset).toArray = ls at hl ⊢
  have hl : lv_has ls 2 [(0, .ref (a 0)), (1, .int x1)] := hl
  rw [m_X6_append] at h
  refine lv_aload_n hx hb dX6_append_0 rfl (lv_at hl 0 rfl) ?_
  refine lv_iconst (v := (0 : Int32)) hx hb dX6_append_1 (by decide) ?_
  refine va_put (D := (dC, dI)) (ci := 6) (v := .int (0 : Int32)) (ty := .int) (C := RX6) (T := TX6) (N := 11) hx hb huX6 (fun _ h9 => h9) tyX6 tyX6_ok nmX6 hown hK hP hD hS 0 rfl rfl 8 (by decide) w25 (fun _ h9 => h9) rfl (by decide +kernel) rfl rfl (Nat.le_of_ble_eq_true rfl) dX6_append_2 (fun H locs hP hD hS => ?_)
  have hP : va_P (dC, dI) vwCl (wX6 a cI cF (s_X6_thrown S (0 : Int32))) H := hP
  have hD : va_D A (wX6 a cI cF (s_X6_thrown S (0 : Int32))) := hD
  refine lv_iload_n hx hb dX6_append_5 rfl (lv_at hl 1 rfl) ?_
  refine lv_bipush (v := (33 : Int32)) hx hb dX6_append_6 (by decide) ?_
  refine lv_bipush (v := (126 : Int32)) hx hb dX6_append_8 (by decide) ?_
  obtain ⟨v1, g2, h⟩ := o_b h
  refine k_ro (va_runS (As := [.int x1, .int (33 : Int32), .int (126 : Int32)]) (rest := []) ⟨hx, hb, hml, hown, hts⟩ (c_X6_in l dC dI cI cF x1 (33 : Int32) (126 : Int32) v1 g2) (va_cwS 3 hts gX6_append_X6_in rfl rfl rfl (by decide +kernel) ⟨Nat.le_of_ble_eq_true rfl, Nat.le_of_ble_eq_true rfl⟩) (k_prePU) rfl rfl hl.1 rfl (lv_room (Nat.le_of_ble_eq_true rfl)) dX6_append_10 ⟨Nat.zero_le _, Nat.zero_le _⟩) (st1 := [.int v1]) rfl ?_
  refine lv_if_ne (tgt := 22) hx hb dX6_append_13 (by decide) (fun c3 => ?_) (fun c3 => ?_)
  rotate_left
  · have h := o_t h c3
    refine lv_aload_n hx hb dX6_append_16 rfl (lv_at hl 0 rfl) ?_
    refine lv_iconst (v := (1 : Int32)) hx hb dX6_append_17 (by decide) ?_
    obtain ⟨v8, g9, h⟩ := o_b h
    refine k_rw (va_runV (As := [.int (1 : Int32)]) (rest := []) ⟨hx, hb, hml, hown, hts⟩ (c_X6_throwing l dC dI cI cF a (s_X6_thrown S (0 : Int32)) (1 : Int32) v8 g9 H.size) (cwV 1 hts gX6_append_X6_throwing rfl rfl rfl (by decide +kernel) ⟨Nat.le_of_ble_eq_true rfl, Nat.le_of_ble_eq_true rfl⟩) (k_preVw (q0 := 0) (ci := 6) hK hP hD [0, 1, 2, 3, 4, 5] rfl rfl rfl rfl rfl) rfl rfl hl.1 rfl (lv_room (Nat.le_of_ble_eq_true rfl)) dX6_append_18 ⟨Nat.zero_le _, Nat.zero_le _⟩) (st1 := [.int v8.1]) rfl hP hD hS hA [0, 1, 2, 3, 4, 5] rfl rfl (wn := wX6 a cI cF v8.2) rfl rfl rfl (fun H locs hP hD hS => ?_)
    have hu := Option.some.inj h
    exact W.iret (v := v8.1) hx hb hr (fun t ht hW => ⟨⟨congrArg (fun z => Outcome.returned (some (Value.int z.1))) hu, by rw [ht, ← hu]; exact hP⟩, hS.F ht⟩) hS.2.2 dX6_append_21
  have h := o_f h c3
  refine lv_aload_n hx hb dX6_append_22 rfl (lv_at hl 0 rfl) ?_
  refine va_get (D := (dC, dI)) (ci := 6) (v := .int (g_X6_length S)) (C := RX6) (T := TX6) (N := 11) hx hb huX6 (fun _ h9 => h9) hown hK hP 0 rfl rfl 7 (by decide) w75 (fun _ h9 => h9) rfl dX6_append_23 ?_
  refine lv_bipush (v := (60 : Int32)) hx hb dX6_append_26 (by decide) ?_
  refine lv_icmp_ne (tgt := 37) hx hb dX6_append_28 (by decide) (fun c4 => ?_) (fun c4 => ?_)
  rotate_left
  · have h := o_t h c4
    refine lv_aload_n hx hb dX6_append_31 rfl (lv_at hl 0 rfl) ?_
    refine lv_iconst (v := (2 : Int32)) hx hb dX6_append_32 (by decide) ?_
    obtain ⟨v6, g7, h⟩ := o_b h
    refine k_rw (va_runV (As := [.int (2 : Int32)]) (rest := []) ⟨hx, hb, hml, hown, hts⟩ (c_X6_throwing l dC dI cI cF a (s_X6_thrown S (0 : Int32)) (2 : Int32) v6 g7 H.size) (cwV 1 hts gX6_append_X6_throwing rfl rfl rfl (by decide +kernel) ⟨Nat.le_of_ble_eq_true rfl, Nat.le_of_ble_eq_true rfl⟩) (k_preVw (q0 := 0) (ci := 6) hK hP hD [0, 1, 2, 3, 4, 5] rfl rfl rfl rfl rfl) rfl rfl hl.1 rfl (lv_room (Nat.le_of_ble_eq_true rfl)) dX6_append_33 ⟨Nat.zero_le _, Nat.zero_le _⟩) (st1 := [.int v6.1]) rfl hP hD hS hA [0, 1, 2, 3, 4, 5] rfl rfl (wn := wX6 a cI cF v6.2) rfl rfl rfl (fun H locs hP hD hS => ?_)
    have hu := Option.some.inj h
    exact W.iret (v := v6.1) hx hb hr (fun t ht hW => ⟨⟨congrArg (fun z => Outcome.returned (some (Value.int z.1))) hu, by rw [ht, ← hu]; exact hP⟩, hS.F ht⟩) hS.2.2 dX6_append_36
  have h := o_f h c4
  refine lv_aload_n hx hb dX6_append_37 rfl (lv_at hl 0 rfl) ?_
  refine va_get (D := (dC, dI)) (ci := 6) (v := .ref (a 5)) (C := RX6) (T := TX6) (N := 11) hx hb huX6 (fun _ h9 => h9) hown hK hP 0 rfl rfl 6 (by decide) w22 (fun _ h9 => h9) rfl dX6_append_38 ?_
  refine lv_aload_n hx hb dX6_append_41 rfl (lv_at hl 0 rfl) ?_
  refine va_get (D := (dC, dI)) (ci := 6) (v := .int (g_X6_length S)) (C := RX6) (T := TX6) (N := 11) hx hb huX6 (fun _ h9 => h9) hown hK hP 0 rfl rfl 7 (by decide) w75 (fun _ h9 => h9) rfl dX6_append_42 ?_
  refine lv_iload_n hx hb dX6_append_45 rfl (lv_at hl 1 rfl) ?_
  obtain ⟨i5, h⟩ := o_in h
  refine va_iast hx hb hK hP hD hS 5 0 rfl rfl i5 dX6_append_46 (fun H locs hP hD hS => ?_)
  have hP : va_P (dC, dI) vwCl (wX6 a cI cF (s_X6_thrown (s_X6_text S (upd (g_X6_text S) (g_X6_length S).toNatClampNeg x1)) (0 : Int32))) H := hP
  have hD : va_D A (wX6 a cI cF (s_X6_thrown (s_X6_text S (upd (g_X6_text S) (g_X6_length S).toNatClampNeg x1)) (0 : Int32))) := hD
  refine lv_aload_n hx hb dX6_append_47 rfl (lv_at hl 0 rfl) ?_
  refine lv_dup hx hb dX6_append_48 rfl ?_
  refine va_get (D := (dC, dI)) (ci := 6) (v := .int (g_X6_length S)) (C := RX6) (T := TX6) (N := 11) hx hb huX6 (fun _ h9 => h9) hown hK hP 0 rfl rfl 7 (by decide) w75 (fun _ h9 => h9) rfl dX6_append_49 ?_
  refine lv_iconst (v := (1 : Int32)) hx hb dX6_append_52 (by decide) ?_
  refine lv_iadd hx hb dX6_append_53 ?_
  refine va_put (D := (dC, dI)) (ci := 6) (v := .int ((g_X6_length S) + (1 : Int32))) (ty := .int) (C := RX6) (T := TX6) (N := 11) hx hb huX6 (fun _ h9 => h9) tyX6 tyX6_ok nmX6 hown hK hP hD hS 0 rfl rfl 7 (by decide) w75 (fun _ h9 => h9) rfl (by decide +kernel) rfl rfl (Nat.le_of_ble_eq_true rfl) dX6_append_54 (fun H locs hP hD hS => ?_)
  have hP : va_P (dC, dI) vwCl (wX6 a cI cF (s_X6_thrown (s_X6_length (s_X6_text S (upd (g_X6_text S) (g_X6_length S).toNatClampNeg x1)) ((g_X6_length S) + (1 : Int32))) (0 : Int32))) H := hP
  have hD : va_D A (wX6 a cI cF (s_X6_thrown (s_X6_length (s_X6_text S (upd (g_X6_text S) (g_X6_length S).toNatClampNeg x1)) ((g_X6_length S) + (1 : Int32))) (0 : Int32))) := hD
  refine lv_aload_n hx hb dX6_append_57 rfl (lv_at hl 0 rfl) ?_
  refine va_get (D := (dC, dI)) (ci := 6) (v := .int ((g_X6_length S) + (1 : Int32))) (C := RX6) (T := TX6) (N := 11) hx hb huX6 (fun _ h9 => h9) hown hK hP 0 rfl rfl 7 (by decide) w75 (fun _ h9 => h9) rfl dX6_append_58 ?_
  have hu := Option.some.inj h
  exact W.iret (v := (g_X6_length S) + (1 : Int32)) hx hb hr (fun t ht hW => ⟨⟨congrArg (fun z => Outcome.returned (some (Value.int z.1))) hu, by rw [ht, ← hu]; exact hP⟩, hS.F ht⟩) hS.2.2 dX6_append_61

def m_X6_clearBuffer (S : S_X6) : Option (Int32 × S_X6) := nmL (g_X6_length S) fun x1_1 => (some (x1_1, s_X6_thrown (s_X6_length S (0 : Int32)) (0 : Int32)))
set_option maxHeartbeats 4000000 in
set_option maxRecDepth 100000 in
theorem c_X6_clearBuffer (l : Launch) (dC : Nat → ClassId) (dI : Nat → Nat → Nat) (cI cF : ClassId) (a : Nat → Nat) (S : S_X6) (u : Int32 × S_X6) (h : m_X6_clearBuffer S = some u) : cRW l (dC, dI) cI cF yX6_clearBuffer wsX6_clearBuffer ({ frames := 0, cells := 0, slots := 0, locals := 0 } : Room) [.ref (a 0)] (wX6 a cI cF S) (wX6 a cI cF u.2) (some (.int u.1)) := by
  intro sz
  refine Met.ofW (cc := cX6_clearBuffer) (maxL := 2) (ret := (some .int)) (by decide) rfl ?_
  intro p e s m args below meth c s₁ B hml hv
  obtain ⟨hargs, hsz, hP, hK, hD0⟩ := hv
  subst hargs
  have hx := B.exec
  have hb := B.bytes
  have hr := B.returns
  have hts := atoms_spec (ws := wsX6_clearBuffer) B.pre
  have hown : s.vm.findClass RX6 = some m.cls := findClass_of_methodNamed B.named
  have hlocks := B.notSynchronized
  have w25 := hts (.fieldLink RX6 25 "DrawnSliversModel" "thrown" "I") (List.mem_of_getElem? (i := 1) rfl)
  have w75 := hts (.fieldLink RX6 75 "DrawnSliversModel" "length" "I") (List.mem_of_getElem? (i := 2) rfl)
  have huX6 : ∀ w ∈ u_ws RX6 TX6 11, w.before _ s = true := fun w h => hts w (List.mem_cons_of_mem _ (List.mem_append_right _ (h)))
  subst hsz
  have hD := hD0.self (sz := s.heap.size)
  generalize hAe : va_A (wX6 a cI cF S) s.heap.size = A at hD ⊢
  have hA : ∀ q : Nat, s.heap.size ≤ q → A q := fun q h => by rw [← hAe]; exact Or.inr h
  have hS : va_S A s.heap s.heap [] := va_S.rf
  have hl := lv_entry ([.ref (a 0)]) (n := 2) (Nat.le_of_ble_eq_true rfl)
  rw [lg_entry_eq]
  generalize (lg_sl ([.ref (a 0)]) ++ List.replicate (2 - (lg_sl ([.ref (a 0)])).length) Slot.unset).toArray = ls at hl ⊢
  have hl : lv_has ls 2 [(0, .ref (a 0))] := hl
  rw [m_X6_clearBuffer] at h
  refine lv_aload_n hx hb dX6_clearBuffer_0 rfl (lv_at hl 0 rfl) ?_
  refine lv_iconst (v := (0 : Int32)) hx hb dX6_clearBuffer_1 (by decide) ?_
  refine va_put (D := (dC, dI)) (ci := 6) (v := .int (0 : Int32)) (ty := .int) (C := RX6) (T := TX6) (N := 11) hx hb huX6 (fun _ h9 => h9) tyX6 tyX6_ok nmX6 hown hK hP hD hS 0 rfl rfl 8 (by decide) w25 (fun _ h9 => h9) rfl (by decide +kernel) rfl rfl (Nat.le_of_ble_eq_true rfl) dX6_clearBuffer_2 (fun H locs hP hD hS => ?_)
  have hP : va_P (dC, dI) vwCl (wX6 a cI cF (s_X6_thrown S (0 : Int32))) H := hP
  have hD : va_D A (wX6 a cI cF (s_X6_thrown S (0 : Int32))) := hD
  refine lv_aload_n hx hb dX6_clearBuffer_5 rfl (lv_at hl 0 rfl) ?_
  refine va_get (D := (dC, dI)) (ci := 6) (v := .int (g_X6_length S)) (C := RX6) (T := TX6) (N := 11) hx hb huX6 (fun _ h9 => h9) hown hK hP 0 rfl rfl 7 (by decide) w75 (fun _ h9 => h9) rfl dX6_clearBuffer_6 ?_
  obtain ⟨x1_1, e2, h⟩ := o_n h
  refine lv_nmi e2 ?_
  refine lv_istore_n (lv' := [(1, .int x1_1), (0, .ref (a 0))]) hx hb dX6_clearBuffer_9 rfl hl (by decide) rfl (fun ls hl => ?_)
  refine lv_aload_n hx hb dX6_clearBuffer_10 rfl (lv_at hl 1 rfl) ?_
  refine lv_iconst (v := (0 : Int32)) hx hb dX6_clearBuffer_11 (by decide) ?_
  refine va_put (D := (dC, dI)) (ci := 6) (v := .int (0 : Int32)) (ty := .int) (C := RX6) (T := TX6) (N := 11) hx hb huX6 (fun _ h9 => h9) tyX6 tyX6_ok nmX6 hown hK hP hD hS 0 rfl rfl 7 (by decide) w75 (fun _ h9 => h9) rfl (by decide +kernel) rfl rfl (Nat.le_of_ble_eq_true rfl) dX6_clearBuffer_12 (fun H locs hP hD hS => ?_)
  have hP : va_P (dC, dI) vwCl (wX6 a cI cF (s_X6_thrown (s_X6_length S (0 : Int32)) (0 : Int32))) H := hP
  have hD : va_D A (wX6 a cI cF (s_X6_thrown (s_X6_length S (0 : Int32)) (0 : Int32))) := hD
  refine lv_iload_n hx hb dX6_clearBuffer_15 rfl (lv_at hl 0 rfl) ?_
  have hu := Option.some.inj h
  exact W.iret (v := x1_1) hx hb hr (fun t ht hW => ⟨⟨congrArg (fun z => Outcome.returned (some (Value.int z.1))) hu, by rw [ht, ← hu]; exact hP⟩, hS.F ht⟩) hS.2.2 dX6_clearBuffer_16

def m_X6_firstError (S : S_X6) : Option (Int32 × S_X6) := (m_X6_go (s_X6_thrown S (0 : Int32)) (-1 : Int32)).bind fun v1 => (nmL (v1.1) fun x1_3 => (if (g_X6_isWrong v1.2) = 0 then (some (g_X6_length v1.2, v1.2)) else (some (g_X6_place v1.2, v1.2))))
set_option maxHeartbeats 4000000 in
set_option maxRecDepth 100000 in
theorem c_X6_firstError (l : Launch) (dC : Nat → ClassId) (dI : Nat → Nat → Nat) (cI cF : ClassId) (a : Nat → Nat) (S : S_X6) (u : Int32 × S_X6) (h : m_X6_firstError S = some u) : cRW l (dC, dI) cI cF yX6_firstError wsX6_firstError ({ frames := 4, cells := 0, slots := 0, locals := 94 } : Room) [.ref (a 0)] (wX6 a cI cF S) (wX6 a cI cF u.2) (some (.int u.1)) := by
  intro sz
  refine Met.ofW (cc := cX6_firstError) (maxL := 2) (ret := (some .int)) (by decide) rfl ?_
  intro p e s m args below meth c s₁ B hml hv
  obtain ⟨hargs, hsz, hP, hK, hD0⟩ := hv
  subst hargs
  have hx := B.exec
  have hb := B.bytes
  have hr := B.returns
  have hts := atoms_spec (ws := wsX6_firstError) B.pre
  have hown : s.vm.findClass RX6 = some m.cls := findClass_of_methodNamed B.named
  have hlocks := B.notSynchronized
  have w101 := hts (.methodLink RX6 101 yX6_go) (List.mem_of_getElem? (i := 5) rfl)
  have w25 := hts (.fieldLink RX6 25 "DrawnSliversModel" "thrown" "I") (List.mem_of_getElem? (i := 1) rfl)
  have w72 := hts (.fieldLink RX6 72 "DrawnSliversModel" "place" "I") (List.mem_of_getElem? (i := 3) rfl)
  have w75 := hts (.fieldLink RX6 75 "DrawnSliversModel" "length" "I") (List.mem_of_getElem? (i := 4) rfl)
  have w78 := hts (.fieldLink RX6 78 "DrawnSliversModel" "isWrong" "Z") (List.mem_of_getElem? (i := 2) rfl)
  have huX6 : ∀ w ∈ u_ws RX6 TX6 11, w.before _ s = true := fun w h => hts w (List.mem_cons_of_mem _ (List.mem_append_right _ (h)))
  subst hsz
  have hD := hD0.self (sz := s.heap.size)
  generalize hAe : va_A (wX6 a cI cF S) s.heap.size = A at hD ⊢
  have hA : ∀ q : Nat, s.heap.size ≤ q → A q := fun q h => by rw [← hAe]; exact Or.inr h
  have hS : va_S A s.heap s.heap [] := va_S.rf
  have hl := lv_entry ([.ref (a 0)]) (n := 2) (Nat.le_of_ble_eq_true rfl)
  rw [lg_entry_eq]
  generalize (lg_sl ([.ref (a 0)]) ++ List.replicate (2 - (lg_sl ([.ref (a 0)])).length) Slot.unset).toArray = ls at hl ⊢
  have hl : lv_has ls 2 [(0, .ref (a 0))] := hl
  rw [m_X6_firstError] at h
  refine lv_aload_n hx hb dX6_firstError_0 rfl (lv_at hl 0 rfl) ?_
  refine lv_iconst (v := (0 : Int32)) hx hb dX6_firstError_1 (by decide) ?_
  refine va_put (D := (dC, dI)) (ci := 6) (v := .int (0 : Int32)) (ty := .int) (C := RX6) (T := TX6) (N := 11) hx hb huX6 (fun _ h9 => h9) tyX6 tyX6_ok nmX6 hown hK hP hD hS 0 rfl rfl 8 (by decide) w25 (fun _ h9 => h9) rfl (by decide +kernel) rfl rfl (Nat.le_of_ble_eq_true rfl) dX6_firstError_2 (fun H locs hP hD hS => ?_)
  have hP : va_P (dC, dI) vwCl (wX6 a cI cF (s_X6_thrown S (0 : Int32))) H := hP
  have hD : va_D A (wX6 a cI cF (s_X6_thrown S (0 : Int32))) := hD
  refine lv_aload_n hx hb dX6_firstError_5 rfl (lv_at hl 0 rfl) ?_
  refine lv_iconst (v := (-1 : Int32)) hx hb dX6_firstError_6 (by decide) ?_
  obtain ⟨v1, g2, h⟩ := o_b h
  refine k_rw (va_runV (As := [.int (-1 : Int32)]) (rest := []) ⟨hx, hb, hml, hown, hts⟩ (c_X6_go l dC dI cI cF a (s_X6_thrown S (0 : Int32)) (-1 : Int32) v1 g2 H.size) (cwV 1 hts gX6_firstError_X6_go rfl rfl rfl (by decide +kernel) ⟨Nat.le_of_ble_eq_true rfl, Nat.le_of_ble_eq_true rfl⟩) (k_preVw (q0 := 0) (ci := 6) hK hP hD [0, 1, 2, 3, 4, 5] rfl rfl rfl rfl rfl) rfl rfl hl.1 rfl (lv_room (Nat.le_of_ble_eq_true rfl)) dX6_firstError_7 ⟨Nat.zero_le _, Nat.zero_le _⟩) (st1 := [.int v1.1]) rfl hP hD hS hA [0, 1, 2, 3, 4, 5] rfl rfl (wn := wX6 a cI cF v1.2) rfl rfl rfl (fun H locs hP hD hS => ?_)
  obtain ⟨x1_3, e4, h⟩ := o_n h
  refine lv_nmi e4 ?_
  refine lv_istore_n (lv' := [(1, .int x1_3), (0, .ref (a 0))]) hx hb dX6_firstError_10 rfl hl (by decide) rfl (fun ls hl => ?_)
  refine lv_aload_n hx hb dX6_firstError_11 rfl (lv_at hl 1 rfl) ?_
  refine va_get (D := (dC, dI)) (ci := 6) (v := .int (g_X6_isWrong v1.2)) (C := RX6) (T := TX6) (N := 11) hx hb huX6 (fun _ h9 => h9) hown hK hP 0 rfl rfl 10 (by decide) w78 (fun _ h9 => h9) rfl dX6_firstError_12 ?_
  refine lv_if_eq (tgt := 25) hx hb dX6_firstError_15 (by decide) (fun c5 => ?_) (fun c5 => ?_)
  · have h := o_t h c5
    refine lv_aload_n hx hb dX6_firstError_25 rfl (lv_at hl 1 rfl) ?_
    refine va_get (D := (dC, dI)) (ci := 6) (v := .int (g_X6_length v1.2)) (C := RX6) (T := TX6) (N := 11) hx hb huX6 (fun _ h9 => h9) hown hK hP 0 rfl rfl 7 (by decide) w75 (fun _ h9 => h9) rfl dX6_firstError_26 ?_
    have hu := Option.some.inj h
    exact W.iret (v := g_X6_length v1.2) hx hb hr (fun t ht hW => ⟨⟨congrArg (fun z => Outcome.returned (some (Value.int z.1))) hu, by rw [ht, ← hu]; exact hP⟩, hS.F ht⟩) hS.2.2 dX6_firstError_29
  have h := o_f h c5
  refine lv_aload_n hx hb dX6_firstError_18 rfl (lv_at hl 1 rfl) ?_
  refine va_get (D := (dC, dI)) (ci := 6) (v := .int (g_X6_place v1.2)) (C := RX6) (T := TX6) (N := 11) hx hb huX6 (fun _ h9 => h9) hown hK hP 0 rfl rfl 9 (by decide) w72 (fun _ h9 => h9) rfl dX6_firstError_19 ?_
  refine lv_goto (tgt := 29) hx hb dX6_firstError_22 (by decide) ?_
  have hu := Option.some.inj h
  exact W.iret (v := g_X6_place v1.2) hx hb hr (fun t ht hW => ⟨⟨congrArg (fun z => Outcome.returned (some (Value.int z.1))) hu, by rw [ht, ← hu]; exact hP⟩, hS.F ht⟩) hS.2.2 dX6_firstError_29

def m_X6_keep_L7 : Nat → Int32 → S_X6 → Option (Int32 × S_X6)
  | 0, _, _ => none
  | n + 1, y1, S => if (350 : Int32) ≤ y1 then (some ((g_X6_s S) (345 : Int32).toNatClampNeg, s_X6_isKept S (1 : Int32))) else (if y1 < 0 ∨ 350 ≤ y1.toNatClampNeg then none else (if y1 < 0 ∨ 350 ≤ y1.toNatClampNeg then none else (nmL (y1 + 1) fun x1_4 => ((m_X6_keep_L7 n) x1_4 (s_X6_kept S (upd (g_X6_kept S) y1.toNatClampNeg ((g_X6_s S) y1.toNatClampNeg)))))))
def m_X6_keep (S : S_X6) : Option (Int32 × S_X6) := m_X6_keep_L7 4000 (0 : Int32) (s_X6_thrown S (0 : Int32))
set_option maxHeartbeats 4000000 in
set_option maxRecDepth 100000 in
theorem c_X6_keep (l : Launch) (dC : Nat → ClassId) (dI : Nat → Nat → Nat) (cI cF : ClassId) (a : Nat → Nat) (S : S_X6) (u : Int32 × S_X6) (h : m_X6_keep S = some u) : cRW l (dC, dI) cI cF yX6_keep wsX6_keep ({ frames := 0, cells := 0, slots := 0, locals := 0 } : Room) [.ref (a 0)] (wX6 a cI cF S) (wX6 a cI cF u.2) (some (.int u.1)) := by
  intro sz
  refine Met.ofW (cc := cX6_keep) (maxL := 2) (ret := (some .int)) (by decide) rfl ?_
  intro p e s m args below meth c s₁ B hml hv
  obtain ⟨hargs, hsz, hP, hK, hD0⟩ := hv
  subst hargs
  have hx := B.exec
  have hb := B.bytes
  have hr := B.returns
  have hts := atoms_spec (ws := wsX6_keep) B.pre
  have hown : s.vm.findClass RX6 = some m.cls := findClass_of_methodNamed B.named
  have hlocks := B.notSynchronized
  have w116 := hts (.fieldLink RX6 116 "DrawnSliversModel" "isKept" "Z") (List.mem_of_getElem? (i := 4) rfl)
  have w19 := hts (.fieldLink RX6 19 "DrawnSliversModel" "kept" "[I") (List.mem_of_getElem? (i := 2) rfl)
  have w25 := hts (.fieldLink RX6 25 "DrawnSliversModel" "thrown" "I") (List.mem_of_getElem? (i := 1) rfl)
  have w7 := hts (.fieldLink RX6 7 "DrawnSliversModel" "s" "[I") (List.mem_of_getElem? (i := 3) rfl)
  have huX6 : ∀ w ∈ u_ws RX6 TX6 11, w.before _ s = true := fun w h => hts w (List.mem_cons_of_mem _ (List.mem_append_right _ (h)))
  subst hsz
  have hD := hD0.self (sz := s.heap.size)
  generalize hAe : va_A (wX6 a cI cF S) s.heap.size = A at hD ⊢
  have hA : ∀ q : Nat, s.heap.size ≤ q → A q := fun q h => by rw [← hAe]; exact Or.inr h
  have hS : va_S A s.heap s.heap [] := va_S.rf
  have L7 : ∀ (n : Nat), ∀ (y1 : Int32) (S : S_X6), m_X6_keep_L7 n y1 S = some u → ∀ (H : Heap) (locs : List Loc), va_P (dC, dI) vwCl (wX6 a cI cF S) H → va_D A (wX6 a cI cF S) → va_S A s.heap H locs → ∀ (ls : Array Slot), lv_has ls 2 [(0, .ref (a 0)), (1, .int y1)] → W p l e (headSpec wsX6_keep ({ frames := 0, cells := 0, slots := 0, locals := 0 } : Room)).room s m ([.ref (a 0)] : List Value).toArray below meth c H locs 0 0 (MQ below (qRW (dC, dI) (wX6 a cI cF u.2) (some (.int u.1)) A) ([.ref (a 0)] : List Value).toArray s 0 0 A) (F0 m 7 ls []) := by
    intro  n
    induction n with
    | zero =>
      intro y1 S h
      exact (o_0 h).elim
    | succ n ih7 =>
      intro y1 S h H locs hP hD hS ls hl
      rw [m_X6_keep_L7] at h
      refine lv_iload_n hx hb dX6_keep_7 rfl (lv_at hl 1 rfl) ?_
      refine lv_sipush (v := (350 : Int32)) hx hb dX6_keep_8 (by decide) ?_
      refine lv_icmp_ge (tgt := 32) hx hb dX6_keep_11 (by decide) (fun c1 => ?_) (fun c1 => ?_)
      · have h := o_t h c1
        refine lv_aload_n hx hb dX6_keep_32 rfl (lv_at hl 0 rfl) ?_
        refine lv_iconst (v := (1 : Int32)) hx hb dX6_keep_33 (by decide) ?_
        refine va_put (D := (dC, dI)) (ci := 6) (v := .int (1 : Int32)) (ty := .boolean) (C := RX6) (T := TX6) (N := 11) hx hb huX6 (fun _ h9 => h9) tyX6 tyX6_ok nmX6 hown hK hP hD hS 0 rfl rfl 5 (by decide) w116 (fun _ h9 => h9) rfl (by decide +kernel) rfl rfl (Nat.le_of_ble_eq_true rfl) dX6_keep_34 (fun H locs hP hD hS => ?_)
        have hP : va_P (dC, dI) vwCl (wX6 a cI cF (s_X6_isKept S (1 : Int32))) H := hP
        have hD : va_D A (wX6 a cI cF (s_X6_isKept S (1 : Int32))) := hD
        refine lv_aload_n hx hb dX6_keep_37 rfl (lv_at hl 0 rfl) ?_
        refine va_get (D := (dC, dI)) (ci := 6) (v := .ref (a 1)) (C := RX6) (T := TX6) (N := 11) hx hb huX6 (fun _ h9 => h9) hown hK hP 0 rfl rfl 0 (by decide) w7 (fun _ h9 => h9) rfl dX6_keep_38 ?_
        refine lv_sipush (v := (345 : Int32)) hx hb dX6_keep_41 (by decide) ?_
        refine va_iald hx hb hK hP 1 0 rfl rfl (by unfold vp_in; decide) dX6_keep_44 ?_
        have hu := Option.some.inj h
        exact W.iret (v := (g_X6_s S) (345 : Int32).toNatClampNeg) hx hb hr (fun t ht hW => ⟨⟨congrArg (fun z => Outcome.returned (some (Value.int z.1))) hu, by rw [ht, ← hu]; exact hP⟩, hS.F ht⟩) hS.2.2 dX6_keep_45
      have h := o_f h c1
      refine lv_aload_n hx hb dX6_keep_14 rfl (lv_at hl 0 rfl) ?_
      refine va_get (D := (dC, dI)) (ci := 6) (v := .ref (a 4)) (C := RX6) (T := TX6) (N := 11) hx hb huX6 (fun _ h9 => h9) hown hK hP 0 rfl rfl 4 (by decide) w19 (fun _ h9 => h9) rfl dX6_keep_15 ?_
      refine lv_iload_n hx hb dX6_keep_18 rfl (lv_at hl 1 rfl) ?_
      refine lv_aload_n hx hb dX6_keep_19 rfl (lv_at hl 0 rfl) ?_
      refine va_get (D := (dC, dI)) (ci := 6) (v := .ref (a 1)) (C := RX6) (T := TX6) (N := 11) hx hb huX6 (fun _ h9 => h9) hown hK hP 0 rfl rfl 0 (by decide) w7 (fun _ h9 => h9) rfl dX6_keep_20 ?_
      refine lv_iload_n hx hb dX6_keep_23 rfl (lv_at hl 1 rfl) ?_
      obtain ⟨i2, h⟩ := o_in h
      refine va_iald hx hb hK hP 1 0 rfl rfl i2 dX6_keep_24 ?_
      obtain ⟨i3, h⟩ := o_in h
      refine va_iast hx hb hK hP hD hS 4 0 rfl rfl i3 dX6_keep_25 (fun H locs hP hD hS => ?_)
      have hP : va_P (dC, dI) vwCl (wX6 a cI cF (s_X6_kept S (upd (g_X6_kept S) y1.toNatClampNeg ((g_X6_s S) y1.toNatClampNeg)))) H := hP
      have hD : va_D A (wX6 a cI cF (s_X6_kept S (upd (g_X6_kept S) y1.toNatClampNeg ((g_X6_s S) y1.toNatClampNeg)))) := hD
      obtain ⟨x1_4, e5, h⟩ := o_n h
      refine lv_iinc (v := x1_4) (lv' := [(1, .int x1_4), (0, .ref (a 0))]) hx hb dX6_keep_26 hl (k := 1) rfl (by rw [e5]; rfl) (by decide) rfl (fun ls hl => ?_)
      refine lv_goto (tgt := 7) hx hb dX6_keep_29 (by decide) ?_
      exact ih7 _ _ h _ _ hP hD hS _ (lv_sub hl [1, 0] rfl)
  have hl := lv_entry ([.ref (a 0)]) (n := 2) (Nat.le_of_ble_eq_true rfl)
  rw [lg_entry_eq]
  generalize (lg_sl ([.ref (a 0)]) ++ List.replicate (2 - (lg_sl ([.ref (a 0)])).length) Slot.unset).toArray = ls at hl ⊢
  have hl : lv_has ls 2 [(0, .ref (a 0))] := hl
  rw [m_X6_keep] at h
  refine lv_aload_n hx hb dX6_keep_0 rfl (lv_at hl 0 rfl) ?_
  refine lv_iconst (v := (0 : Int32)) hx hb dX6_keep_1 (by decide) ?_
  refine va_put (D := (dC, dI)) (ci := 6) (v := .int (0 : Int32)) (ty := .int) (C := RX6) (T := TX6) (N := 11) hx hb huX6 (fun _ h9 => h9) tyX6 tyX6_ok nmX6 hown hK hP hD hS 0 rfl rfl 8 (by decide) w25 (fun _ h9 => h9) rfl (by decide +kernel) rfl rfl (Nat.le_of_ble_eq_true rfl) dX6_keep_2 (fun H locs hP hD hS => ?_)
  have hP : va_P (dC, dI) vwCl (wX6 a cI cF (s_X6_thrown S (0 : Int32))) H := hP
  have hD : va_D A (wX6 a cI cF (s_X6_thrown S (0 : Int32))) := hD
  refine lv_iconst (v := (0 : Int32)) hx hb dX6_keep_5 (by decide) ?_
  refine lv_istore_n (lv' := [(1, .int (0 : Int32)), (0, .ref (a 0))]) hx hb dX6_keep_6 rfl hl (by decide) rfl (fun ls hl => ?_)
  exact L7 _ _ _ h _ _ hP hD hS _ (lv_sub hl [1, 0] rfl)

def m_X6_goBack_L24 : Nat → Int32 → S_X6 → Option (Int32 × S_X6)
  | 0, _, _ => none
  | n + 1, y1, S => if (350 : Int32) ≤ y1 then (some ((g_X6_s S) (345 : Int32).toNatClampNeg, S)) else (if y1 < 0 ∨ 350 ≤ y1.toNatClampNeg then none else (if y1 < 0 ∨ 350 ≤ y1.toNatClampNeg then none else (nmL (y1 + 1) fun x1_7 => ((m_X6_goBack_L24 n) x1_7 (s_X6_s S (upd (g_X6_s S) y1.toNatClampNeg ((g_X6_kept S) y1.toNatClampNeg)))))))
def m_X6_goBack (S : S_X6) : Option (Int32 × S_X6) := if (g_X6_isKept S) = 0 then ((m_X6_throwing (s_X6_thrown S (0 : Int32)) (1 : Int32)).bind fun v9 => (some (v9.1, v9.2))) else ((m_X6_save (s_X6_thrown S (0 : Int32))).bind fun v2 => (m_X6_goBack_L24 4000 (0 : Int32) v2))
set_option maxHeartbeats 4000000 in
set_option maxRecDepth 100000 in
theorem c_X6_goBack (l : Launch) (dC : Nat → ClassId) (dI : Nat → Nat → Nat) (cI cF : ClassId) (a : Nat → Nat) (S : S_X6) (u : Int32 × S_X6) (h : m_X6_goBack S = some u) : cRW l (dC, dI) cI cF yX6_goBack wsX6_goBack ({ frames := 1, cells := 0, slots := 0, locals := 21 } : Room) [.ref (a 0)] (wX6 a cI cF S) (wX6 a cI cF u.2) (some (.int u.1)) := by
  intro sz
  refine Met.ofW (cc := cX6_goBack) (maxL := 2) (ret := (some .int)) (by decide) rfl ?_
  intro p e s m args below meth c s₁ B hml hv
  obtain ⟨hargs, hsz, hP, hK, hD0⟩ := hv
  subst hargs
  have hx := B.exec
  have hb := B.bytes
  have hr := B.returns
  have hts := atoms_spec (ws := wsX6_goBack) B.pre
  have hown : s.vm.findClass RX6 = some m.cls := findClass_of_methodNamed B.named
  have hlocks := B.notSynchronized
  have w104 := hts (.methodLink RX6 104 yX6_save) (List.mem_of_getElem? (i := 10) rfl)
  have w116 := hts (.fieldLink RX6 116 "DrawnSliversModel" "isKept" "Z") (List.mem_of_getElem? (i := 2) rfl)
  have w19 := hts (.fieldLink RX6 19 "DrawnSliversModel" "kept" "[I") (List.mem_of_getElem? (i := 4) rfl)
  have w25 := hts (.fieldLink RX6 25 "DrawnSliversModel" "thrown" "I") (List.mem_of_getElem? (i := 1) rfl)
  have w7 := hts (.fieldLink RX6 7 "DrawnSliversModel" "s" "[I") (List.mem_of_getElem? (i := 3) rfl)
  have w98 := hts (.methodLink RX6 98 yX6_throwing) (List.mem_of_getElem? (i := 5) rfl)
  have huX6 : ∀ w ∈ u_ws RX6 TX6 11, w.before _ s = true := fun w h => hts w (List.mem_cons_of_mem _ (List.mem_append_right _ (h)))
  subst hsz
  have hD := hD0.self (sz := s.heap.size)
  generalize hAe : va_A (wX6 a cI cF S) s.heap.size = A at hD ⊢
  have hA : ∀ q : Nat, s.heap.size ≤ q → A q := fun q h => by rw [← hAe]; exact Or.inr h
  have hS : va_S A s.heap s.heap [] := va_S.rf
  have L24 : ∀ (n : Nat), ∀ (y1 : Int32) (S : S_X6), m_X6_goBack_L24 n y1 S = some u → ∀ (H : Heap) (locs : List Loc), va_P (dC, dI) vwCl (wX6 a cI cF S) H → va_D A (wX6 a cI cF S) → va_S A s.heap H locs → ∀ (ls : Array Slot), lv_has ls 2 [(0, .ref (a 0)), (1, .int y1)] → W p l e (headSpec wsX6_goBack ({ frames := 1, cells := 0, slots := 0, locals := 21 } : Room)).room s m ([.ref (a 0)] : List Value).toArray below meth c H locs 0 0 (MQ below (qRW (dC, dI) (wX6 a cI cF u.2) (some (.int u.1)) A) ([.ref (a 0)] : List Value).toArray s 0 0 A) (F0 m 24 ls []) := by
    intro  n
    induction n with
    | zero =>
      intro y1 S h
      exact (o_0 h).elim
    | succ n ih24 =>
      intro y1 S h H locs hP hD hS ls hl
      rw [m_X6_goBack_L24] at h
      refine lv_iload_n hx hb dX6_goBack_24 rfl (lv_at hl 1 rfl) ?_
      refine lv_sipush (v := (350 : Int32)) hx hb dX6_goBack_25 (by decide) ?_
      refine lv_icmp_ge (tgt := 49) hx hb dX6_goBack_28 (by decide) (fun c4 => ?_) (fun c4 => ?_)
      · have h := o_t h c4
        refine lv_aload_n hx hb dX6_goBack_49 rfl (lv_at hl 0 rfl) ?_
        refine va_get (D := (dC, dI)) (ci := 6) (v := .ref (a 1)) (C := RX6) (T := TX6) (N := 11) hx hb huX6 (fun _ h9 => h9) hown hK hP 0 rfl rfl 0 (by decide) w7 (fun _ h9 => h9) rfl dX6_goBack_50 ?_
        refine lv_sipush (v := (345 : Int32)) hx hb dX6_goBack_53 (by decide) ?_
        refine va_iald hx hb hK hP 1 0 rfl rfl (by unfold vp_in; decide) dX6_goBack_56 ?_
        have hu := Option.some.inj h
        exact W.iret (v := (g_X6_s S) (345 : Int32).toNatClampNeg) hx hb hr (fun t ht hW => ⟨⟨congrArg (fun z => Outcome.returned (some (Value.int z.1))) hu, by rw [ht, ← hu]; exact hP⟩, hS.F ht⟩) hS.2.2 dX6_goBack_57
      have h := o_f h c4
      refine lv_aload_n hx hb dX6_goBack_31 rfl (lv_at hl 0 rfl) ?_
      refine va_get (D := (dC, dI)) (ci := 6) (v := .ref (a 1)) (C := RX6) (T := TX6) (N := 11) hx hb huX6 (fun _ h9 => h9) hown hK hP 0 rfl rfl 0 (by decide) w7 (fun _ h9 => h9) rfl dX6_goBack_32 ?_
      refine lv_iload_n hx hb dX6_goBack_35 rfl (lv_at hl 1 rfl) ?_
      refine lv_aload_n hx hb dX6_goBack_36 rfl (lv_at hl 0 rfl) ?_
      refine va_get (D := (dC, dI)) (ci := 6) (v := .ref (a 4)) (C := RX6) (T := TX6) (N := 11) hx hb huX6 (fun _ h9 => h9) hown hK hP 0 rfl rfl 4 (by decide) w19 (fun _ h9 => h9) rfl dX6_goBack_37 ?_
      refine lv_iload_n hx hb dX6_goBack_40 rfl (lv_at hl 1 rfl) ?_
      obtain ⟨i5, h⟩ := o_in h
      refine va_iald hx hb hK hP 4 0 rfl rfl i5 dX6_goBack_41 ?_
      obtain ⟨i6, h⟩ := o_in h
      refine va_iast hx hb hK hP hD hS 1 0 rfl rfl i6 dX6_goBack_42 (fun H locs hP hD hS => ?_)
      have hP : va_P (dC, dI) vwCl (wX6 a cI cF (s_X6_s S (upd (g_X6_s S) y1.toNatClampNeg ((g_X6_kept S) y1.toNatClampNeg)))) H := hP
      have hD : va_D A (wX6 a cI cF (s_X6_s S (upd (g_X6_s S) y1.toNatClampNeg ((g_X6_kept S) y1.toNatClampNeg)))) := hD
      obtain ⟨x1_7, e8, h⟩ := o_n h
      refine lv_iinc (v := x1_7) (lv' := [(1, .int x1_7), (0, .ref (a 0))]) hx hb dX6_goBack_43 hl (k := 1) rfl (by rw [e8]; rfl) (by decide) rfl (fun ls hl => ?_)
      refine lv_goto (tgt := 24) hx hb dX6_goBack_46 (by decide) ?_
      exact ih24 _ _ h _ _ hP hD hS _ (lv_sub hl [1, 0] rfl)
  have hl := lv_entry ([.ref (a 0)]) (n := 2) (Nat.le_of_ble_eq_true rfl)
  rw [lg_entry_eq]
  generalize (lg_sl ([.ref (a 0)]) ++ List.replicate (2 - (lg_sl ([.ref (a 0)])).length) Slot.unset).toArray = ls at hl ⊢
  have hl : lv_has ls 2 [(0, .ref (a 0))] := hl
  rw [m_X6_goBack] at h
  refine lv_aload_n hx hb dX6_goBack_0 rfl (lv_at hl 0 rfl) ?_
  refine lv_iconst (v := (0 : Int32)) hx hb dX6_goBack_1 (by decide) ?_
  refine va_put (D := (dC, dI)) (ci := 6) (v := .int (0 : Int32)) (ty := .int) (C := RX6) (T := TX6) (N := 11) hx hb huX6 (fun _ h9 => h9) tyX6 tyX6_ok nmX6 hown hK hP hD hS 0 rfl rfl 8 (by decide) w25 (fun _ h9 => h9) rfl (by decide +kernel) rfl rfl (Nat.le_of_ble_eq_true rfl) dX6_goBack_2 (fun H locs hP hD hS => ?_)
  have hP : va_P (dC, dI) vwCl (wX6 a cI cF (s_X6_thrown S (0 : Int32))) H := hP
  have hD : va_D A (wX6 a cI cF (s_X6_thrown S (0 : Int32))) := hD
  refine lv_aload_n hx hb dX6_goBack_5 rfl (lv_at hl 0 rfl) ?_
  refine va_get (D := (dC, dI)) (ci := 6) (v := .int (g_X6_isKept S)) (C := RX6) (T := TX6) (N := 11) hx hb huX6 (fun _ h9 => h9) hown hK hP 0 rfl rfl 5 (by decide) w116 (fun _ h9 => h9) rfl dX6_goBack_6 ?_
  refine lv_if_ne (tgt := 18) hx hb dX6_goBack_9 (by decide) (fun c1 => ?_) (fun c1 => ?_)
  · have h := o_f h c1
    refine lv_aload_n hx hb dX6_goBack_18 rfl (lv_at hl 0 rfl) ?_
    obtain ⟨v2, g3, h⟩ := o_b h
    refine k_rw (va_runV (As := []) (rest := []) ⟨hx, hb, hml, hown, hts⟩ (c_X6_save l dC dI cI cF a (s_X6_thrown S (0 : Int32)) v2 g3 H.size) (cwV 0 hts gX6_goBack_X6_save rfl rfl rfl (by decide +kernel) ⟨Nat.le_of_ble_eq_true rfl, Nat.le_of_ble_eq_true rfl⟩) (k_preVw (q0 := 0) (ci := 6) hK hP hD [0, 1, 2, 3, 4, 5] rfl rfl rfl rfl rfl) rfl rfl hl.1 rfl (lv_room (Nat.le_of_ble_eq_true rfl)) dX6_goBack_19 ⟨Nat.zero_le _, Nat.zero_le _⟩) (st1 := []) rfl hP hD hS hA [0, 1, 2, 3, 4, 5] rfl rfl (wn := wX6 a cI cF v2) rfl rfl rfl (fun H locs hP hD hS => ?_)
    refine lv_iconst (v := (0 : Int32)) hx hb dX6_goBack_22 (by decide) ?_
    refine lv_istore_n (lv' := [(1, .int (0 : Int32)), (0, .ref (a 0))]) hx hb dX6_goBack_23 rfl hl (by decide) rfl (fun ls hl => ?_)
    exact L24 _ _ _ h _ _ hP hD hS _ (lv_sub hl [1, 0] rfl)
  have h := o_t h c1
  refine lv_aload_n hx hb dX6_goBack_12 rfl (lv_at hl 0 rfl) ?_
  refine lv_iconst (v := (1 : Int32)) hx hb dX6_goBack_13 (by decide) ?_
  obtain ⟨v9, g10, h⟩ := o_b h
  refine k_rw (va_runV (As := [.int (1 : Int32)]) (rest := []) ⟨hx, hb, hml, hown, hts⟩ (c_X6_throwing l dC dI cI cF a (s_X6_thrown S (0 : Int32)) (1 : Int32) v9 g10 H.size) (cwV 1 hts gX6_goBack_X6_throwing rfl rfl rfl (by decide +kernel) ⟨Nat.le_of_ble_eq_true rfl, Nat.le_of_ble_eq_true rfl⟩) (k_preVw (q0 := 0) (ci := 6) hK hP hD [0, 1, 2, 3, 4, 5] rfl rfl rfl rfl rfl) rfl rfl hl.1 rfl (lv_room (Nat.le_of_ble_eq_true rfl)) dX6_goBack_14 ⟨Nat.zero_le _, Nat.zero_le _⟩) (st1 := [.int v9.1]) rfl hP hD hS hA [0, 1, 2, 3, 4, 5] rfl rfl (wn := wX6 a cI cF v9.2) rfl rfl rfl (fun H locs hP hD hS => ?_)
  have hu := Option.some.inj h
  exact W.iret (v := v9.1) hx hb hr (fun t ht hW => ⟨⟨congrArg (fun z => Outcome.returned (some (Value.int z.1))) hu, by rw [ht, ← hu]; exact hP⟩, hS.F ht⟩) hS.2.2 dX6_goBack_17

def m_X6_undo_L30 : Nat → Int32 → S_X6 → Option (Int32 × S_X6)
  | 0, _, _ => none
  | n + 1, y1, S => if (350 : Int32) ≤ y1 then (some (g_X6_known S, S)) else (if (((350 : Int32) * (g_X6_known S)) + y1) < 0 ∨ 2100 ≤ (((350 : Int32) * (g_X6_known S)) + y1).toNatClampNeg then none else (if y1 < 0 ∨ 350 ≤ y1.toNatClampNeg then none else (nmL (y1 + 1) fun x1_5 => ((m_X6_undo_L30 n) x1_5 (s_X6_s S (upd (g_X6_s S) y1.toNatClampNeg ((g_X6_before S) (((350 : Int32) * (g_X6_known S)) + y1).toNatClampNeg)))))))
def m_X6_undo (S : S_X6) : Option (Int32 × S_X6) := if (g_X6_known S) = 0 then ((m_X6_throwing (s_X6_thrown S (0 : Int32)) (1 : Int32)).bind fun v7 => (some (v7.1, v7.2))) else (m_X6_undo_L30 4000 (0 : Int32) (s_X6_thrown (s_X6_known S ((g_X6_known S) - (1 : Int32))) (0 : Int32)))
set_option maxHeartbeats 4000000 in
set_option maxRecDepth 100000 in
theorem c_X6_undo (l : Launch) (dC : Nat → ClassId) (dI : Nat → Nat → Nat) (cI cF : ClassId) (a : Nat → Nat) (S : S_X6) (u : Int32 × S_X6) (h : m_X6_undo S = some u) : cRW l (dC, dI) cI cF yX6_undo wsX6_undo ({ frames := 1, cells := 0, slots := 0, locals := 21 } : Room) [.ref (a 0)] (wX6 a cI cF S) (wX6 a cI cF u.2) (some (.int u.1)) := by
  intro sz
  refine Met.ofW (cc := cX6_undo) (maxL := 2) (ret := (some .int)) (by decide) rfl ?_
  intro p e s m args below meth c s₁ B hml hv
  obtain ⟨hargs, hsz, hP, hK, hD0⟩ := hv
  subst hargs
  have hx := B.exec
  have hb := B.bytes
  have hr := B.returns
  have hts := atoms_spec (ws := wsX6_undo) B.pre
  have hown : s.vm.findClass RX6 = some m.cls := findClass_of_methodNamed B.named
  have hlocks := B.notSynchronized
  have w16 := hts (.fieldLink RX6 16 "DrawnSliversModel" "before" "[I") (List.mem_of_getElem? (i := 4) rfl)
  have w25 := hts (.fieldLink RX6 25 "DrawnSliversModel" "thrown" "I") (List.mem_of_getElem? (i := 1) rfl)
  have w29 := hts (.fieldLink RX6 29 "DrawnSliversModel" "known" "I") (List.mem_of_getElem? (i := 2) rfl)
  have w7 := hts (.fieldLink RX6 7 "DrawnSliversModel" "s" "[I") (List.mem_of_getElem? (i := 3) rfl)
  have w98 := hts (.methodLink RX6 98 yX6_throwing) (List.mem_of_getElem? (i := 5) rfl)
  have huX6 : ∀ w ∈ u_ws RX6 TX6 11, w.before _ s = true := fun w h => hts w (List.mem_cons_of_mem _ (List.mem_append_right _ (h)))
  subst hsz
  have hD := hD0.self (sz := s.heap.size)
  generalize hAe : va_A (wX6 a cI cF S) s.heap.size = A at hD ⊢
  have hA : ∀ q : Nat, s.heap.size ≤ q → A q := fun q h => by rw [← hAe]; exact Or.inr h
  have hS : va_S A s.heap s.heap [] := va_S.rf
  have L30 : ∀ (n : Nat), ∀ (y1 : Int32) (S : S_X6), m_X6_undo_L30 n y1 S = some u → ∀ (H : Heap) (locs : List Loc), va_P (dC, dI) vwCl (wX6 a cI cF S) H → va_D A (wX6 a cI cF S) → va_S A s.heap H locs → ∀ (ls : Array Slot), lv_has ls 2 [(0, .ref (a 0)), (1, .int y1)] → W p l e (headSpec wsX6_undo ({ frames := 1, cells := 0, slots := 0, locals := 21 } : Room)).room s m ([.ref (a 0)] : List Value).toArray below meth c H locs 0 0 (MQ below (qRW (dC, dI) (wX6 a cI cF u.2) (some (.int u.1)) A) ([.ref (a 0)] : List Value).toArray s 0 0 A) (F0 m 30 ls []) := by
    intro  n
    induction n with
    | zero =>
      intro y1 S h
      exact (o_0 h).elim
    | succ n ih30 =>
      intro y1 S h H locs hP hD hS ls hl
      rw [m_X6_undo_L30] at h
      refine lv_iload_n hx hb dX6_undo_30 rfl (lv_at hl 1 rfl) ?_
      refine lv_sipush (v := (350 : Int32)) hx hb dX6_undo_31 (by decide) ?_
      refine lv_icmp_ge (tgt := 64) hx hb dX6_undo_34 (by decide) (fun c2 => ?_) (fun c2 => ?_)
      · have h := o_t h c2
        refine lv_aload_n hx hb dX6_undo_64 rfl (lv_at hl 0 rfl) ?_
        refine va_get (D := (dC, dI)) (ci := 6) (v := .int (g_X6_known S)) (C := RX6) (T := TX6) (N := 11) hx hb huX6 (fun _ h9 => h9) hown hK hP 0 rfl rfl 3 (by decide) w29 (fun _ h9 => h9) rfl dX6_undo_65 ?_
        have hu := Option.some.inj h
        exact W.iret (v := g_X6_known S) hx hb hr (fun t ht hW => ⟨⟨congrArg (fun z => Outcome.returned (some (Value.int z.1))) hu, by rw [ht, ← hu]; exact hP⟩, hS.F ht⟩) hS.2.2 dX6_undo_68
      have h := o_f h c2
      refine lv_aload_n hx hb dX6_undo_37 rfl (lv_at hl 0 rfl) ?_
      refine va_get (D := (dC, dI)) (ci := 6) (v := .ref (a 1)) (C := RX6) (T := TX6) (N := 11) hx hb huX6 (fun _ h9 => h9) hown hK hP 0 rfl rfl 0 (by decide) w7 (fun _ h9 => h9) rfl dX6_undo_38 ?_
      refine lv_iload_n hx hb dX6_undo_41 rfl (lv_at hl 1 rfl) ?_
      refine lv_aload_n hx hb dX6_undo_42 rfl (lv_at hl 0 rfl) ?_
      refine va_get (D := (dC, dI)) (ci := 6) (v := .ref (a 3)) (C := RX6) (T := TX6) (N := 11) hx hb huX6 (fun _ h9 => h9) hown hK hP 0 rfl rfl 2 (by decide) w16 (fun _ h9 => h9) rfl dX6_undo_43 ?_
      refine lv_sipush (v := (350 : Int32)) hx hb dX6_undo_46 (by decide) ?_
      refine lv_aload_n hx hb dX6_undo_49 rfl (lv_at hl 0 rfl) ?_
      refine va_get (D := (dC, dI)) (ci := 6) (v := .int (g_X6_known S)) (C := RX6) (T := TX6) (N := 11) hx hb huX6 (fun _ h9 => h9) hown hK hP 0 rfl rfl 3 (by decide) w29 (fun _ h9 => h9) rfl dX6_undo_50 ?_
      refine lv_imul hx hb dX6_undo_53 ?_
      refine lv_iload_n hx hb dX6_undo_54 rfl (lv_at hl 1 rfl) ?_
      refine lv_iadd hx hb dX6_undo_55 ?_
      obtain ⟨i3, h⟩ := o_in h
      refine va_iald hx hb hK hP 3 0 rfl rfl i3 dX6_undo_56 ?_
      obtain ⟨i4, h⟩ := o_in h
      refine va_iast hx hb hK hP hD hS 1 0 rfl rfl i4 dX6_undo_57 (fun H locs hP hD hS => ?_)
      have hP : va_P (dC, dI) vwCl (wX6 a cI cF (s_X6_s S (upd (g_X6_s S) y1.toNatClampNeg ((g_X6_before S) (((350 : Int32) * (g_X6_known S)) + y1).toNatClampNeg)))) H := hP
      have hD : va_D A (wX6 a cI cF (s_X6_s S (upd (g_X6_s S) y1.toNatClampNeg ((g_X6_before S) (((350 : Int32) * (g_X6_known S)) + y1).toNatClampNeg)))) := hD
      obtain ⟨x1_5, e6, h⟩ := o_n h
      refine lv_iinc (v := x1_5) (lv' := [(1, .int x1_5), (0, .ref (a 0))]) hx hb dX6_undo_58 hl (k := 1) rfl (by rw [e6]; rfl) (by decide) rfl (fun ls hl => ?_)
      refine lv_goto (tgt := 30) hx hb dX6_undo_61 (by decide) ?_
      exact ih30 _ _ h _ _ hP hD hS _ (lv_sub hl [1, 0] rfl)
  have hl := lv_entry ([.ref (a 0)]) (n := 2) (Nat.le_of_ble_eq_true rfl)
  rw [lg_entry_eq]
  generalize (lg_sl ([.ref (a 0)]) ++ List.replicate (2 - (lg_sl ([.ref (a 0)])).length) Slot.unset).toArray = ls at hl ⊢
  have hl : lv_has ls 2 [(0, .ref (a 0))] := hl
  rw [m_X6_undo] at h
  refine lv_aload_n hx hb dX6_undo_0 rfl (lv_at hl 0 rfl) ?_
  refine lv_iconst (v := (0 : Int32)) hx hb dX6_undo_1 (by decide) ?_
  refine va_put (D := (dC, dI)) (ci := 6) (v := .int (0 : Int32)) (ty := .int) (C := RX6) (T := TX6) (N := 11) hx hb huX6 (fun _ h9 => h9) tyX6 tyX6_ok nmX6 hown hK hP hD hS 0 rfl rfl 8 (by decide) w25 (fun _ h9 => h9) rfl (by decide +kernel) rfl rfl (Nat.le_of_ble_eq_true rfl) dX6_undo_2 (fun H locs hP hD hS => ?_)
  have hP : va_P (dC, dI) vwCl (wX6 a cI cF (s_X6_thrown S (0 : Int32))) H := hP
  have hD : va_D A (wX6 a cI cF (s_X6_thrown S (0 : Int32))) := hD
  refine lv_aload_n hx hb dX6_undo_5 rfl (lv_at hl 0 rfl) ?_
  refine va_get (D := (dC, dI)) (ci := 6) (v := .int (g_X6_known S)) (C := RX6) (T := TX6) (N := 11) hx hb huX6 (fun _ h9 => h9) hown hK hP 0 rfl rfl 3 (by decide) w29 (fun _ h9 => h9) rfl dX6_undo_6 ?_
  refine lv_if_ne (tgt := 18) hx hb dX6_undo_9 (by decide) (fun c1 => ?_) (fun c1 => ?_)
  rotate_left
  · have h := o_t h c1
    refine lv_aload_n hx hb dX6_undo_12 rfl (lv_at hl 0 rfl) ?_
    refine lv_iconst (v := (1 : Int32)) hx hb dX6_undo_13 (by decide) ?_
    obtain ⟨v7, g8, h⟩ := o_b h
    refine k_rw (va_runV (As := [.int (1 : Int32)]) (rest := []) ⟨hx, hb, hml, hown, hts⟩ (c_X6_throwing l dC dI cI cF a (s_X6_thrown S (0 : Int32)) (1 : Int32) v7 g8 H.size) (cwV 1 hts gX6_undo_X6_throwing rfl rfl rfl (by decide +kernel) ⟨Nat.le_of_ble_eq_true rfl, Nat.le_of_ble_eq_true rfl⟩) (k_preVw (q0 := 0) (ci := 6) hK hP hD [0, 1, 2, 3, 4, 5] rfl rfl rfl rfl rfl) rfl rfl hl.1 rfl (lv_room (Nat.le_of_ble_eq_true rfl)) dX6_undo_14 ⟨Nat.zero_le _, Nat.zero_le _⟩) (st1 := [.int v7.1]) rfl hP hD hS hA [0, 1, 2, 3, 4, 5] rfl rfl (wn := wX6 a cI cF v7.2) rfl rfl rfl (fun H locs hP hD hS => ?_)
    have hu := Option.some.inj h
    exact W.iret (v := v7.1) hx hb hr (fun t ht hW => ⟨⟨congrArg (fun z => Outcome.returned (some (Value.int z.1))) hu, by rw [ht, ← hu]; exact hP⟩, hS.F ht⟩) hS.2.2 dX6_undo_17
  have h := o_f h c1
  refine lv_aload_n hx hb dX6_undo_18 rfl (lv_at hl 0 rfl) ?_
  refine lv_dup hx hb dX6_undo_19 rfl ?_
  refine va_get (D := (dC, dI)) (ci := 6) (v := .int (g_X6_known S)) (C := RX6) (T := TX6) (N := 11) hx hb huX6 (fun _ h9 => h9) hown hK hP 0 rfl rfl 3 (by decide) w29 (fun _ h9 => h9) rfl dX6_undo_20 ?_
  refine lv_iconst (v := (1 : Int32)) hx hb dX6_undo_23 (by decide) ?_
  refine lv_isub hx hb dX6_undo_24 ?_
  refine va_put (D := (dC, dI)) (ci := 6) (v := .int ((g_X6_known S) - (1 : Int32))) (ty := .int) (C := RX6) (T := TX6) (N := 11) hx hb huX6 (fun _ h9 => h9) tyX6 tyX6_ok nmX6 hown hK hP hD hS 0 rfl rfl 3 (by decide) w29 (fun _ h9 => h9) rfl (by decide +kernel) rfl rfl (Nat.le_of_ble_eq_true rfl) dX6_undo_25 (fun H locs hP hD hS => ?_)
  have hP : va_P (dC, dI) vwCl (wX6 a cI cF (s_X6_thrown (s_X6_known S ((g_X6_known S) - (1 : Int32))) (0 : Int32))) H := hP
  have hD : va_D A (wX6 a cI cF (s_X6_thrown (s_X6_known S ((g_X6_known S) - (1 : Int32))) (0 : Int32))) := hD
  refine lv_iconst (v := (0 : Int32)) hx hb dX6_undo_28 (by decide) ?_
  refine lv_istore_n (lv' := [(1, .int (0 : Int32)), (0, .ref (a 0))]) hx hb dX6_undo_29 rfl hl (by decide) rfl (fun ls hl => ?_)
  exact L30 _ _ _ h _ _ hP hD hS _ (lv_sub hl [1, 0] rfl)

