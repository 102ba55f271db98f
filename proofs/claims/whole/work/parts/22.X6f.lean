-- X6_tried X6_ifRun X6_lagFor X6_bestLag X6_apart X6_cansFor X6_bestFeed X6_meanOf X6_mean X6_wasted X6_wasteShare
def m_X6_tried (S : S_X6) (x1 : Int32) (x2 : Int32) : Option (Int32 × S_X6) := (m_X6_putAside S).bind fun v1 => ((m_X6_runs v1 x1).bind fun v3 => (nmL (v3.1) fun x3_5 => (nmL (((g_X6_s v3.2) (347 : Int32).toNatClampNeg) - ((g_X6_aside v3.2) (347 : Int32).toNatClampNeg)) fun x4_7 => (if x2 = 0 then ((m_X6_putBack v3.2).bind fun v27 => (some (x3_5, v27))) else (if x2 = (1 : Int32) then ((m_X6_canNumber v3.2 ((g_X6_s v3.2) (329 : Int32).toNatClampNeg) (4 : Int32)).bind fun v23 => ((m_X6_putBack v3.2).bind fun v25 => (some (v23, v25)))) else (if x2 = (2 : Int32) then ((m_X6_steps v3.2 ((g_X6_s v3.2) (329 : Int32).toNatClampNeg)).bind fun v19 => ((m_X6_putBack v3.2).bind fun v21 => (some (v19, v21)))) else (if x2 = (3 : Int32) then ((m_X6_putBack v3.2).bind fun v17 => (some (x4_7, v17))) else ((m_X6_reason v3.2).bind fun v13 => ((m_X6_putBack v3.2).bind fun v15 => (some (v13, v15)))))))))))
set_option maxHeartbeats 4000000 in
set_option maxRecDepth 100000 in
theorem c_X6_tried (l : Launch) (dC : Nat → ClassId) (dI : Nat → Nat → Nat) (cI cF : ClassId) (a : Nat → Nat) (S : S_X6) (x1 : Int32) (x2 : Int32) (u : Int32 × S_X6) (h : m_X6_tried S x1 x2 = some u) : cRW l (dC, dI) cI cF yX6_tried wsX6_tried ({ frames := 4, cells := 0, slots := 0, locals := 92 } : Room) [.ref (a 0), .int x1, .int x2] (wX6 a cI cF S) (wX6 a cI cF u.2) (some (.int u.1)) := by
  intro sz
  refine Met.ofW (cc := cX6_tried) (maxL := 6) (ret := (some .int)) (by decide) rfl ?_
  intro p e s m args below meth c s₁ B hml hv
  obtain ⟨hargs, hsz, hP, hK, hD0⟩ := hv
  subst hargs
  have hx := B.exec
  have hb := B.bytes
  have hr := B.returns
  have hts := atoms_spec (ws := wsX6_tried) B.pre
  have hown : s.vm.findClass RX6 = some m.cls := findClass_of_methodNamed B.named
  have hlocks := B.notSynchronized
  have w113 := hts (.methodLink RX6 113 yX6_runs) (List.mem_of_getElem? (i := 8) rfl)
  have w125 := hts (.methodLink RX6 125 yX6_steps) (List.mem_of_getElem? (i := 68) rfl)
  have w128 := hts (.methodLink RX6 128 yX6_canNumber) (List.mem_of_getElem? (i := 52) rfl)
  have w13 := hts (.fieldLink RX6 13 "DrawnSliversModel" "aside" "[I") (List.mem_of_getElem? (i := 2) rfl)
  have w140 := hts (.methodLink RX6 140 yX6_putAside) (List.mem_of_getElem? (i := 3) rfl)
  have w143 := hts (.methodLink RX6 143 yX6_putBack) (List.mem_of_getElem? (i := 72) rfl)
  have w66 := hts (.methodLink RX6 66 yX6_reason) (List.mem_of_getElem? (i := 12) rfl)
  have w7 := hts (.fieldLink RX6 7 "DrawnSliversModel" "s" "[I") (List.mem_of_getElem? (i := 1) rfl)
  have huX6 : ∀ w ∈ u_ws RX6 TX6 11, w.before _ s = true := fun w h => hts w (List.mem_cons_of_mem _ (List.mem_append_right _ (h)))
  subst hsz
  have hD := hD0.self (sz := s.heap.size)
  generalize hAe : va_A (wX6 a cI cF S) s.heap.size = A at hD ⊢
  have hA : ∀ q : Nat, s.heap.size ≤ q → A q := fun q h => by rw [← hAe]; exact Or.inr h
  have hS : va_S A s.heap s.heap [] := va_S.rf
  have hl := lv_entry ([.ref (a 0), .int x1, .int x2]) (n := 6) (Nat.le_of_ble_eq_true rfl)
  rw [lg_entry_eq]
  generalize (lg_sl ([.ref (a 0), .int x1, .int x2]) ++ List.replicate (6 - (lg_sl ([.ref (a 0), .int x1, .int x2])).length) Slot.unset).toArray = ls at hl ⊢
  have hl : lv_has ls 6 [(0, .ref (a 0)), (1, .int x1), (2, .int x2)] := hl
  rw [m_X6_tried] at h
  refine lv_aload_n hx hb dX6_tried_0 rfl (lv_at hl 0 rfl) ?_
  obtain ⟨v1, g2, h⟩ := o_b h
  refine k_rw (va_runV (As := []) (rest := []) ⟨hx, hb, hml, hown, hts⟩ (c_X6_putAside l dC dI cI cF a S v1 g2 s.heap.size) (cwV 0 hts gX6_tried_X6_putAside rfl rfl rfl (by decide +kernel) ⟨Nat.le_of_ble_eq_true rfl, Nat.le_of_ble_eq_true rfl⟩) (k_preVw (q0 := 0) (ci := 6) hK hP hD [0, 1, 2, 3, 4, 5] rfl rfl rfl rfl rfl) rfl rfl hl.1 rfl (lv_room (Nat.le_of_ble_eq_true rfl)) dX6_tried_1 ⟨Nat.zero_le _, Nat.zero_le _⟩) (st1 := []) rfl hP hD hS hA [0, 1, 2, 3, 4, 5] rfl rfl (wn := wX6 a cI cF v1) rfl rfl rfl (fun H locs hP hD hS => ?_)
  refine lv_aload_n hx hb dX6_tried_4 rfl (lv_at hl 0 rfl) ?_
  refine lv_iload_n hx hb dX6_tried_5 rfl (lv_at hl 1 rfl) ?_
  obtain ⟨v3, g4, h⟩ := o_b h
  refine k_rw (va_runV (As := [.int x1]) (rest := []) ⟨hx, hb, hml, hown, hts⟩ (c_X6_runs l dC dI cI cF a v1 x1 v3 g4 H.size) (cwV 1 hts gX6_tried_X6_runs rfl rfl rfl (by decide +kernel) ⟨Nat.le_of_ble_eq_true rfl, Nat.le_of_ble_eq_true rfl⟩) (k_preVw (q0 := 0) (ci := 6) hK hP hD [0, 1, 2, 3, 4, 5] rfl rfl rfl rfl rfl) rfl rfl hl.1 rfl (lv_room (Nat.le_of_ble_eq_true rfl)) dX6_tried_6 ⟨Nat.zero_le _, Nat.zero_le _⟩) (st1 := [.int v3.1]) rfl hP hD hS hA [0, 1, 2, 3, 4, 5] rfl rfl (wn := wX6 a cI cF v3.2) rfl rfl rfl (fun H locs hP hD hS => ?_)
  obtain ⟨x3_5, e6, h⟩ := o_n h
  refine lv_nmi e6 ?_
  refine lv_istore_n (lv' := [(3, .int x3_5), (0, .ref (a 0)), (1, .int x1), (2, .int x2)]) hx hb dX6_tried_9 rfl hl (by decide) rfl (fun ls hl => ?_)
  refine lv_aload_n hx hb dX6_tried_10 rfl (lv_at hl 1 rfl) ?_
  refine va_get (D := (dC, dI)) (ci := 6) (v := .ref (a 1)) (C := RX6) (T := TX6) (N := 11) hx hb huX6 (fun _ h9 => h9) hown hK hP 0 rfl rfl 0 (by decide) w7 (fun _ h9 => h9) rfl dX6_tried_11 ?_
  refine lv_sipush (v := (347 : Int32)) hx hb dX6_tried_14 (by decide) ?_
  refine va_iald hx hb hK hP 1 0 rfl rfl (by unfold vp_in; decide) dX6_tried_17 ?_
  refine lv_aload_n hx hb dX6_tried_18 rfl (lv_at hl 1 rfl) ?_
  refine va_get (D := (dC, dI)) (ci := 6) (v := .ref (a 2)) (C := RX6) (T := TX6) (N := 11) hx hb huX6 (fun _ h9 => h9) hown hK hP 0 rfl rfl 1 (by decide) w13 (fun _ h9 => h9) rfl dX6_tried_19 ?_
  refine lv_sipush (v := (347 : Int32)) hx hb dX6_tried_22 (by decide) ?_
  refine va_iald hx hb hK hP 2 0 rfl rfl (by unfold vp_in; decide) dX6_tried_25 ?_
  refine lv_isub hx hb dX6_tried_26 ?_
  obtain ⟨x4_7, e8, h⟩ := o_n h
  refine lv_nmi e8 ?_
  refine lv_istore (lv' := [(4, .int x4_7), (3, .int x3_5), (0, .ref (a 0)), (1, .int x1), (2, .int x2)]) hx hb dX6_tried_27 hl (by decide) rfl (fun ls hl => ?_)
  refine lv_iload_n hx hb dX6_tried_29 rfl (lv_at hl 4 rfl) ?_
  refine lv_if_ne (tgt := 37) hx hb dX6_tried_30 (by decide) (fun c9 => ?_) (fun c9 => ?_)
  rotate_left
  · have h := o_t h c9
    refine lv_iload_n hx hb dX6_tried_33 rfl (lv_at hl 1 rfl) ?_
    refine lv_goto (tgt := 92) hx hb dX6_tried_34 (by decide) ?_
    refine lv_istore (lv' := [(5, .int x3_5), (4, .int x4_7), (3, .int x3_5), (0, .ref (a 0)), (1, .int x1), (2, .int x2)]) hx hb dX6_tried_92 hl (by decide) rfl (fun ls hl => ?_)
    refine lv_aload_n hx hb dX6_tried_94 rfl (lv_at hl 3 rfl) ?_
    obtain ⟨v27, g28, h⟩ := o_b h
    refine k_rw (va_runV (As := []) (rest := []) ⟨hx, hb, hml, hown, hts⟩ (c_X6_putBack l dC dI cI cF a v3.2 v27 g28 H.size) (cwV 0 hts gX6_tried_X6_putBack rfl rfl rfl (by decide +kernel) ⟨Nat.le_of_ble_eq_true rfl, Nat.le_of_ble_eq_true rfl⟩) (k_preVw (q0 := 0) (ci := 6) hK hP hD [0, 1, 2, 3, 4, 5] rfl rfl rfl rfl rfl) rfl rfl hl.1 rfl (lv_room (Nat.le_of_ble_eq_true rfl)) dX6_tried_95 ⟨Nat.zero_le _, Nat.zero_le _⟩) (st1 := []) rfl hP hD hS hA [0, 1, 2, 3, 4, 5] rfl rfl (wn := wX6 a cI cF v27) rfl rfl rfl (fun H locs hP hD hS => ?_)
    refine lv_iload hx hb dX6_tried_98 (lv_at hl 0 rfl) ?_
    have hu := Option.some.inj h
    exact W.iret (v := x3_5) hx hb hr (fun t ht hW => ⟨⟨congrArg (fun z => Outcome.returned (some (Value.int z.1))) hu, by rw [ht, ← hu]; exact hP⟩, hS.F ht⟩) hS.2.2 dX6_tried_100
  have h := o_f h c9
  refine lv_iload_n hx hb dX6_tried_37 rfl (lv_at hl 4 rfl) ?_
  refine lv_iconst (v := (1 : Int32)) hx hb dX6_tried_38 (by decide) ?_
  refine lv_icmp_ne (tgt := 58) hx hb dX6_tried_39 (by decide) (fun c10 => ?_) (fun c10 => ?_)
  rotate_left
  · have h := o_t h c10
    refine lv_aload_n hx hb dX6_tried_42 rfl (lv_at hl 2 rfl) ?_
    refine lv_aload_n hx hb dX6_tried_43 rfl (lv_at hl 2 rfl) ?_
    refine va_get (D := (dC, dI)) (ci := 6) (v := .ref (a 1)) (C := RX6) (T := TX6) (N := 11) hx hb huX6 (fun _ h9 => h9) hown hK hP 0 rfl rfl 0 (by decide) w7 (fun _ h9 => h9) rfl dX6_tried_44 ?_
    refine lv_sipush (v := (329 : Int32)) hx hb dX6_tried_47 (by decide) ?_
    refine va_iald hx hb hK hP 1 0 rfl rfl (by unfold vp_in; decide) dX6_tried_50 ?_
    refine lv_iconst (v := (4 : Int32)) hx hb dX6_tried_51 (by decide) ?_
    obtain ⟨v23, g24, h⟩ := o_b h
    refine k_ro (va_runV (As := [.int ((g_X6_s v3.2) (329 : Int32).toNatClampNeg), .int (4 : Int32)]) (rest := []) ⟨hx, hb, hml, hown, hts⟩ (c_X6_canNumber l dC dI cI cF a v3.2 ((g_X6_s v3.2) (329 : Int32).toNatClampNeg) (4 : Int32) v23 g24) (cwV 2 hts gX6_tried_X6_canNumber rfl rfl rfl (by decide +kernel) ⟨Nat.le_of_ble_eq_true rfl, Nat.le_of_ble_eq_true rfl⟩) (k_preV (q0 := 0) (ci := 6) hK (hP.sub (ws' := wX6 a cI cF v3.2) [0, 1, 2, 3, 4, 5] rfl) rfl rfl rfl) rfl rfl hl.1 rfl (lv_room (Nat.le_of_ble_eq_true rfl)) dX6_tried_52 ⟨Nat.zero_le _, Nat.zero_le _⟩) (st1 := [.int v23]) rfl ?_
    refine lv_goto (tgt := 92) hx hb dX6_tried_55 (by decide) ?_
    refine lv_istore (lv' := [(5, .int v23), (4, .int x4_7), (3, .int x3_5), (0, .ref (a 0)), (1, .int x1), (2, .int x2)]) hx hb dX6_tried_92 hl (by decide) rfl (fun ls hl => ?_)
    refine lv_aload_n hx hb dX6_tried_94 rfl (lv_at hl 3 rfl) ?_
    obtain ⟨v25, g26, h⟩ := o_b h
    refine k_rw (va_runV (As := []) (rest := []) ⟨hx, hb, hml, hown, hts⟩ (c_X6_putBack l dC dI cI cF a v3.2 v25 g26 H.size) (cwV 0 hts gX6_tried_X6_putBack rfl rfl rfl (by decide +kernel) ⟨Nat.le_of_ble_eq_true rfl, Nat.le_of_ble_eq_true rfl⟩) (k_preVw (q0 := 0) (ci := 6) hK hP hD [0, 1, 2, 3, 4, 5] rfl rfl rfl rfl rfl) rfl rfl hl.1 rfl (lv_room (Nat.le_of_ble_eq_true rfl)) dX6_tried_95 ⟨Nat.zero_le _, Nat.zero_le _⟩) (st1 := []) rfl hP hD hS hA [0, 1, 2, 3, 4, 5] rfl rfl (wn := wX6 a cI cF v25) rfl rfl rfl (fun H locs hP hD hS => ?_)
    refine lv_iload hx hb dX6_tried_98 (lv_at hl 0 rfl) ?_
    have hu := Option.some.inj h
    exact W.iret (v := v23) hx hb hr (fun t ht hW => ⟨⟨congrArg (fun z => Outcome.returned (some (Value.int z.1))) hu, by rw [ht, ← hu]; exact hP⟩, hS.F ht⟩) hS.2.2 dX6_tried_100
  have h := o_f h c10
  refine lv_iload_n hx hb dX6_tried_58 rfl (lv_at hl 4 rfl) ?_
  refine lv_iconst (v := (2 : Int32)) hx hb dX6_tried_59 (by decide) ?_
  refine lv_icmp_ne (tgt := 78) hx hb dX6_tried_60 (by decide) (fun c11 => ?_) (fun c11 => ?_)
  rotate_left
  · have h := o_t h c11
    refine lv_aload_n hx hb dX6_tried_63 rfl (lv_at hl 2 rfl) ?_
    refine lv_aload_n hx hb dX6_tried_64 rfl (lv_at hl 2 rfl) ?_
    refine va_get (D := (dC, dI)) (ci := 6) (v := .ref (a 1)) (C := RX6) (T := TX6) (N := 11) hx hb huX6 (fun _ h9 => h9) hown hK hP 0 rfl rfl 0 (by decide) w7 (fun _ h9 => h9) rfl dX6_tried_65 ?_
    refine lv_sipush (v := (329 : Int32)) hx hb dX6_tried_68 (by decide) ?_
    refine va_iald hx hb hK hP 1 0 rfl rfl (by unfold vp_in; decide) dX6_tried_71 ?_
    obtain ⟨v19, g20, h⟩ := o_b h
    refine k_ro (va_runV (As := [.int ((g_X6_s v3.2) (329 : Int32).toNatClampNeg)]) (rest := []) ⟨hx, hb, hml, hown, hts⟩ (c_X6_steps l dC dI cI cF a v3.2 ((g_X6_s v3.2) (329 : Int32).toNatClampNeg) v19 g20) (cwV 1 hts gX6_tried_X6_steps rfl rfl rfl (by decide +kernel) ⟨Nat.le_of_ble_eq_true rfl, Nat.le_of_ble_eq_true rfl⟩) (k_preV (q0 := 0) (ci := 6) hK (hP.sub (ws' := wX6 a cI cF v3.2) [0, 1, 2, 3, 4, 5] rfl) rfl rfl rfl) rfl rfl hl.1 rfl (lv_room (Nat.le_of_ble_eq_true rfl)) dX6_tried_72 ⟨Nat.zero_le _, Nat.zero_le _⟩) (st1 := [.int v19]) rfl ?_
    refine lv_goto (tgt := 92) hx hb dX6_tried_75 (by decide) ?_
    refine lv_istore (lv' := [(5, .int v19), (4, .int x4_7), (3, .int x3_5), (0, .ref (a 0)), (1, .int x1), (2, .int x2)]) hx hb dX6_tried_92 hl (by decide) rfl (fun ls hl => ?_)
    refine lv_aload_n hx hb dX6_tried_94 rfl (lv_at hl 3 rfl) ?_
    obtain ⟨v21, g22, h⟩ := o_b h
    refine k_rw (va_runV (As := []) (rest := []) ⟨hx, hb, hml, hown, hts⟩ (c_X6_putBack l dC dI cI cF a v3.2 v21 g22 H.size) (cwV 0 hts gX6_tried_X6_putBack rfl rfl rfl (by decide +kernel) ⟨Nat.le_of_ble_eq_true rfl, Nat.le_of_ble_eq_true rfl⟩) (k_preVw (q0 := 0) (ci := 6) hK hP hD [0, 1, 2, 3, 4, 5] rfl rfl rfl rfl rfl) rfl rfl hl.1 rfl (lv_room (Nat.le_of_ble_eq_true rfl)) dX6_tried_95 ⟨Nat.zero_le _, Nat.zero_le _⟩) (st1 := []) rfl hP hD hS hA [0, 1, 2, 3, 4, 5] rfl rfl (wn := wX6 a cI cF v21) rfl rfl rfl (fun H locs hP hD hS => ?_)
    refine lv_iload hx hb dX6_tried_98 (lv_at hl 0 rfl) ?_
    have hu := Option.some.inj h
    exact W.iret (v := v19) hx hb hr (fun t ht hW => ⟨⟨congrArg (fun z => Outcome.returned (some (Value.int z.1))) hu, by rw [ht, ← hu]; exact hP⟩, hS.F ht⟩) hS.2.2 dX6_tried_100
  have h := o_f h c11
  refine lv_iload_n hx hb dX6_tried_78 rfl (lv_at hl 4 rfl) ?_
  refine lv_iconst (v := (3 : Int32)) hx hb dX6_tried_79 (by decide) ?_
  refine lv_icmp_ne (tgt := 88) hx hb dX6_tried_80 (by decide) (fun c12 => ?_) (fun c12 => ?_)
  rotate_left
  · have h := o_t h c12
    refine lv_iload hx hb dX6_tried_83 (lv_at hl 0 rfl) ?_
    refine lv_goto (tgt := 92) hx hb dX6_tried_85 (by decide) ?_
    refine lv_istore (lv' := [(5, .int x4_7), (4, .int x4_7), (3, .int x3_5), (0, .ref (a 0)), (1, .int x1), (2, .int x2)]) hx hb dX6_tried_92 hl (by decide) rfl (fun ls hl => ?_)
    refine lv_aload_n hx hb dX6_tried_94 rfl (lv_at hl 3 rfl) ?_
    obtain ⟨v17, g18, h⟩ := o_b h
    refine k_rw (va_runV (As := []) (rest := []) ⟨hx, hb, hml, hown, hts⟩ (c_X6_putBack l dC dI cI cF a v3.2 v17 g18 H.size) (cwV 0 hts gX6_tried_X6_putBack rfl rfl rfl (by decide +kernel) ⟨Nat.le_of_ble_eq_true rfl, Nat.le_of_ble_eq_true rfl⟩) (k_preVw (q0 := 0) (ci := 6) hK hP hD [0, 1, 2, 3, 4, 5] rfl rfl rfl rfl rfl) rfl rfl hl.1 rfl (lv_room (Nat.le_of_ble_eq_true rfl)) dX6_tried_95 ⟨Nat.zero_le _, Nat.zero_le _⟩) (st1 := []) rfl hP hD hS hA [0, 1, 2, 3, 4, 5] rfl rfl (wn := wX6 a cI cF v17) rfl rfl rfl (fun H locs hP hD hS => ?_)
    refine lv_iload hx hb dX6_tried_98 (lv_at hl 0 rfl) ?_
    have hu := Option.some.inj h
    exact W.iret (v := x4_7) hx hb hr (fun t ht hW => ⟨⟨congrArg (fun z => Outcome.returned (some (Value.int z.1))) hu, by rw [ht, ← hu]; exact hP⟩, hS.F ht⟩) hS.2.2 dX6_tried_100
  have h := o_f h c12
  refine lv_aload_n hx hb dX6_tried_88 rfl (lv_at hl 2 rfl) ?_
  obtain ⟨v13, g14, h⟩ := o_b h
  refine k_ro (va_runV (As := []) (rest := []) ⟨hx, hb, hml, hown, hts⟩ (c_X6_reason l dC dI cI cF a v3.2 v13 g14) (cwV 0 hts gX6_tried_X6_reason rfl rfl rfl (by decide +kernel) ⟨Nat.le_of_ble_eq_true rfl, Nat.le_of_ble_eq_true rfl⟩) (k_preV (q0 := 0) (ci := 6) hK (hP.sub (ws' := wX6 a cI cF v3.2) [0, 1, 2, 3, 4, 5] rfl) rfl rfl rfl) rfl rfl hl.1 rfl (lv_room (Nat.le_of_ble_eq_true rfl)) dX6_tried_89 ⟨Nat.zero_le _, Nat.zero_le _⟩) (st1 := [.int v13]) rfl ?_
  refine lv_istore (lv' := [(5, .int v13), (4, .int x4_7), (3, .int x3_5), (0, .ref (a 0)), (1, .int x1), (2, .int x2)]) hx hb dX6_tried_92 hl (by decide) rfl (fun ls hl => ?_)
  refine lv_aload_n hx hb dX6_tried_94 rfl (lv_at hl 3 rfl) ?_
  obtain ⟨v15, g16, h⟩ := o_b h
  refine k_rw (va_runV (As := []) (rest := []) ⟨hx, hb, hml, hown, hts⟩ (c_X6_putBack l dC dI cI cF a v3.2 v15 g16 H.size) (cwV 0 hts gX6_tried_X6_putBack rfl rfl rfl (by decide +kernel) ⟨Nat.le_of_ble_eq_true rfl, Nat.le_of_ble_eq_true rfl⟩) (k_preVw (q0 := 0) (ci := 6) hK hP hD [0, 1, 2, 3, 4, 5] rfl rfl rfl rfl rfl) rfl rfl hl.1 rfl (lv_room (Nat.le_of_ble_eq_true rfl)) dX6_tried_95 ⟨Nat.zero_le _, Nat.zero_le _⟩) (st1 := []) rfl hP hD hS hA [0, 1, 2, 3, 4, 5] rfl rfl (wn := wX6 a cI cF v15) rfl rfl rfl (fun H locs hP hD hS => ?_)
  refine lv_iload hx hb dX6_tried_98 (lv_at hl 0 rfl) ?_
  have hu := Option.some.inj h
  exact W.iret (v := v13) hx hb hr (fun t ht hW => ⟨⟨congrArg (fun z => Outcome.returned (some (Value.int z.1))) hu, by rw [ht, ← hu]; exact hP⟩, hS.F ht⟩) hS.2.2 dX6_tried_100

def m_X6_ifRun (S : S_X6) (x1 : Int32) (x2 : Int32) : Option (Int32 × S_X6) := (m_X6_in x1 (1 : Int32) (40 : Int32)).bind fun v1 => (if v1 = 0 then ((m_X6_throwing (s_X6_thrown S (0 : Int32)) (1 : Int32)).bind fun v4 => (some (v4.1, v4.2))) else ((m_X6_in x2 (0 : Int32) (4 : Int32)).bind fun v6 => (if v6 = 0 then ((m_X6_throwing (s_X6_thrown S (0 : Int32)) (1 : Int32)).bind fun v9 => (some (v9.1, v9.2))) else ((m_X6_tried (s_X6_thrown S (0 : Int32)) x1 x2).bind fun v11 => (some (v11.1, v11.2))))))
set_option maxHeartbeats 4000000 in
set_option maxRecDepth 100000 in
theorem c_X6_ifRun (l : Launch) (dC : Nat → ClassId) (dI : Nat → Nat → Nat) (cI cF : ClassId) (a : Nat → Nat) (S : S_X6) (x1 : Int32) (x2 : Int32) (u : Int32 × S_X6) (h : m_X6_ifRun S x1 x2 = some u) : cRW l (dC, dI) cI cF yX6_ifRun wsX6_ifRun ({ frames := 5, cells := 0, slots := 0, locals := 117 } : Room) [.ref (a 0), .int x1, .int x2] (wX6 a cI cF S) (wX6 a cI cF u.2) (some (.int u.1)) := by
  intro sz
  refine Met.ofW (cc := cX6_ifRun) (maxL := 3) (ret := (some .int)) (by decide) rfl ?_
  intro p e s m args below meth c s₁ B hml hv
  obtain ⟨hargs, hsz, hP, hK, hD0⟩ := hv
  subst hargs
  have hx := B.exec
  have hb := B.bytes
  have hr := B.returns
  have hts := atoms_spec (ws := wsX6_ifRun) B.pre
  have hown : s.vm.findClass RX6 = some m.cls := findClass_of_methodNamed B.named
  have hlocks := B.notSynchronized
  have w146 := hts (.methodLink RX6 146 yX6_tried) (List.mem_of_getElem? (i := 6) rfl)
  have w25 := hts (.fieldLink RX6 25 "DrawnSliversModel" "thrown" "I") (List.mem_of_getElem? (i := 1) rfl)
  have w32 := hts (.methodLink RX6 32 yX6_in) (List.mem_of_getElem? (i := 2) rfl)
  have w98 := hts (.methodLink RX6 98 yX6_throwing) (List.mem_of_getElem? (i := 84) rfl)
  have huX6 : ∀ w ∈ u_ws RX6 TX6 11, w.before _ s = true := fun w h => hts w (List.mem_cons_of_mem _ (List.mem_append_right _ (h)))
  subst hsz
  have hD := hD0.self (sz := s.heap.size)
  generalize hAe : va_A (wX6 a cI cF S) s.heap.size = A at hD ⊢
  have hA : ∀ q : Nat, s.heap.size ≤ q → A q := fun q h => by rw [← hAe]; exact Or.inr h
  have hS : va_S A s.heap s.heap [] := va_S.rf
  have hl := lv_entry ([.ref (a 0), .int x1, .int x2]) (n := 3) (Nat.le_of_ble_eq_true rfl)
  rw [lg_entry_eq]
  generalize (lg_sl ([.ref (a 0), .int x1, .int x2]) ++ List.replicate (3 - (lg_sl ([.ref (a 0), .int x1, .int x2])).length) Slot.unset).toArray = ls at hl ⊢
  have hl : lv_has ls 3 [(0, .ref (a 0)), (1, .int x1), (2, .int x2)] := hl
  rw [m_X6_ifRun] at h
  refine lv_aload_n hx hb dX6_ifRun_0 rfl (lv_at hl 0 rfl) ?_
  refine lv_iconst (v := (0 : Int32)) hx hb dX6_ifRun_1 (by decide) ?_
  refine va_put (D := (dC, dI)) (ci := 6) (v := .int (0 : Int32)) (ty := .int) (C := RX6) (T := TX6) (N := 11) hx hb huX6 (fun _ h9 => h9) tyX6 tyX6_ok nmX6 hown hK hP hD hS 0 rfl rfl 8 (by decide) w25 (fun _ h9 => h9) rfl (by decide +kernel) rfl rfl (Nat.le_of_ble_eq_true rfl) dX6_ifRun_2 (fun H locs hP hD hS => ?_)
  have hP : va_P (dC, dI) vwCl (wX6 a cI cF (s_X6_thrown S (0 : Int32))) H := hP
  have hD : va_D A (wX6 a cI cF (s_X6_thrown S (0 : Int32))) := hD
  refine lv_iload_n hx hb dX6_ifRun_5 rfl (lv_at hl 1 rfl) ?_
  refine lv_iconst (v := (1 : Int32)) hx hb dX6_ifRun_6 (by decide) ?_
  refine lv_bipush (v := (40 : Int32)) hx hb dX6_ifRun_7 (by decide) ?_
  obtain ⟨v1, g2, h⟩ := o_b h
  refine k_ro (va_runS (As := [.int x1, .int (1 : Int32), .int (40 : Int32)]) (rest := []) ⟨hx, hb, hml, hown, hts⟩ (c_X6_in l dC dI cI cF x1 (1 : Int32) (40 : Int32) v1 g2) (va_cwS 3 hts gX6_ifRun_X6_in rfl rfl rfl (by decide +kernel) ⟨Nat.le_of_ble_eq_true rfl, Nat.le_of_ble_eq_true rfl⟩) (k_prePU) rfl rfl hl.1 rfl (lv_room (Nat.le_of_ble_eq_true rfl)) dX6_ifRun_9 ⟨Nat.zero_le _, Nat.zero_le _⟩) (st1 := [.int v1]) rfl ?_
  refine lv_if_eq (tgt := 33) hx hb dX6_ifRun_12 (by decide) (fun c3 => ?_) (fun c3 => ?_)
  · have h := o_t h c3
    refine lv_aload_n hx hb dX6_ifRun_33 rfl (lv_at hl 0 rfl) ?_
    refine lv_iconst (v := (1 : Int32)) hx hb dX6_ifRun_34 (by decide) ?_
    obtain ⟨v4, g5, h⟩ := o_b h
    refine k_rw (va_runV (As := [.int (1 : Int32)]) (rest := []) ⟨hx, hb, hml, hown, hts⟩ (c_X6_throwing l dC dI cI cF a (s_X6_thrown S (0 : Int32)) (1 : Int32) v4 g5 H.size) (cwV 1 hts gX6_ifRun_X6_throwing rfl rfl rfl (by decide +kernel) ⟨Nat.le_of_ble_eq_true rfl, Nat.le_of_ble_eq_true rfl⟩) (k_preVw (q0 := 0) (ci := 6) hK hP hD [0, 1, 2, 3, 4, 5] rfl rfl rfl rfl rfl) rfl rfl hl.1 rfl (lv_room (Nat.le_of_ble_eq_true rfl)) dX6_ifRun_35 ⟨Nat.zero_le _, Nat.zero_le _⟩) (st1 := [.int v4.1]) rfl hP hD hS hA [0, 1, 2, 3, 4, 5] rfl rfl (wn := wX6 a cI cF v4.2) rfl rfl rfl (fun H locs hP hD hS => ?_)
    have hu := Option.some.inj h
    exact W.iret (v := v4.1) hx hb hr (fun t ht hW => ⟨⟨congrArg (fun z => Outcome.returned (some (Value.int z.1))) hu, by rw [ht, ← hu]; exact hP⟩, hS.F ht⟩) hS.2.2 dX6_ifRun_38
  have h := o_f h c3
  refine lv_iload_n hx hb dX6_ifRun_15 rfl (lv_at hl 2 rfl) ?_
  refine lv_iconst (v := (0 : Int32)) hx hb dX6_ifRun_16 (by decide) ?_
  refine lv_iconst (v := (4 : Int32)) hx hb dX6_ifRun_17 (by decide) ?_
  obtain ⟨v6, g7, h⟩ := o_b h
  refine k_ro (va_runS (As := [.int x2, .int (0 : Int32), .int (4 : Int32)]) (rest := []) ⟨hx, hb, hml, hown, hts⟩ (c_X6_in l dC dI cI cF x2 (0 : Int32) (4 : Int32) v6 g7) (va_cwS 3 hts gX6_ifRun_X6_in rfl rfl rfl (by decide +kernel) ⟨Nat.le_of_ble_eq_true rfl, Nat.le_of_ble_eq_true rfl⟩) (k_prePU) rfl rfl hl.1 rfl (lv_room (Nat.le_of_ble_eq_true rfl)) dX6_ifRun_18 ⟨Nat.zero_le _, Nat.zero_le _⟩) (st1 := [.int v6]) rfl ?_
  refine lv_if_eq (tgt := 33) hx hb dX6_ifRun_21 (by decide) (fun c8 => ?_) (fun c8 => ?_)
  · have h := o_t h c8
    refine lv_aload_n hx hb dX6_ifRun_33 rfl (lv_at hl 0 rfl) ?_
    refine lv_iconst (v := (1 : Int32)) hx hb dX6_ifRun_34 (by decide) ?_
    obtain ⟨v9, g10, h⟩ := o_b h
    refine k_rw (va_runV (As := [.int (1 : Int32)]) (rest := []) ⟨hx, hb, hml, hown, hts⟩ (c_X6_throwing l dC dI cI cF a (s_X6_thrown S (0 : Int32)) (1 : Int32) v9 g10 H.size) (cwV 1 hts gX6_ifRun_X6_throwing rfl rfl rfl (by decide +kernel) ⟨Nat.le_of_ble_eq_true rfl, Nat.le_of_ble_eq_true rfl⟩) (k_preVw (q0 := 0) (ci := 6) hK hP hD [0, 1, 2, 3, 4, 5] rfl rfl rfl rfl rfl) rfl rfl hl.1 rfl (lv_room (Nat.le_of_ble_eq_true rfl)) dX6_ifRun_35 ⟨Nat.zero_le _, Nat.zero_le _⟩) (st1 := [.int v9.1]) rfl hP hD hS hA [0, 1, 2, 3, 4, 5] rfl rfl (wn := wX6 a cI cF v9.2) rfl rfl rfl (fun H locs hP hD hS => ?_)
    have hu := Option.some.inj h
    exact W.iret (v := v9.1) hx hb hr (fun t ht hW => ⟨⟨congrArg (fun z => Outcome.returned (some (Value.int z.1))) hu, by rw [ht, ← hu]; exact hP⟩, hS.F ht⟩) hS.2.2 dX6_ifRun_38
  have h := o_f h c8
  refine lv_aload_n hx hb dX6_ifRun_24 rfl (lv_at hl 0 rfl) ?_
  refine lv_iload_n hx hb dX6_ifRun_25 rfl (lv_at hl 1 rfl) ?_
  refine lv_iload_n hx hb dX6_ifRun_26 rfl (lv_at hl 2 rfl) ?_
  obtain ⟨v11, g12, h⟩ := o_b h
  refine k_rw (va_runV (As := [.int x1, .int x2]) (rest := []) ⟨hx, hb, hml, hown, hts⟩ (c_X6_tried l dC dI cI cF a (s_X6_thrown S (0 : Int32)) x1 x2 v11 g12 H.size) (cwV 2 hts gX6_ifRun_X6_tried rfl rfl rfl (by decide +kernel) ⟨Nat.le_of_ble_eq_true rfl, Nat.le_of_ble_eq_true rfl⟩) (k_preVw (q0 := 0) (ci := 6) hK hP hD [0, 1, 2, 3, 4, 5] rfl rfl rfl rfl rfl) rfl rfl hl.1 rfl (lv_room (Nat.le_of_ble_eq_true rfl)) dX6_ifRun_27 ⟨Nat.zero_le _, Nat.zero_le _⟩) (st1 := [.int v11.1]) rfl hP hD hS hA [0, 1, 2, 3, 4, 5] rfl rfl (wn := wX6 a cI cF v11.2) rfl rfl rfl (fun H locs hP hD hS => ?_)
  refine lv_goto (tgt := 38) hx hb dX6_ifRun_30 (by decide) ?_
  have hu := Option.some.inj h
  exact W.iret (v := v11.1) hx hb hr (fun t ht hW => ⟨⟨congrArg (fun z => Outcome.returned (some (Value.int z.1))) hu, by rw [ht, ← hu]; exact hP⟩, hS.F ht⟩) hS.2.2 dX6_ifRun_38

def m_X6_lagFor_L60 (k17 : Int32 → Int32 → Int32 → Int32 → Int32 → S_X6 → Option (Int32 × S_X6)) (y1 : Int32) (y2 : Int32) (y4 : Int32) (y5 : Int32) (y6 : Int32) (t0 : Int32) (S : S_X6) : Option (Int32 × S_X6) := if t0 = y5 then (nmL (y5 + 1) fun x5_12 => (k17 y1 y2 t0 y6 x5_12 S)) else (nmL (y5 + 1) fun x5_10 => (k17 y1 y2 t0 y4 x5_10 S))
def m_X6_lagFor_L17 : Nat → Int32 → Int32 → Int32 → Int32 → Int32 → S_X6 → Option (Int32 × S_X6)
  | 0, _, _, _, _, _, _ => none
  | n + 1, y1, y2, y3, y4, y5, S => if (6 : Int32) < y5 then (some (y3, s_X6_s S (upd (g_X6_s S) (340 : Int32).toNatClampNeg y2))) else ((m_X6_tried (s_X6_s S (upd (g_X6_s S) (340 : Int32).toNatClampNeg y5)) y1 (2 : Int32)).bind fun v4 => (nmL (v4.1) fun x6_6 => (if y5 = 0 then (m_X6_lagFor_L60 (m_X6_lagFor_L17 n) y1 y2 y4 y5 x6_6 y5 v4.2) else (if y4 ≤ x6_6 then (m_X6_lagFor_L60 (m_X6_lagFor_L17 n) y1 y2 y4 y5 x6_6 y3 v4.2) else (m_X6_lagFor_L60 (m_X6_lagFor_L17 n) y1 y2 y4 y5 x6_6 y5 v4.2)))))
def m_X6_lagFor (S : S_X6) (x1 : Int32) : Option (Int32 × S_X6) := nmL ((g_X6_s S) (340 : Int32).toNatClampNeg) fun x2_1 => (m_X6_lagFor_L17 4000 x1 x2_1 (0 : Int32) (0 : Int32) (0 : Int32) S)
set_option maxHeartbeats 4000000 in
set_option maxRecDepth 100000 in
theorem c_X6_lagFor (l : Launch) (dC : Nat → ClassId) (dI : Nat → Nat → Nat) (cI cF : ClassId) (a : Nat → Nat) (S : S_X6) (x1 : Int32) (u : Int32 × S_X6) (h : m_X6_lagFor S x1 = some u) : cRW l (dC, dI) cI cF yX6_lagFor wsX6_lagFor ({ frames := 5, cells := 0, slots := 0, locals := 117 } : Room) [.ref (a 0), .int x1] (wX6 a cI cF S) (wX6 a cI cF u.2) (some (.int u.1)) := by
  intro sz
  refine Met.ofW (cc := cX6_lagFor) (maxL := 7) (ret := (some .int)) (by decide) rfl ?_
  intro p e s m args below meth c s₁ B hml hv
  obtain ⟨hargs, hsz, hP, hK, hD0⟩ := hv
  subst hargs
  have hx := B.exec
  have hb := B.bytes
  have hr := B.returns
  have hts := atoms_spec (ws := wsX6_lagFor) B.pre
  have hown : s.vm.findClass RX6 = some m.cls := findClass_of_methodNamed B.named
  have hlocks := B.notSynchronized
  have w146 := hts (.methodLink RX6 146 yX6_tried) (List.mem_of_getElem? (i := 2) rfl)
  have w7 := hts (.fieldLink RX6 7 "DrawnSliversModel" "s" "[I") (List.mem_of_getElem? (i := 1) rfl)
  have huX6 : ∀ w ∈ u_ws RX6 TX6 11, w.before _ s = true := fun w h => hts w (List.mem_cons_of_mem _ (List.mem_append_right _ (h)))
  subst hsz
  have hD := hD0.self (sz := s.heap.size)
  generalize hAe : va_A (wX6 a cI cF S) s.heap.size = A at hD ⊢
  have hA : ∀ q : Nat, s.heap.size ≤ q → A q := fun q h => by rw [← hAe]; exact Or.inr h
  have hS : va_S A s.heap s.heap [] := va_S.rf
  have L60 : ∀ (k17 : Int32 → Int32 → Int32 → Int32 → Int32 → S_X6 → Option (Int32 × S_X6)) (ih17 : ∀ (y1 : Int32) (y2 : Int32) (y3 : Int32) (y4 : Int32) (y5 : Int32) (S : S_X6), k17 y1 y2 y3 y4 y5 S = some u → ∀ (H : Heap) (locs : List Loc), va_P (dC, dI) vwCl (wX6 a cI cF S) H → va_D A (wX6 a cI cF S) → va_S A s.heap H locs → ∀ (ls : Array Slot), lv_has ls 7 [(0, .ref (a 0)), (1, .int y1), (2, .int y2), (3, .int y3), (4, .int y4), (5, .int y5)] → W p l e (headSpec wsX6_lagFor ({ frames := 5, cells := 0, slots := 0, locals := 117 } : Room)).room s m ([.ref (a 0), .int x1] : List Value).toArray below meth c H locs 0 0 (MQ below (qRW (dC, dI) (wX6 a cI cF u.2) (some (.int u.1)) A) ([.ref (a 0), .int x1] : List Value).toArray s 0 0 A) (F0 m 17 ls [])), ∀ (y1 : Int32) (y2 : Int32) (y4 : Int32) (y5 : Int32) (y6 : Int32) (t0 : Int32) (S : S_X6), m_X6_lagFor_L60 k17 y1 y2 y4 y5 y6 t0 S = some u → ∀ (H : Heap) (locs : List Loc), va_P (dC, dI) vwCl (wX6 a cI cF S) H → va_D A (wX6 a cI cF S) → va_S A s.heap H locs → ∀ (ls : Array Slot), lv_has ls 7 [(0, .ref (a 0)), (1, .int y1), (2, .int y2), (4, .int y4), (5, .int y5), (6, .int y6)] → W p l e (headSpec wsX6_lagFor ({ frames := 5, cells := 0, slots := 0, locals := 117 } : Room)).room s m ([.ref (a 0), .int x1] : List Value).toArray below meth c H locs 0 0 (MQ below (qRW (dC, dI) (wX6 a cI cF u.2) (some (.int u.1)) A) ([.ref (a 0), .int x1] : List Value).toArray s 0 0 A) (F0 m 60 ls [.int t0]) := by
    intro k17 ih17 y1 y2 y4 y5 y6 t0 S h H locs hP hD hS ls hl
    rw [m_X6_lagFor_L60] at h
    refine lv_istore_n (lv' := [(3, .int t0), (0, .ref (a 0)), (1, .int y1), (2, .int y2), (4, .int y4), (5, .int y5), (6, .int y6)]) hx hb dX6_lagFor_60 rfl hl (by decide) rfl (fun ls hl => ?_)
    refine lv_iload_n hx hb dX6_lagFor_61 rfl (lv_at hl 0 rfl) ?_
    refine lv_iload hx hb dX6_lagFor_62 (lv_at hl 5 rfl) ?_
    refine lv_icmp_ne (tgt := 72) hx hb dX6_lagFor_64 (by decide) (fun c9 => ?_) (fun c9 => ?_)
    · have h := o_f h c9
      refine lv_iload hx hb dX6_lagFor_72 (lv_at hl 4 rfl) ?_
      refine lv_istore (lv' := [(4, .int y4), (3, .int t0), (0, .ref (a 0)), (1, .int y1), (2, .int y2), (5, .int y5), (6, .int y6)]) hx hb dX6_lagFor_74 hl (by decide) rfl (fun ls hl => ?_)
      obtain ⟨x5_10, e11, h⟩ := o_n h
      refine lv_iinc (v := x5_10) (lv' := [(5, .int x5_10), (4, .int y4), (3, .int t0), (0, .ref (a 0)), (1, .int y1), (2, .int y2), (6, .int y6)]) hx hb dX6_lagFor_76 hl (k := 5) rfl (by rw [e11]; rfl) (by decide) rfl (fun ls hl => ?_)
      refine lv_goto (tgt := 17) hx hb dX6_lagFor_79 (by decide) ?_
      exact ih17 _ _ _ _ _ _ h _ _ hP hD hS _ (lv_sub hl [3, 4, 5, 2, 1, 0] rfl)
    have h := o_t h c9
    refine lv_iload hx hb dX6_lagFor_67 (lv_at hl 6 rfl) ?_
    refine lv_goto (tgt := 74) hx hb dX6_lagFor_69 (by decide) ?_
    refine lv_istore (lv' := [(4, .int y6), (3, .int t0), (0, .ref (a 0)), (1, .int y1), (2, .int y2), (5, .int y5), (6, .int y6)]) hx hb dX6_lagFor_74 hl (by decide) rfl (fun ls hl => ?_)
    obtain ⟨x5_12, e13, h⟩ := o_n h
    refine lv_iinc (v := x5_12) (lv' := [(5, .int x5_12), (4, .int y6), (3, .int t0), (0, .ref (a 0)), (1, .int y1), (2, .int y2), (6, .int y6)]) hx hb dX6_lagFor_76 hl (k := 5) rfl (by rw [e13]; rfl) (by decide) rfl (fun ls hl => ?_)
    refine lv_goto (tgt := 17) hx hb dX6_lagFor_79 (by decide) ?_
    exact ih17 _ _ _ _ _ _ h _ _ hP hD hS _ (lv_sub hl [3, 4, 5, 2, 1, 0] rfl)
  have L17 : ∀ (n : Nat), ∀ (y1 : Int32) (y2 : Int32) (y3 : Int32) (y4 : Int32) (y5 : Int32) (S : S_X6), m_X6_lagFor_L17 n y1 y2 y3 y4 y5 S = some u → ∀ (H : Heap) (locs : List Loc), va_P (dC, dI) vwCl (wX6 a cI cF S) H → va_D A (wX6 a cI cF S) → va_S A s.heap H locs → ∀ (ls : Array Slot), lv_has ls 7 [(0, .ref (a 0)), (1, .int y1), (2, .int y2), (3, .int y3), (4, .int y4), (5, .int y5)] → W p l e (headSpec wsX6_lagFor ({ frames := 5, cells := 0, slots := 0, locals := 117 } : Room)).room s m ([.ref (a 0), .int x1] : List Value).toArray below meth c H locs 0 0 (MQ below (qRW (dC, dI) (wX6 a cI cF u.2) (some (.int u.1)) A) ([.ref (a 0), .int x1] : List Value).toArray s 0 0 A) (F0 m 17 ls []) := by
    intro  n
    induction n with
    | zero =>
      intro y1 y2 y3 y4 y5 S h
      exact (o_0 h).elim
    | succ n ih17 =>
      intro y1 y2 y3 y4 y5 S h H locs hP hD hS ls hl
      rw [m_X6_lagFor_L17] at h
      refine lv_iload hx hb dX6_lagFor_17 (lv_at hl 5 rfl) ?_
      refine lv_bipush (v := (6 : Int32)) hx hb dX6_lagFor_19 (by decide) ?_
      refine lv_icmp_gt (tgt := 82) hx hb dX6_lagFor_21 (by decide) (fun c3 => ?_) (fun c3 => ?_)
      · have h := o_t h c3
        refine lv_aload_n hx hb dX6_lagFor_82 rfl (lv_at hl 0 rfl) ?_
        refine va_get (D := (dC, dI)) (ci := 6) (v := .ref (a 1)) (C := RX6) (T := TX6) (N := 11) hx hb huX6 (fun _ h9 => h9) hown hK hP 0 rfl rfl 0 (by decide) w7 (fun _ h9 => h9) rfl dX6_lagFor_83 ?_
        refine lv_sipush (v := (340 : Int32)) hx hb dX6_lagFor_86 (by decide) ?_
        refine lv_iload_n hx hb dX6_lagFor_89 rfl (lv_at hl 2 rfl) ?_
        refine va_iast hx hb hK hP hD hS 1 0 rfl rfl (by unfold vp_in; decide) dX6_lagFor_90 (fun H locs hP hD hS => ?_)
        have hP : va_P (dC, dI) vwCl (wX6 a cI cF (s_X6_s S (upd (g_X6_s S) (340 : Int32).toNatClampNeg y2))) H := hP
        have hD : va_D A (wX6 a cI cF (s_X6_s S (upd (g_X6_s S) (340 : Int32).toNatClampNeg y2))) := hD
        refine lv_iload_n hx hb dX6_lagFor_91 rfl (lv_at hl 3 rfl) ?_
        have hu := Option.some.inj h
        exact W.iret (v := y3) hx hb hr (fun t ht hW => ⟨⟨congrArg (fun z => Outcome.returned (some (Value.int z.1))) hu, by rw [ht, ← hu]; exact hP⟩, hS.F ht⟩) hS.2.2 dX6_lagFor_92
      have h := o_f h c3
      refine lv_aload_n hx hb dX6_lagFor_24 rfl (lv_at hl 0 rfl) ?_
      refine va_get (D := (dC, dI)) (ci := 6) (v := .ref (a 1)) (C := RX6) (T := TX6) (N := 11) hx hb huX6 (fun _ h9 => h9) hown hK hP 0 rfl rfl 0 (by decide) w7 (fun _ h9 => h9) rfl dX6_lagFor_25 ?_
      refine lv_sipush (v := (340 : Int32)) hx hb dX6_lagFor_28 (by decide) ?_
      refine lv_iload hx hb dX6_lagFor_31 (lv_at hl 5 rfl) ?_
      refine va_iast hx hb hK hP hD hS 1 0 rfl rfl (by unfold vp_in; decide) dX6_lagFor_33 (fun H locs hP hD hS => ?_)
      have hP : va_P (dC, dI) vwCl (wX6 a cI cF (s_X6_s S (upd (g_X6_s S) (340 : Int32).toNatClampNeg y5))) H := hP
      have hD : va_D A (wX6 a cI cF (s_X6_s S (upd (g_X6_s S) (340 : Int32).toNatClampNeg y5))) := hD
      refine lv_aload_n hx hb dX6_lagFor_34 rfl (lv_at hl 0 rfl) ?_
      refine lv_iload_n hx hb dX6_lagFor_35 rfl (lv_at hl 1 rfl) ?_
      refine lv_iconst (v := (2 : Int32)) hx hb dX6_lagFor_36 (by decide) ?_
      obtain ⟨v4, g5, h⟩ := o_b h
      refine k_rw (va_runV (As := [.int y1, .int (2 : Int32)]) (rest := []) ⟨hx, hb, hml, hown, hts⟩ (c_X6_tried l dC dI cI cF a (s_X6_s S (upd (g_X6_s S) (340 : Int32).toNatClampNeg y5)) y1 (2 : Int32) v4 g5 H.size) (cwV 2 hts gX6_lagFor_X6_tried rfl rfl rfl (by decide +kernel) ⟨Nat.le_of_ble_eq_true rfl, Nat.le_of_ble_eq_true rfl⟩) (k_preVw (q0 := 0) (ci := 6) hK hP hD [0, 1, 2, 3, 4, 5] rfl rfl rfl rfl rfl) rfl rfl hl.1 rfl (lv_room (Nat.le_of_ble_eq_true rfl)) dX6_lagFor_37 ⟨Nat.zero_le _, Nat.zero_le _⟩) (st1 := [.int v4.1]) rfl hP hD hS hA [0, 1, 2, 3, 4, 5] rfl rfl (wn := wX6 a cI cF v4.2) rfl rfl rfl (fun H locs hP hD hS => ?_)
      obtain ⟨x6_6, e7, h⟩ := o_n h
      refine lv_nmi e7 ?_
      refine lv_istore (lv' := [(6, .int x6_6), (0, .ref (a 0)), (1, .int y1), (2, .int y2), (3, .int y3), (4, .int y4), (5, .int y5)]) hx hb dX6_lagFor_40 hl (by decide) rfl (fun ls hl => ?_)
      refine lv_iload hx hb dX6_lagFor_42 (lv_at hl 6 rfl) ?_
      refine lv_if_eq (tgt := 54) hx hb dX6_lagFor_44 (by decide) (fun c8 => ?_) (fun c8 => ?_)
      · have h := o_t h c8
        refine lv_iload hx hb dX6_lagFor_54 (lv_at hl 6 rfl) ?_
        refine lv_goto (tgt := 60) hx hb dX6_lagFor_56 (by decide) ?_
        exact L60 _ ih17 _ _ _ _ _ _ _ h _ _ hP hD hS _ (lv_sub hl [1, 2, 3, 5, 6, 0] rfl)
      have h := o_f h c8
      refine lv_iload hx hb dX6_lagFor_47 (lv_at hl 0 rfl) ?_
      refine lv_iload hx hb dX6_lagFor_49 (lv_at hl 5 rfl) ?_
      refine lv_icmp_ge (tgt := 59) hx hb dX6_lagFor_51 (by decide) (fun c14 => ?_) (fun c14 => ?_)
      · have h := o_t h c14
        refine lv_iload_n hx hb dX6_lagFor_59 rfl (lv_at hl 4 rfl) ?_
        exact L60 _ ih17 _ _ _ _ _ _ _ h _ _ hP hD hS _ (lv_sub hl [1, 2, 3, 5, 6, 0] rfl)
      have h := o_f h c14
      refine lv_iload hx hb dX6_lagFor_54 (lv_at hl 6 rfl) ?_
      refine lv_goto (tgt := 60) hx hb dX6_lagFor_56 (by decide) ?_
      exact L60 _ ih17 _ _ _ _ _ _ _ h _ _ hP hD hS _ (lv_sub hl [1, 2, 3, 5, 6, 0] rfl)
  have hl := lv_entry ([.ref (a 0), .int x1]) (n := 7) (Nat.le_of_ble_eq_true rfl)
  rw [lg_entry_eq]
  generalize (lg_sl ([.ref (a 0), .int x1]) ++ List.replicate (7 - (lg_sl ([.ref (a 0), .int x1])).length) Slot.unset).toArray = ls at hl ⊢
  have hl : lv_has ls 7 [(0, .ref (a 0)), (1, .int x1)] := hl
  rw [m_X6_lagFor] at h
  refine lv_aload_n hx hb dX6_lagFor_0 rfl (lv_at hl 0 rfl) ?_
  refine va_get (D := (dC, dI)) (ci := 6) (v := .ref (a 1)) (C := RX6) (T := TX6) (N := 11) hx hb huX6 (fun _ h9 => h9) hown hK hP 0 rfl rfl 0 (by decide) w7 (fun _ h9 => h9) rfl dX6_lagFor_1 ?_
  refine lv_sipush (v := (340 : Int32)) hx hb dX6_lagFor_4 (by decide) ?_
  refine va_iald hx hb hK hP 1 0 rfl rfl (by unfold vp_in; decide) dX6_lagFor_7 ?_
  obtain ⟨x2_1, e2, h⟩ := o_n h
  refine lv_nmi e2 ?_
  refine lv_istore_n (lv' := [(2, .int x2_1), (0, .ref (a 0)), (1, .int x1)]) hx hb dX6_lagFor_8 rfl hl (by decide) rfl (fun ls hl => ?_)
  refine lv_iconst (v := (0 : Int32)) hx hb dX6_lagFor_9 (by decide) ?_
  refine lv_istore_n (lv' := [(3, .int (0 : Int32)), (2, .int x2_1), (0, .ref (a 0)), (1, .int x1)]) hx hb dX6_lagFor_10 rfl hl (by decide) rfl (fun ls hl => ?_)
  refine lv_iconst (v := (0 : Int32)) hx hb dX6_lagFor_11 (by decide) ?_
  refine lv_istore (lv' := [(4, .int (0 : Int32)), (3, .int (0 : Int32)), (2, .int x2_1), (0, .ref (a 0)), (1, .int x1)]) hx hb dX6_lagFor_12 hl (by decide) rfl (fun ls hl => ?_)
  refine lv_iconst (v := (0 : Int32)) hx hb dX6_lagFor_14 (by decide) ?_
  refine lv_istore (lv' := [(5, .int (0 : Int32)), (4, .int (0 : Int32)), (3, .int (0 : Int32)), (2, .int x2_1), (0, .ref (a 0)), (1, .int x1)]) hx hb dX6_lagFor_15 hl (by decide) rfl (fun ls hl => ?_)
  exact L17 _ _ _ _ _ _ _ h _ _ hP hD hS _ (lv_sub hl [4, 5, 3, 2, 1, 0] rfl)

def m_X6_bestLag (S : S_X6) (x1 : Int32) : Option (Int32 × S_X6) := (m_X6_in x1 (1 : Int32) (40 : Int32)).bind fun v1 => (if v1 = 0 then ((m_X6_throwing (s_X6_thrown S (0 : Int32)) (1 : Int32)).bind fun v4 => (some (v4.1, v4.2))) else ((m_X6_lagFor (s_X6_thrown S (0 : Int32)) x1).bind fun v6 => (some (v6.1, v6.2))))
set_option maxHeartbeats 4000000 in
set_option maxRecDepth 100000 in
theorem c_X6_bestLag (l : Launch) (dC : Nat → ClassId) (dI : Nat → Nat → Nat) (cI cF : ClassId) (a : Nat → Nat) (S : S_X6) (x1 : Int32) (u : Int32 × S_X6) (h : m_X6_bestLag S x1 = some u) : cRW l (dC, dI) cI cF yX6_bestLag wsX6_bestLag ({ frames := 6, cells := 0, slots := 0, locals := 143 } : Room) [.ref (a 0), .int x1] (wX6 a cI cF S) (wX6 a cI cF u.2) (some (.int u.1)) := by
  intro sz
  refine Met.ofW (cc := cX6_bestLag) (maxL := 2) (ret := (some .int)) (by decide) rfl ?_
  intro p e s m args below meth c s₁ B hml hv
  obtain ⟨hargs, hsz, hP, hK, hD0⟩ := hv
  subst hargs
  have hx := B.exec
  have hb := B.bytes
  have hr := B.returns
  have hts := atoms_spec (ws := wsX6_bestLag) B.pre
  have hown : s.vm.findClass RX6 = some m.cls := findClass_of_methodNamed B.named
  have hlocks := B.notSynchronized
  have w149 := hts (.methodLink RX6 149 yX6_lagFor) (List.mem_of_getElem? (i := 6) rfl)
  have w25 := hts (.fieldLink RX6 25 "DrawnSliversModel" "thrown" "I") (List.mem_of_getElem? (i := 1) rfl)
  have w32 := hts (.methodLink RX6 32 yX6_in) (List.mem_of_getElem? (i := 2) rfl)
  have w98 := hts (.methodLink RX6 98 yX6_throwing) (List.mem_of_getElem? (i := 88) rfl)
  have huX6 : ∀ w ∈ u_ws RX6 TX6 11, w.before _ s = true := fun w h => hts w (List.mem_cons_of_mem _ (List.mem_append_right _ (h)))
  subst hsz
  have hD := hD0.self (sz := s.heap.size)
  generalize hAe : va_A (wX6 a cI cF S) s.heap.size = A at hD ⊢
  have hA : ∀ q : Nat, s.heap.size ≤ q → A q := fun q h => by rw [← hAe]; exact Or.inr h
  have hS : va_S A s.heap s.heap [] := va_S.rf
  have hl := lv_entry ([.ref (a 0), .int x1]) (n := 2) (Nat.le_of_ble_eq_true rfl)
  rw [lg_entry_eq]
  generalize (lg_sl ([.ref (a 0), .int x1]) ++ List.replicate (2 - (lg_sl ([.ref (a 0), .int x1])).length) Slot.unset).toArray = ls at hl ⊢
  have hl : lv_has ls 2 [(0, .ref (a 0)), (1, .int x1)] := hl
  rw [m_X6_bestLag] at h
  refine lv_aload_n hx hb dX6_bestLag_0 rfl (lv_at hl 0 rfl) ?_
  refine lv_iconst (v := (0 : Int32)) hx hb dX6_bestLag_1 (by decide) ?_
  refine va_put (D := (dC, dI)) (ci := 6) (v := .int (0 : Int32)) (ty := .int) (C := RX6) (T := TX6) (N := 11) hx hb huX6 (fun _ h9 => h9) tyX6 tyX6_ok nmX6 hown hK hP hD hS 0 rfl rfl 8 (by decide) w25 (fun _ h9 => h9) rfl (by decide +kernel) rfl rfl (Nat.le_of_ble_eq_true rfl) dX6_bestLag_2 (fun H locs hP hD hS => ?_)
  have hP : va_P (dC, dI) vwCl (wX6 a cI cF (s_X6_thrown S (0 : Int32))) H := hP
  have hD : va_D A (wX6 a cI cF (s_X6_thrown S (0 : Int32))) := hD
  refine lv_iload_n hx hb dX6_bestLag_5 rfl (lv_at hl 1 rfl) ?_
  refine lv_iconst (v := (1 : Int32)) hx hb dX6_bestLag_6 (by decide) ?_
  refine lv_bipush (v := (40 : Int32)) hx hb dX6_bestLag_7 (by decide) ?_
  obtain ⟨v1, g2, h⟩ := o_b h
  refine k_ro (va_runS (As := [.int x1, .int (1 : Int32), .int (40 : Int32)]) (rest := []) ⟨hx, hb, hml, hown, hts⟩ (c_X6_in l dC dI cI cF x1 (1 : Int32) (40 : Int32) v1 g2) (va_cwS 3 hts gX6_bestLag_X6_in rfl rfl rfl (by decide +kernel) ⟨Nat.le_of_ble_eq_true rfl, Nat.le_of_ble_eq_true rfl⟩) (k_prePU) rfl rfl hl.1 rfl (lv_room (Nat.le_of_ble_eq_true rfl)) dX6_bestLag_9 ⟨Nat.zero_le _, Nat.zero_le _⟩) (st1 := [.int v1]) rfl ?_
  refine lv_if_eq (tgt := 23) hx hb dX6_bestLag_12 (by decide) (fun c3 => ?_) (fun c3 => ?_)
  · have h := o_t h c3
    refine lv_aload_n hx hb dX6_bestLag_23 rfl (lv_at hl 0 rfl) ?_
    refine lv_iconst (v := (1 : Int32)) hx hb dX6_bestLag_24 (by decide) ?_
    obtain ⟨v4, g5, h⟩ := o_b h
    refine k_rw (va_runV (As := [.int (1 : Int32)]) (rest := []) ⟨hx, hb, hml, hown, hts⟩ (c_X6_throwing l dC dI cI cF a (s_X6_thrown S (0 : Int32)) (1 : Int32) v4 g5 H.size) (cwV 1 hts gX6_bestLag_X6_throwing rfl rfl rfl (by decide +kernel) ⟨Nat.le_of_ble_eq_true rfl, Nat.le_of_ble_eq_true rfl⟩) (k_preVw (q0 := 0) (ci := 6) hK hP hD [0, 1, 2, 3, 4, 5] rfl rfl rfl rfl rfl) rfl rfl hl.1 rfl (lv_room (Nat.le_of_ble_eq_true rfl)) dX6_bestLag_25 ⟨Nat.zero_le _, Nat.zero_le _⟩) (st1 := [.int v4.1]) rfl hP hD hS hA [0, 1, 2, 3, 4, 5] rfl rfl (wn := wX6 a cI cF v4.2) rfl rfl rfl (fun H locs hP hD hS => ?_)
    have hu := Option.some.inj h
    exact W.iret (v := v4.1) hx hb hr (fun t ht hW => ⟨⟨congrArg (fun z => Outcome.returned (some (Value.int z.1))) hu, by rw [ht, ← hu]; exact hP⟩, hS.F ht⟩) hS.2.2 dX6_bestLag_28
  have h := o_f h c3
  refine lv_aload_n hx hb dX6_bestLag_15 rfl (lv_at hl 0 rfl) ?_
  refine lv_iload_n hx hb dX6_bestLag_16 rfl (lv_at hl 1 rfl) ?_
  obtain ⟨v6, g7, h⟩ := o_b h
  refine k_rw (va_runV (As := [.int x1]) (rest := []) ⟨hx, hb, hml, hown, hts⟩ (c_X6_lagFor l dC dI cI cF a (s_X6_thrown S (0 : Int32)) x1 v6 g7 H.size) (cwV 1 hts gX6_bestLag_X6_lagFor rfl rfl rfl (by decide +kernel) ⟨Nat.le_of_ble_eq_true rfl, Nat.le_of_ble_eq_true rfl⟩) (k_preVw (q0 := 0) (ci := 6) hK hP hD [0, 1, 2, 3, 4, 5] rfl rfl rfl rfl rfl) rfl rfl hl.1 rfl (lv_room (Nat.le_of_ble_eq_true rfl)) dX6_bestLag_17 ⟨Nat.zero_le _, Nat.zero_le _⟩) (st1 := [.int v6.1]) rfl hP hD hS hA [0, 1, 2, 3, 4, 5] rfl rfl (wn := wX6 a cI cF v6.2) rfl rfl rfl (fun H locs hP hD hS => ?_)
  refine lv_goto (tgt := 28) hx hb dX6_bestLag_20 (by decide) ?_
  have hu := Option.some.inj h
  exact W.iret (v := v6.1) hx hb hr (fun t ht hW => ⟨⟨congrArg (fun z => Outcome.returned (some (Value.int z.1))) hu, by rw [ht, ← hu]; exact hP⟩, hS.F ht⟩) hS.2.2 dX6_bestLag_28

def m_X6_apart_L70 (S : S_X6) (y2 : Int32) (y3 : Int32) (y4 : Int32) : Option (Int32) := nmL (y4 - (((g_X6_s S) (341 : Int32).toNatClampNeg) * ((g_X6_s S) (342 : Int32).toNatClampNeg))) fun x5_2 => (if y3 = y2 then (if 0 ≤ x5_2 then (some x5_2) else (some (-x5_2))) else (some (-1 : Int32)))
def m_X6_apart_L8 (S : S_X6) : Nat → Int32 → Int32 → Int32 → Int32 → Int32 → Option (Int32)
  | 0, _, _, _, _, _ => none
  | n + 1, y1, y2, y3, y4, y5 => if (8 : Int32) ≤ y5 then (m_X6_apart_L70 S y2 y3 y4) else (if ((y1 >>> (y5 &&& 31)) &&& (1 : Int32)) = (1 : Int32) then ((m_X6_metres S y5).bind fun v9 => (if v9 = 0 then (some (-1 : Int32)) else (if y5 = ((g_X6_s S) (329 : Int32).toNatClampNeg) then (some (-1 : Int32)) else (nmL (y3 + 1) fun x3_13 => ((m_X6_weight S y5 (0 : Int32)).bind fun v15 => (nmL (y4 + v15) fun x4_17 => (nmL (y5 + 1) fun x5_19 => ((m_X6_apart_L8 S n) y1 y2 x3_13 x4_17 x5_19)))))))) else (nmL (y5 + 1) fun x5_7 => ((m_X6_apart_L8 S n) y1 y2 y3 y4 x5_7)))
def m_X6_apart (S : S_X6) (x1 : Int32) (x2 : Int32) : Option (Int32) := m_X6_apart_L8 S 4000 x1 x2 (0 : Int32) (0 : Int32) (0 : Int32)
set_option maxHeartbeats 4000000 in
set_option maxRecDepth 100000 in
theorem c_X6_apart (l : Launch) (dC : Nat → ClassId) (dI : Nat → Nat → Nat) (cI cF : ClassId) (a : Nat → Nat) (S : S_X6) (x1 : Int32) (x2 : Int32) (u : Int32) (h : m_X6_apart S x1 x2 = some u) : cRO l (dC, dI) cI cF yX6_apart wsX6_apart ({ frames := 1, cells := 0, slots := 0, locals := 22 } : Room) [.ref (a 0), .int x1, .int x2] (wX6 a cI cF S) (some (.int u)) := by
  refine Met.ofW (cc := cX6_apart) (maxL := 6) (ret := (some .int)) (by decide) rfl ?_
  intro p e s m args below meth c s₁ B hml hv
  obtain ⟨hargs, hP, hK⟩ := hv
  subst hargs
  have hx := B.exec
  have hb := B.bytes
  have hr := B.returns
  have hts := atoms_spec (ws := wsX6_apart) B.pre
  have hown : s.vm.findClass RX6 = some m.cls := findClass_of_methodNamed B.named
  have hlocks := B.notSynchronized
  have w36 := hts (.methodLink RX6 36 yX6_metres) (List.mem_of_getElem? (i := 2) rfl)
  have w40 := hts (.methodLink RX6 40 yX6_weight) (List.mem_of_getElem? (i := 7) rfl)
  have w7 := hts (.fieldLink RX6 7 "DrawnSliversModel" "s" "[I") (List.mem_of_getElem? (i := 1) rfl)
  have huX6 : ∀ w ∈ u_ws RX6 TX6 11, w.before _ s = true := fun w h => hts w (List.mem_cons_of_mem _ (List.mem_append_right _ (h)))
  have L70 : ∀ (y2 : Int32) (y3 : Int32) (y4 : Int32), m_X6_apart_L70 S y2 y3 y4 = some u → ∀ (ls : Array Slot), lv_has ls 6 [(0, .ref (a 0)), (2, .int y2), (3, .int y3), (4, .int y4)] → W p l e (headSpec wsX6_apart ({ frames := 1, cells := 0, slots := 0, locals := 22 } : Room)).room s m ([.ref (a 0), .int x1, .int x2] : List Value).toArray below meth c s.heap [] 0 0 (MQ below (qRO (some (.int u))) ([.ref (a 0), .int x1, .int x2] : List Value).toArray s 0 0 (fun _ => False)) (F0 m 70 ls []) := by
    intro  y2 y3 y4 h ls hl
    rw [m_X6_apart_L70] at h
    refine lv_iload hx hb dX6_apart_70 (lv_at hl 3 rfl) ?_
    refine lv_aload_n hx hb dX6_apart_72 rfl (lv_at hl 0 rfl) ?_
    refine va_get (D := (dC, dI)) (ci := 6) (v := .ref (a 1)) (C := RX6) (T := TX6) (N := 11) hx hb huX6 (fun _ h9 => h9) hown hK hP 0 rfl rfl 0 (by decide) w7 (fun _ h9 => h9) rfl dX6_apart_73 ?_
    refine lv_sipush (v := (341 : Int32)) hx hb dX6_apart_76 (by decide) ?_
    refine va_iald hx hb hK hP 1 0 rfl rfl (by unfold vp_in; decide) dX6_apart_79 ?_
    refine lv_aload_n hx hb dX6_apart_80 rfl (lv_at hl 0 rfl) ?_
    refine va_get (D := (dC, dI)) (ci := 6) (v := .ref (a 1)) (C := RX6) (T := TX6) (N := 11) hx hb huX6 (fun _ h9 => h9) hown hK hP 0 rfl rfl 0 (by decide) w7 (fun _ h9 => h9) rfl dX6_apart_81 ?_
    refine lv_sipush (v := (342 : Int32)) hx hb dX6_apart_84 (by decide) ?_
    refine va_iald hx hb hK hP 1 0 rfl rfl (by unfold vp_in; decide) dX6_apart_87 ?_
    refine lv_imul hx hb dX6_apart_88 ?_
    refine lv_isub hx hb dX6_apart_89 ?_
    obtain ⟨x5_2, e3, h⟩ := o_n h
    refine lv_nmi e3 ?_
    refine lv_istore (lv' := [(5, .int x5_2), (0, .ref (a 0)), (2, .int y2), (3, .int y3), (4, .int y4)]) hx hb dX6_apart_90 hl (by decide) rfl (fun ls hl => ?_)
    refine lv_iload_n hx hb dX6_apart_92 rfl (lv_at hl 3 rfl) ?_
    refine lv_iload_n hx hb dX6_apart_93 rfl (lv_at hl 2 rfl) ?_
    refine lv_icmp_eq (tgt := 101) hx hb dX6_apart_94 (by decide) (fun c4 => ?_) (fun c4 => ?_)
    rotate_left
    · have h := o_f h c4
      refine lv_iconst (v := (-1 : Int32)) hx hb dX6_apart_97 (by decide) ?_
      refine lv_goto (tgt := 114) hx hb dX6_apart_98 (by decide) ?_
      have hu := Option.some.inj h
      exact W.iret (v := (-1 : Int32)) hx hb hr (fun t ht hW => ⟨congrArg (fun z => Outcome.returned (some (Value.int z))) hu, ht⟩) (fun q hq => absurd hq List.not_mem_nil) dX6_apart_114
    have h := o_t h c4
    refine lv_iload hx hb dX6_apart_101 (lv_at hl 0 rfl) ?_
    refine lv_if_ge (tgt := 112) hx hb dX6_apart_103 (by decide) (fun c5 => ?_) (fun c5 => ?_)
    · have h := o_t h c5
      refine lv_iload hx hb dX6_apart_112 (lv_at hl 0 rfl) ?_
      have hu := Option.some.inj h
      exact W.iret (v := x5_2) hx hb hr (fun t ht hW => ⟨congrArg (fun z => Outcome.returned (some (Value.int z))) hu, ht⟩) (fun q hq => absurd hq List.not_mem_nil) dX6_apart_114
    have h := o_f h c5
    refine lv_iload hx hb dX6_apart_106 (lv_at hl 0 rfl) ?_
    refine lv_ineg hx hb dX6_apart_108 ?_
    refine lv_goto (tgt := 114) hx hb dX6_apart_109 (by decide) ?_
    have hu := Option.some.inj h
    exact W.iret (v := -x5_2) hx hb hr (fun t ht hW => ⟨congrArg (fun z => Outcome.returned (some (Value.int z))) hu, ht⟩) (fun q hq => absurd hq List.not_mem_nil) dX6_apart_114
  have L8 : ∀ (n : Nat), ∀ (y1 : Int32) (y2 : Int32) (y3 : Int32) (y4 : Int32) (y5 : Int32), m_X6_apart_L8 S n y1 y2 y3 y4 y5 = some u → ∀ (ls : Array Slot), lv_has ls 6 [(0, .ref (a 0)), (1, .int y1), (2, .int y2), (3, .int y3), (4, .int y4), (5, .int y5)] → W p l e (headSpec wsX6_apart ({ frames := 1, cells := 0, slots := 0, locals := 22 } : Room)).room s m ([.ref (a 0), .int x1, .int x2] : List Value).toArray below meth c s.heap [] 0 0 (MQ below (qRO (some (.int u))) ([.ref (a 0), .int x1, .int x2] : List Value).toArray s 0 0 (fun _ => False)) (F0 m 8 ls []) := by
    intro  n
    induction n with
    | zero =>
      intro y1 y2 y3 y4 y5 h
      exact (o_0 h).elim
    | succ n ih8 =>
      intro y1 y2 y3 y4 y5 h ls hl
      rw [m_X6_apart_L8] at h
      refine lv_iload hx hb dX6_apart_8 (lv_at hl 5 rfl) ?_
      refine lv_bipush (v := (8 : Int32)) hx hb dX6_apart_10 (by decide) ?_
      refine lv_icmp_ge (tgt := 70) hx hb dX6_apart_12 (by decide) (fun c1 => ?_) (fun c1 => ?_)
      · have h := o_t h c1
        exact L70 _ _ _ h _ (lv_sub hl [0, 2, 3, 4] rfl)
      have h := o_f h c1
      refine lv_iload_n hx hb dX6_apart_15 rfl (lv_at hl 1 rfl) ?_
      refine lv_iload hx hb dX6_apart_16 (lv_at hl 5 rfl) ?_
      refine lv_ishr hx hb dX6_apart_18 ?_
      refine lv_iconst (v := (1 : Int32)) hx hb dX6_apart_19 (by decide) ?_
      refine lv_iand hx hb dX6_apart_20 ?_
      refine lv_iconst (v := (1 : Int32)) hx hb dX6_apart_21 (by decide) ?_
      refine lv_icmp_ne (tgt := 64) hx hb dX6_apart_22 (by decide) (fun c6 => ?_) (fun c6 => ?_)
      · have h := o_f h c6
        obtain ⟨x5_7, e8, h⟩ := o_n h
        refine lv_iinc (v := x5_7) (lv' := [(5, .int x5_7), (0, .ref (a 0)), (1, .int y1), (2, .int y2), (3, .int y3), (4, .int y4)]) hx hb dX6_apart_64 hl (k := 5) rfl (by rw [e8]; rfl) (by decide) rfl (fun ls hl => ?_)
        refine lv_goto (tgt := 8) hx hb dX6_apart_67 (by decide) ?_
        exact ih8 _ _ _ _ _ h _ (lv_sub hl [1, 2, 3, 4, 5, 0] rfl)
      have h := o_t h c6
      refine lv_aload_n hx hb dX6_apart_25 rfl (lv_at hl 0 rfl) ?_
      refine lv_iload hx hb dX6_apart_26 (lv_at hl 5 rfl) ?_
      obtain ⟨v9, g10, h⟩ := o_b h
      refine k_ro (va_runV (As := [.int y5]) (rest := []) ⟨hx, hb, hml, hown, hts⟩ (c_X6_metres l dC dI cI cF a S y5 v9 g10) (cwV 1 hts gX6_apart_X6_metres rfl rfl rfl (by decide +kernel) ⟨Nat.le_of_ble_eq_true rfl, Nat.le_of_ble_eq_true rfl⟩) (k_preV (q0 := 0) (ci := 6) hK (hP.sub (ws' := wX6 a cI cF S) [0, 1, 2, 3, 4, 5] rfl) rfl rfl rfl) rfl rfl hl.1 rfl (lv_room (Nat.le_of_ble_eq_true rfl)) dX6_apart_28 ⟨Nat.zero_le _, Nat.zero_le _⟩) (st1 := [.int v9]) rfl ?_
      refine lv_if_eq (tgt := 47) hx hb dX6_apart_31 (by decide) (fun c11 => ?_) (fun c11 => ?_)
      · have h := o_t h c11
        refine lv_iconst (v := (-1 : Int32)) hx hb dX6_apart_47 (by decide) ?_
        have hu := Option.some.inj h
        exact W.iret (v := (-1 : Int32)) hx hb hr (fun t ht hW => ⟨congrArg (fun z => Outcome.returned (some (Value.int z))) hu, ht⟩) (fun q hq => absurd hq List.not_mem_nil) dX6_apart_48
      have h := o_f h c11
      refine lv_iload hx hb dX6_apart_34 (lv_at hl 5 rfl) ?_
      refine lv_aload_n hx hb dX6_apart_36 rfl (lv_at hl 0 rfl) ?_
      refine va_get (D := (dC, dI)) (ci := 6) (v := .ref (a 1)) (C := RX6) (T := TX6) (N := 11) hx hb huX6 (fun _ h9 => h9) hown hK hP 0 rfl rfl 0 (by decide) w7 (fun _ h9 => h9) rfl dX6_apart_37 ?_
      refine lv_sipush (v := (329 : Int32)) hx hb dX6_apart_40 (by decide) ?_
      refine va_iald hx hb hK hP 1 0 rfl rfl (by unfold vp_in; decide) dX6_apart_43 ?_
      refine lv_icmp_ne (tgt := 49) hx hb dX6_apart_44 (by decide) (fun c12 => ?_) (fun c12 => ?_)
      rotate_left
      · have h := o_t h c12
        refine lv_iconst (v := (-1 : Int32)) hx hb dX6_apart_47 (by decide) ?_
        have hu := Option.some.inj h
        exact W.iret (v := (-1 : Int32)) hx hb hr (fun t ht hW => ⟨congrArg (fun z => Outcome.returned (some (Value.int z))) hu, ht⟩) (fun q hq => absurd hq List.not_mem_nil) dX6_apart_48
      have h := o_f h c12
      obtain ⟨x3_13, e14, h⟩ := o_n h
      refine lv_iinc (v := x3_13) (lv' := [(3, .int x3_13), (0, .ref (a 0)), (1, .int y1), (2, .int y2), (4, .int y4), (5, .int y5)]) hx hb dX6_apart_49 hl (k := 3) rfl (by rw [e14]; rfl) (by decide) rfl (fun ls hl => ?_)
      refine lv_iload hx hb dX6_apart_52 (lv_at hl 4 rfl) ?_
      refine lv_aload_n hx hb dX6_apart_54 rfl (lv_at hl 1 rfl) ?_
      refine lv_iload hx hb dX6_apart_55 (lv_at hl 5 rfl) ?_
      refine lv_iconst (v := (0 : Int32)) hx hb dX6_apart_57 (by decide) ?_
      obtain ⟨v15, g16, h⟩ := o_b h
      refine k_ro (va_runV (As := [.int y5, .int (0 : Int32)]) (rest := [.int y4]) ⟨hx, hb, hml, hown, hts⟩ (c_X6_weight l dC dI cI cF a S y5 (0 : Int32) v15 g16) (cwV 2 hts gX6_apart_X6_weight rfl rfl rfl (by decide +kernel) ⟨Nat.le_of_ble_eq_true rfl, Nat.le_of_ble_eq_true rfl⟩) (k_preV (q0 := 0) (ci := 6) hK (hP.sub (ws' := wX6 a cI cF S) [0, 1, 2, 3, 4, 5] rfl) rfl rfl rfl) rfl rfl hl.1 rfl (lv_room (Nat.le_of_ble_eq_true rfl)) dX6_apart_58 ⟨Nat.zero_le _, Nat.zero_le _⟩) (st1 := [.int v15, .int y4]) rfl ?_
      refine lv_iadd hx hb dX6_apart_61 ?_
      obtain ⟨x4_17, e18, h⟩ := o_n h
      refine lv_nmi e18 ?_
      refine lv_istore (lv' := [(4, .int x4_17), (3, .int x3_13), (0, .ref (a 0)), (1, .int y1), (2, .int y2), (5, .int y5)]) hx hb dX6_apart_62 hl (by decide) rfl (fun ls hl => ?_)
      obtain ⟨x5_19, e20, h⟩ := o_n h
      refine lv_iinc (v := x5_19) (lv' := [(5, .int x5_19), (4, .int x4_17), (3, .int x3_13), (0, .ref (a 0)), (1, .int y1), (2, .int y2)]) hx hb dX6_apart_64 hl (k := 5) rfl (by rw [e20]; rfl) (by decide) rfl (fun ls hl => ?_)
      refine lv_goto (tgt := 8) hx hb dX6_apart_67 (by decide) ?_
      exact ih8 _ _ _ _ _ h _ (lv_sub hl [3, 4, 5, 2, 1, 0] rfl)
  have hl := lv_entry ([.ref (a 0), .int x1, .int x2]) (n := 6) (Nat.le_of_ble_eq_true rfl)
  rw [lg_entry_eq]
  generalize (lg_sl ([.ref (a 0), .int x1, .int x2]) ++ List.replicate (6 - (lg_sl ([.ref (a 0), .int x1, .int x2])).length) Slot.unset).toArray = ls at hl ⊢
  have hl : lv_has ls 6 [(0, .ref (a 0)), (1, .int x1), (2, .int x2)] := hl
  rw [m_X6_apart] at h
  refine lv_iconst (v := (0 : Int32)) hx hb dX6_apart_0 (by decide) ?_
  refine lv_istore_n (lv' := [(3, .int (0 : Int32)), (0, .ref (a 0)), (1, .int x1), (2, .int x2)]) hx hb dX6_apart_1 rfl hl (by decide) rfl (fun ls hl => ?_)
  refine lv_iconst (v := (0 : Int32)) hx hb dX6_apart_2 (by decide) ?_
  refine lv_istore (lv' := [(4, .int (0 : Int32)), (3, .int (0 : Int32)), (0, .ref (a 0)), (1, .int x1), (2, .int x2)]) hx hb dX6_apart_3 hl (by decide) rfl (fun ls hl => ?_)
  refine lv_iconst (v := (0 : Int32)) hx hb dX6_apart_5 (by decide) ?_
  refine lv_istore (lv' := [(5, .int (0 : Int32)), (4, .int (0 : Int32)), (3, .int (0 : Int32)), (0, .ref (a 0)), (1, .int x1), (2, .int x2)]) hx hb dX6_apart_6 hl (by decide) rfl (fun ls hl => ?_)
  exact L8 _ _ _ _ _ _ h _ (lv_sub hl [3, 4, 5, 2, 1, 0] rfl)

def m_X6_cansFor_L46 (S : S_X6) (k7 : Int32 → Int32 → Int32 → Int32 → Option (Int32)) (y1 : Int32) (y3 : Int32) (y4 : Int32) (y5 : Int32) (t0 : Int32) : Option (Int32) := if t0 = y4 then (nmL (y4 + 1) fun x4_8 => (k7 y1 t0 y5 x4_8)) else (nmL (y4 + 1) fun x4_6 => (k7 y1 t0 y3 x4_6))
def m_X6_cansFor_L7 (S : S_X6) : Nat → Int32 → Int32 → Int32 → Int32 → Option (Int32)
  | 0, _, _, _, _ => none
  | n + 1, y1, y2, y3, y4 => if (256 : Int32) ≤ y4 then (some y2) else ((m_X6_apart S y4 y1).bind fun v2 => (if v2 < 0 then (m_X6_cansFor_L46 S (m_X6_cansFor_L7 S n) y1 y3 y4 v2 y2) else (if y2 = (-1 : Int32) then (m_X6_cansFor_L46 S (m_X6_cansFor_L7 S n) y1 y3 y4 v2 y4) else (if y3 ≤ v2 then (m_X6_cansFor_L46 S (m_X6_cansFor_L7 S n) y1 y3 y4 v2 y2) else (m_X6_cansFor_L46 S (m_X6_cansFor_L7 S n) y1 y3 y4 v2 y4)))))
def m_X6_cansFor (S : S_X6) (x1 : Int32) : Option (Int32) := m_X6_cansFor_L7 S 4000 x1 (-1 : Int32) (0 : Int32) (1 : Int32)
set_option maxHeartbeats 4000000 in
set_option maxRecDepth 100000 in
theorem c_X6_cansFor (l : Launch) (dC : Nat → ClassId) (dI : Nat → Nat → Nat) (cI cF : ClassId) (a : Nat → Nat) (S : S_X6) (x1 : Int32) (u : Int32) (h : m_X6_cansFor S x1 = some u) : cRO l (dC, dI) cI cF yX6_cansFor wsX6_cansFor ({ frames := 2, cells := 0, slots := 0, locals := 47 } : Room) [.ref (a 0), .int x1] (wX6 a cI cF S) (some (.int u)) := by
  refine Met.ofW (cc := cX6_cansFor) (maxL := 6) (ret := (some .int)) (by decide) rfl ?_
  intro p e s m args below meth c s₁ B hml hv
  obtain ⟨hargs, hP, hK⟩ := hv
  subst hargs
  have hx := B.exec
  have hb := B.bytes
  have hr := B.returns
  have hts := atoms_spec (ws := wsX6_cansFor) B.pre
  have hown : s.vm.findClass RX6 = some m.cls := findClass_of_methodNamed B.named
  have hlocks := B.notSynchronized
  have w152 := hts (.methodLink RX6 152 yX6_apart) (List.mem_of_getElem? (i := 1) rfl)
  have L46 : ∀ (k7 : Int32 → Int32 → Int32 → Int32 → Option (Int32)) (ih7 : ∀ (y1 : Int32) (y2 : Int32) (y3 : Int32) (y4 : Int32), k7 y1 y2 y3 y4 = some u → ∀ (ls : Array Slot), lv_has ls 6 [(0, .ref (a 0)), (1, .int y1), (2, .int y2), (3, .int y3), (4, .int y4)] → W p l e (headSpec wsX6_cansFor ({ frames := 2, cells := 0, slots := 0, locals := 47 } : Room)).room s m ([.ref (a 0), .int x1] : List Value).toArray below meth c s.heap [] 0 0 (MQ below (qRO (some (.int u))) ([.ref (a 0), .int x1] : List Value).toArray s 0 0 (fun _ => False)) (F0 m 7 ls [])), ∀ (y1 : Int32) (y3 : Int32) (y4 : Int32) (y5 : Int32) (t0 : Int32), m_X6_cansFor_L46 S k7 y1 y3 y4 y5 t0 = some u → ∀ (ls : Array Slot), lv_has ls 6 [(0, .ref (a 0)), (1, .int y1), (3, .int y3), (4, .int y4), (5, .int y5)] → W p l e (headSpec wsX6_cansFor ({ frames := 2, cells := 0, slots := 0, locals := 47 } : Room)).room s m ([.ref (a 0), .int x1] : List Value).toArray below meth c s.heap [] 0 0 (MQ below (qRO (some (.int u))) ([.ref (a 0), .int x1] : List Value).toArray s 0 0 (fun _ => False)) (F0 m 46 ls [.int t0]) := by
    intro k7 ih7 y1 y3 y4 y5 t0 h ls hl
    rw [m_X6_cansFor_L46] at h
    refine lv_istore_n (lv' := [(2, .int t0), (0, .ref (a 0)), (1, .int y1), (3, .int y3), (4, .int y4), (5, .int y5)]) hx hb dX6_cansFor_46 rfl hl (by decide) rfl (fun ls hl => ?_)
    refine lv_iload_n hx hb dX6_cansFor_47 rfl (lv_at hl 0 rfl) ?_
    refine lv_iload hx hb dX6_cansFor_48 (lv_at hl 4 rfl) ?_
    refine lv_icmp_ne (tgt := 58) hx hb dX6_cansFor_50 (by decide) (fun c5 => ?_) (fun c5 => ?_)
    · have h := o_f h c5
      refine lv_iload_n hx hb dX6_cansFor_58 rfl (lv_at hl 3 rfl) ?_
      refine lv_istore_n (lv' := [(3, .int y3), (2, .int t0), (0, .ref (a 0)), (1, .int y1), (4, .int y4), (5, .int y5)]) hx hb dX6_cansFor_59 rfl hl (by decide) rfl (fun ls hl => ?_)
      obtain ⟨x4_6, e7, h⟩ := o_n h
      refine lv_iinc (v := x4_6) (lv' := [(4, .int x4_6), (3, .int y3), (2, .int t0), (0, .ref (a 0)), (1, .int y1), (5, .int y5)]) hx hb dX6_cansFor_60 hl (k := 4) rfl (by rw [e7]; rfl) (by decide) rfl (fun ls hl => ?_)
      refine lv_goto (tgt := 7) hx hb dX6_cansFor_63 (by decide) ?_
      exact ih7 _ _ _ _ h _ (lv_sub hl [3, 4, 2, 1, 0] rfl)
    have h := o_t h c5
    refine lv_iload hx hb dX6_cansFor_53 (lv_at hl 5 rfl) ?_
    refine lv_goto (tgt := 59) hx hb dX6_cansFor_55 (by decide) ?_
    refine lv_istore_n (lv' := [(3, .int y5), (2, .int t0), (0, .ref (a 0)), (1, .int y1), (4, .int y4), (5, .int y5)]) hx hb dX6_cansFor_59 rfl hl (by decide) rfl (fun ls hl => ?_)
    obtain ⟨x4_8, e9, h⟩ := o_n h
    refine lv_iinc (v := x4_8) (lv' := [(4, .int x4_8), (3, .int y5), (2, .int t0), (0, .ref (a 0)), (1, .int y1), (5, .int y5)]) hx hb dX6_cansFor_60 hl (k := 4) rfl (by rw [e9]; rfl) (by decide) rfl (fun ls hl => ?_)
    refine lv_goto (tgt := 7) hx hb dX6_cansFor_63 (by decide) ?_
    exact ih7 _ _ _ _ h _ (lv_sub hl [3, 4, 2, 1, 0] rfl)
  have L7 : ∀ (n : Nat), ∀ (y1 : Int32) (y2 : Int32) (y3 : Int32) (y4 : Int32), m_X6_cansFor_L7 S n y1 y2 y3 y4 = some u → ∀ (ls : Array Slot), lv_has ls 6 [(0, .ref (a 0)), (1, .int y1), (2, .int y2), (3, .int y3), (4, .int y4)] → W p l e (headSpec wsX6_cansFor ({ frames := 2, cells := 0, slots := 0, locals := 47 } : Room)).room s m ([.ref (a 0), .int x1] : List Value).toArray below meth c s.heap [] 0 0 (MQ below (qRO (some (.int u))) ([.ref (a 0), .int x1] : List Value).toArray s 0 0 (fun _ => False)) (F0 m 7 ls []) := by
    intro  n
    induction n with
    | zero =>
      intro y1 y2 y3 y4 h
      exact (o_0 h).elim
    | succ n ih7 =>
      intro y1 y2 y3 y4 h ls hl
      rw [m_X6_cansFor_L7] at h
      refine lv_iload hx hb dX6_cansFor_7 (lv_at hl 4 rfl) ?_
      refine lv_sipush (v := (256 : Int32)) hx hb dX6_cansFor_9 (by decide) ?_
      refine lv_icmp_ge (tgt := 66) hx hb dX6_cansFor_12 (by decide) (fun c1 => ?_) (fun c1 => ?_)
      · have h := o_t h c1
        refine lv_iload_n hx hb dX6_cansFor_66 rfl (lv_at hl 2 rfl) ?_
        have hu := Option.some.inj h
        exact W.iret (v := y2) hx hb hr (fun t ht hW => ⟨congrArg (fun z => Outcome.returned (some (Value.int z))) hu, ht⟩) (fun q hq => absurd hq List.not_mem_nil) dX6_cansFor_67
      have h := o_f h c1
      refine lv_aload_n hx hb dX6_cansFor_15 rfl (lv_at hl 0 rfl) ?_
      refine lv_iload hx hb dX6_cansFor_16 (lv_at hl 4 rfl) ?_
      refine lv_iload_n hx hb dX6_cansFor_18 rfl (lv_at hl 1 rfl) ?_
      obtain ⟨v2, g3, h⟩ := o_b h
      refine k_ro (va_runV (As := [.int y4, .int y1]) (rest := []) ⟨hx, hb, hml, hown, hts⟩ (c_X6_apart l dC dI cI cF a S y4 y1 v2 g3) (cwV 2 hts gX6_cansFor_X6_apart rfl rfl rfl (by decide +kernel) ⟨Nat.le_of_ble_eq_true rfl, Nat.le_of_ble_eq_true rfl⟩) (k_preV (q0 := 0) (ci := 6) hK (hP.sub (ws' := wX6 a cI cF S) [0, 1, 2, 3, 4, 5] rfl) rfl rfl rfl) rfl rfl hl.1 rfl (lv_room (Nat.le_of_ble_eq_true rfl)) dX6_cansFor_19 ⟨Nat.zero_le _, Nat.zero_le _⟩) (st1 := [.int v2]) rfl ?_
      refine lv_istore (lv' := [(5, .int v2), (0, .ref (a 0)), (1, .int y1), (2, .int y2), (3, .int y3), (4, .int y4)]) hx hb dX6_cansFor_22 hl (by decide) rfl (fun ls hl => ?_)
      refine lv_iload hx hb dX6_cansFor_24 (lv_at hl 0 rfl) ?_
      refine lv_if_lt (tgt := 45) hx hb dX6_cansFor_26 (by decide) (fun c4 => ?_) (fun c4 => ?_)
      · have h := o_t h c4
        refine lv_iload_n hx hb dX6_cansFor_45 rfl (lv_at hl 3 rfl) ?_
        exact L46 _ ih7 _ _ _ _ _ h _ (lv_sub hl [1, 2, 4, 5, 0] rfl)
      have h := o_f h c4
      refine lv_iload_n hx hb dX6_cansFor_29 rfl (lv_at hl 3 rfl) ?_
      refine lv_iconst (v := (-1 : Int32)) hx hb dX6_cansFor_30 (by decide) ?_
      refine lv_icmp_eq (tgt := 40) hx hb dX6_cansFor_31 (by decide) (fun c10 => ?_) (fun c10 => ?_)
      · have h := o_t h c10
        refine lv_iload hx hb dX6_cansFor_40 (lv_at hl 5 rfl) ?_
        refine lv_goto (tgt := 46) hx hb dX6_cansFor_42 (by decide) ?_
        exact L46 _ ih7 _ _ _ _ _ h _ (lv_sub hl [1, 2, 4, 5, 0] rfl)
      have h := o_f h c10
      refine lv_iload hx hb dX6_cansFor_34 (lv_at hl 0 rfl) ?_
      refine lv_iload_n hx hb dX6_cansFor_36 rfl (lv_at hl 4 rfl) ?_
      refine lv_icmp_ge (tgt := 45) hx hb dX6_cansFor_37 (by decide) (fun c11 => ?_) (fun c11 => ?_)
      · have h := o_t h c11
        refine lv_iload_n hx hb dX6_cansFor_45 rfl (lv_at hl 3 rfl) ?_
        exact L46 _ ih7 _ _ _ _ _ h _ (lv_sub hl [1, 2, 4, 5, 0] rfl)
      have h := o_f h c11
      refine lv_iload hx hb dX6_cansFor_40 (lv_at hl 5 rfl) ?_
      refine lv_goto (tgt := 46) hx hb dX6_cansFor_42 (by decide) ?_
      exact L46 _ ih7 _ _ _ _ _ h _ (lv_sub hl [1, 2, 4, 5, 0] rfl)
  have hl := lv_entry ([.ref (a 0), .int x1]) (n := 6) (Nat.le_of_ble_eq_true rfl)
  rw [lg_entry_eq]
  generalize (lg_sl ([.ref (a 0), .int x1]) ++ List.replicate (6 - (lg_sl ([.ref (a 0), .int x1])).length) Slot.unset).toArray = ls at hl ⊢
  have hl : lv_has ls 6 [(0, .ref (a 0)), (1, .int x1)] := hl
  rw [m_X6_cansFor] at h
  refine lv_iconst (v := (-1 : Int32)) hx hb dX6_cansFor_0 (by decide) ?_
  refine lv_istore_n (lv' := [(2, .int (-1 : Int32)), (0, .ref (a 0)), (1, .int x1)]) hx hb dX6_cansFor_1 rfl hl (by decide) rfl (fun ls hl => ?_)
  refine lv_iconst (v := (0 : Int32)) hx hb dX6_cansFor_2 (by decide) ?_
  refine lv_istore_n (lv' := [(3, .int (0 : Int32)), (2, .int (-1 : Int32)), (0, .ref (a 0)), (1, .int x1)]) hx hb dX6_cansFor_3 rfl hl (by decide) rfl (fun ls hl => ?_)
  refine lv_iconst (v := (1 : Int32)) hx hb dX6_cansFor_4 (by decide) ?_
  refine lv_istore (lv' := [(4, .int (1 : Int32)), (3, .int (0 : Int32)), (2, .int (-1 : Int32)), (0, .ref (a 0)), (1, .int x1)]) hx hb dX6_cansFor_5 hl (by decide) rfl (fun ls hl => ?_)
  exact L7 _ _ _ _ _ h _ (lv_sub hl [3, 4, 2, 1, 0] rfl)

def m_X6_bestFeed (S : S_X6) (x1 : Int32) : Option (Int32 × S_X6) := (m_X6_in x1 (1 : Int32) (6 : Int32)).bind fun v1 => (if v1 = 0 then ((m_X6_throwing (s_X6_thrown S (0 : Int32)) (1 : Int32)).bind fun v4 => (some (v4.1, v4.2))) else ((m_X6_cansFor (s_X6_thrown S (0 : Int32)) x1).bind fun v6 => (some (v6, s_X6_thrown S (0 : Int32)))))
set_option maxHeartbeats 4000000 in
set_option maxRecDepth 100000 in
theorem c_X6_bestFeed (l : Launch) (dC : Nat → ClassId) (dI : Nat → Nat → Nat) (cI cF : ClassId) (a : Nat → Nat) (S : S_X6) (x1 : Int32) (u : Int32 × S_X6) (h : m_X6_bestFeed S x1 = some u) : cRW l (dC, dI) cI cF yX6_bestFeed wsX6_bestFeed ({ frames := 3, cells := 0, slots := 0, locals := 72 } : Room) [.ref (a 0), .int x1] (wX6 a cI cF S) (wX6 a cI cF u.2) (some (.int u.1)) := by
  intro sz
  refine Met.ofW (cc := cX6_bestFeed) (maxL := 2) (ret := (some .int)) (by decide) rfl ?_
  intro p e s m args below meth c s₁ B hml hv
  obtain ⟨hargs, hsz, hP, hK, hD0⟩ := hv
  subst hargs
  have hx := B.exec
  have hb := B.bytes
  have hr := B.returns
  have hts := atoms_spec (ws := wsX6_bestFeed) B.pre
  have hown : s.vm.findClass RX6 = some m.cls := findClass_of_methodNamed B.named
  have hlocks := B.notSynchronized
  have w155 := hts (.methodLink RX6 155 yX6_cansFor) (List.mem_of_getElem? (i := 6) rfl)
  have w25 := hts (.fieldLink RX6 25 "DrawnSliversModel" "thrown" "I") (List.mem_of_getElem? (i := 1) rfl)
  have w32 := hts (.methodLink RX6 32 yX6_in) (List.mem_of_getElem? (i := 2) rfl)
  have w98 := hts (.methodLink RX6 98 yX6_throwing) (List.mem_of_getElem? (i := 23) rfl)
  have huX6 : ∀ w ∈ u_ws RX6 TX6 11, w.before _ s = true := fun w h => hts w (List.mem_cons_of_mem _ (List.mem_append_right _ (h)))
  subst hsz
  have hD := hD0.self (sz := s.heap.size)
  generalize hAe : va_A (wX6 a cI cF S) s.heap.size = A at hD ⊢
  have hA : ∀ q : Nat, s.heap.size ≤ q → A q := fun q h => by rw [← hAe]; exact Or.inr h
  have hS : va_S A s.heap s.heap [] := va_S.rf
  have hl := lv_entry ([.ref (a 0), .int x1]) (n := 2) (Nat.le_of_ble_eq_true rfl)
  rw [lg_entry_eq]
  generalize (lg_sl ([.ref (a 0), .int x1]) ++ List.replicate (2 - (lg_sl ([.ref (a 0), .int x1])).length) Slot.unset).toArray = ls at hl ⊢
  have hl : lv_has ls 2 [(0, .ref (a 0)), (1, .int x1)] := hl
  rw [m_X6_bestFeed] at h
  refine lv_aload_n hx hb dX6_bestFeed_0 rfl (lv_at hl 0 rfl) ?_
  refine lv_iconst (v := (0 : Int32)) hx hb dX6_bestFeed_1 (by decide) ?_
  refine va_put (D := (dC, dI)) (ci := 6) (v := .int (0 : Int32)) (ty := .int) (C := RX6) (T := TX6) (N := 11) hx hb huX6 (fun _ h9 => h9) tyX6 tyX6_ok nmX6 hown hK hP hD hS 0 rfl rfl 8 (by decide) w25 (fun _ h9 => h9) rfl (by decide +kernel) rfl rfl (Nat.le_of_ble_eq_true rfl) dX6_bestFeed_2 (fun H locs hP hD hS => ?_)
  have hP : va_P (dC, dI) vwCl (wX6 a cI cF (s_X6_thrown S (0 : Int32))) H := hP
  have hD : va_D A (wX6 a cI cF (s_X6_thrown S (0 : Int32))) := hD
  refine lv_iload_n hx hb dX6_bestFeed_5 rfl (lv_at hl 1 rfl) ?_
  refine lv_iconst (v := (1 : Int32)) hx hb dX6_bestFeed_6 (by decide) ?_
  refine lv_bipush (v := (6 : Int32)) hx hb dX6_bestFeed_7 (by decide) ?_
  obtain ⟨v1, g2, h⟩ := o_b h
  refine k_ro (va_runS (As := [.int x1, .int (1 : Int32), .int (6 : Int32)]) (rest := []) ⟨hx, hb, hml, hown, hts⟩ (c_X6_in l dC dI cI cF x1 (1 : Int32) (6 : Int32) v1 g2) (va_cwS 3 hts gX6_bestFeed_X6_in rfl rfl rfl (by decide +kernel) ⟨Nat.le_of_ble_eq_true rfl, Nat.le_of_ble_eq_true rfl⟩) (k_prePU) rfl rfl hl.1 rfl (lv_room (Nat.le_of_ble_eq_true rfl)) dX6_bestFeed_9 ⟨Nat.zero_le _, Nat.zero_le _⟩) (st1 := [.int v1]) rfl ?_
  refine lv_if_eq (tgt := 23) hx hb dX6_bestFeed_12 (by decide) (fun c3 => ?_) (fun c3 => ?_)
  · have h := o_t h c3
    refine lv_aload_n hx hb dX6_bestFeed_23 rfl (lv_at hl 0 rfl) ?_
    refine lv_iconst (v := (1 : Int32)) hx hb dX6_bestFeed_24 (by decide) ?_
    obtain ⟨v4, g5, h⟩ := o_b h
    refine k_rw (va_runV (As := [.int (1 : Int32)]) (rest := []) ⟨hx, hb, hml, hown, hts⟩ (c_X6_throwing l dC dI cI cF a (s_X6_thrown S (0 : Int32)) (1 : Int32) v4 g5 H.size) (cwV 1 hts gX6_bestFeed_X6_throwing rfl rfl rfl (by decide +kernel) ⟨Nat.le_of_ble_eq_true rfl, Nat.le_of_ble_eq_true rfl⟩) (k_preVw (q0 := 0) (ci := 6) hK hP hD [0, 1, 2, 3, 4, 5] rfl rfl rfl rfl rfl) rfl rfl hl.1 rfl (lv_room (Nat.le_of_ble_eq_true rfl)) dX6_bestFeed_25 ⟨Nat.zero_le _, Nat.zero_le _⟩) (st1 := [.int v4.1]) rfl hP hD hS hA [0, 1, 2, 3, 4, 5] rfl rfl (wn := wX6 a cI cF v4.2) rfl rfl rfl (fun H locs hP hD hS => ?_)
    have hu := Option.some.inj h
    exact W.iret (v := v4.1) hx hb hr (fun t ht hW => ⟨⟨congrArg (fun z => Outcome.returned (some (Value.int z.1))) hu, by rw [ht, ← hu]; exact hP⟩, hS.F ht⟩) hS.2.2 dX6_bestFeed_28
  have h := o_f h c3
  refine lv_aload_n hx hb dX6_bestFeed_15 rfl (lv_at hl 0 rfl) ?_
  refine lv_iload_n hx hb dX6_bestFeed_16 rfl (lv_at hl 1 rfl) ?_
  obtain ⟨v6, g7, h⟩ := o_b h
  refine k_ro (va_runV (As := [.int x1]) (rest := []) ⟨hx, hb, hml, hown, hts⟩ (c_X6_cansFor l dC dI cI cF a (s_X6_thrown S (0 : Int32)) x1 v6 g7) (cwV 1 hts gX6_bestFeed_X6_cansFor rfl rfl rfl (by decide +kernel) ⟨Nat.le_of_ble_eq_true rfl, Nat.le_of_ble_eq_true rfl⟩) (k_preV (q0 := 0) (ci := 6) hK (hP.sub (ws' := wX6 a cI cF (s_X6_thrown S (0 : Int32))) [0, 1, 2, 3, 4, 5] rfl) rfl rfl rfl) rfl rfl hl.1 rfl (lv_room (Nat.le_of_ble_eq_true rfl)) dX6_bestFeed_17 ⟨Nat.zero_le _, Nat.zero_le _⟩) (st1 := [.int v6]) rfl ?_
  refine lv_goto (tgt := 28) hx hb dX6_bestFeed_20 (by decide) ?_
  have hu := Option.some.inj h
  exact W.iret (v := v6) hx hb hr (fun t ht hW => ⟨⟨congrArg (fun z => Outcome.returned (some (Value.int z.1))) hu, by rw [ht, ← hu]; exact hP⟩, hS.F ht⟩) hS.2.2 dX6_bestFeed_28

def m_X6_meanOf (S : S_X6) (x1 : Int32) : Option (UInt64) := (m_X6_metres S x1).bind fun v1 => (if v1 = 0 then (some FP.dconst0) else ((m_X6_sum S x1).bind fun v4 => ((m_X6_metres S x1).bind fun v6 => (if (FP.ddiv (FP.i2d v4) (FP.i2d v6)) &&& 0x7fffffffffffffff ≤ 0x7ff0000000000000 then (some (FP.ddiv (FP.i2d v4) (FP.i2d v6))) else none))))
set_option maxHeartbeats 4000000 in
set_option maxRecDepth 100000 in
theorem c_X6_meanOf (l : Launch) (dC : Nat → ClassId) (dI : Nat → Nat → Nat) (cI cF : ClassId) (a : Nat → Nat) (S : S_X6) (x1 : Int32) (u : UInt64) (h : m_X6_meanOf S x1 = some u) : cRO l (dC, dI) cI cF yX6_meanOf wsX6_meanOf ({ frames := 2, cells := 0, slots := 0, locals := 45 } : Room) [.ref (a 0), .int x1] (wX6 a cI cF S) (some (.double u)) := by
  refine Met.ofW (cc := cX6_meanOf) (maxL := 2) (ret := (some .double)) (by decide) rfl ?_
  intro p e s m args below meth c s₁ B hml hv
  obtain ⟨hargs, hP, hK⟩ := hv
  subst hargs
  have hx := B.exec
  have hb := B.bytes
  have hr := B.returns
  have hts := atoms_spec (ws := wsX6_meanOf) B.pre
  have hown : s.vm.findClass RX6 = some m.cls := findClass_of_methodNamed B.named
  have hlocks := B.notSynchronized
  have w107 := hts (.methodLink RX6 107 yX6_sum) (List.mem_of_getElem? (i := 7) rfl)
  have w36 := hts (.methodLink RX6 36 yX6_metres) (List.mem_of_getElem? (i := 1) rfl)
  have hl := lv_entry ([.ref (a 0), .int x1]) (n := 2) (Nat.le_of_ble_eq_true rfl)
  rw [lg_entry_eq]
  generalize (lg_sl ([.ref (a 0), .int x1]) ++ List.replicate (2 - (lg_sl ([.ref (a 0), .int x1])).length) Slot.unset).toArray = ls at hl ⊢
  have hl : lv_has ls 2 [(0, .ref (a 0)), (1, .int x1)] := hl
  rw [m_X6_meanOf] at h
  refine lv_aload_n hx hb dX6_meanOf_0 rfl (lv_at hl 0 rfl) ?_
  refine lv_iload_n hx hb dX6_meanOf_1 rfl (lv_at hl 1 rfl) ?_
  obtain ⟨v1, g2, h⟩ := o_b h
  refine k_ro (va_runV (As := [.int x1]) (rest := []) ⟨hx, hb, hml, hown, hts⟩ (c_X6_metres l dC dI cI cF a S x1 v1 g2) (cwV 1 hts gX6_meanOf_X6_metres rfl rfl rfl (by decide +kernel) ⟨Nat.le_of_ble_eq_true rfl, Nat.le_of_ble_eq_true rfl⟩) (k_preV (q0 := 0) (ci := 6) hK (hP.sub (ws' := wX6 a cI cF S) [0, 1, 2, 3, 4, 5] rfl) rfl rfl rfl) rfl rfl hl.1 rfl (lv_room (Nat.le_of_ble_eq_true rfl)) dX6_meanOf_2 ⟨Nat.zero_le _, Nat.zero_le _⟩) (st1 := [.int v1]) rfl ?_
  refine lv_if_ne (tgt := 12) hx hb dX6_meanOf_5 (by decide) (fun c3 => ?_) (fun c3 => ?_)
  rotate_left
  · have h := o_t h c3
    refine lv_dconst0 hx hb dX6_meanOf_8 ?_
    refine lv_goto (tgt := 25) hx hb dX6_meanOf_9 (by decide) ?_
    have hu := Option.some.inj h
    exact W.dret (v := FP.dconst0) hx hb hr (fun t ht hW => ⟨congrArg (fun z => Outcome.returned (some (Value.double z))) hu, ht⟩) (fun q hq => absurd hq List.not_mem_nil) dX6_meanOf_25
  have h := o_f h c3
  refine lv_aload_n hx hb dX6_meanOf_12 rfl (lv_at hl 0 rfl) ?_
  refine lv_iload_n hx hb dX6_meanOf_13 rfl (lv_at hl 1 rfl) ?_
  obtain ⟨v4, g5, h⟩ := o_b h
  refine k_ro (va_runV (As := [.int x1]) (rest := []) ⟨hx, hb, hml, hown, hts⟩ (c_X6_sum l dC dI cI cF a S x1 v4 g5) (cwV 1 hts gX6_meanOf_X6_sum rfl rfl rfl (by decide +kernel) ⟨Nat.le_of_ble_eq_true rfl, Nat.le_of_ble_eq_true rfl⟩) (k_preV (q0 := 0) (ci := 6) hK (hP.sub (ws' := wX6 a cI cF S) [0, 1, 2, 3, 4, 5] rfl) rfl rfl rfl) rfl rfl hl.1 rfl (lv_room (Nat.le_of_ble_eq_true rfl)) dX6_meanOf_14 ⟨Nat.zero_le _, Nat.zero_le _⟩) (st1 := [.int v4]) rfl ?_
  refine lv_i2d hx hb dX6_meanOf_17 ?_
  refine lv_aload_n hx hb dX6_meanOf_18 rfl (lv_at hl 0 rfl) ?_
  refine lv_iload_n hx hb dX6_meanOf_19 rfl (lv_at hl 1 rfl) ?_
  obtain ⟨v6, g7, h⟩ := o_b h
  refine k_ro (va_runV (As := [.int x1]) (rest := [.double (FP.i2d v4)]) ⟨hx, hb, hml, hown, hts⟩ (c_X6_metres l dC dI cI cF a S x1 v6 g7) (cwV 1 hts gX6_meanOf_X6_metres rfl rfl rfl (by decide +kernel) ⟨Nat.le_of_ble_eq_true rfl, Nat.le_of_ble_eq_true rfl⟩) (k_preV (q0 := 0) (ci := 6) hK (hP.sub (ws' := wX6 a cI cF S) [0, 1, 2, 3, 4, 5] rfl) rfl rfl rfl) rfl rfl hl.1 rfl (lv_room (Nat.le_of_ble_eq_true rfl)) dX6_meanOf_20 ⟨Nat.zero_le _, Nat.zero_le _⟩) (st1 := [.int v6, .double (FP.i2d v4)]) rfl ?_
  refine lv_i2d hx hb dX6_meanOf_23 ?_
  obtain ⟨i8, h⟩ := o_ok h
  refine lv_ddiv hx hb dX6_meanOf_24 i8 ?_
  have hu := Option.some.inj h
  exact W.dret (v := FP.ddiv (FP.i2d v4) (FP.i2d v6)) hx hb hr (fun t ht hW => ⟨congrArg (fun z => Outcome.returned (some (Value.double z))) hu, ht⟩) (fun q hq => absurd hq List.not_mem_nil) dX6_meanOf_25

def m_X6_mean (S : S_X6) (x1 : Int32) : Option (UInt64 × S_X6) := (m_X6_isCan x1).bind fun v1 => (if v1 = 0 then (some (FP.dconst0, s_X6_thrown S (1 : Int32))) else ((m_X6_meanOf (s_X6_thrown S (0 : Int32)) x1).bind fun v4 => (some (v4, s_X6_thrown S (0 : Int32)))))
set_option maxHeartbeats 4000000 in
set_option maxRecDepth 100000 in
theorem c_X6_mean (l : Launch) (dC : Nat → ClassId) (dI : Nat → Nat → Nat) (cI cF : ClassId) (a : Nat → Nat) (S : S_X6) (x1 : Int32) (u : UInt64 × S_X6) (h : m_X6_mean S x1 = some u) : cRW l (dC, dI) cI cF yX6_mean wsX6_mean ({ frames := 3, cells := 0, slots := 0, locals := 66 } : Room) [.ref (a 0), .int x1] (wX6 a cI cF S) (wX6 a cI cF u.2) (some (.double u.1)) := by
  intro sz
  refine Met.ofW (cc := cX6_mean) (maxL := 2) (ret := (some .double)) (by decide) rfl ?_
  intro p e s m args below meth c s₁ B hml hv
  obtain ⟨hargs, hsz, hP, hK, hD0⟩ := hv
  subst hargs
  have hx := B.exec
  have hb := B.bytes
  have hr := B.returns
  have hts := atoms_spec (ws := wsX6_mean) B.pre
  have hown : s.vm.findClass RX6 = some m.cls := findClass_of_methodNamed B.named
  have hlocks := B.notSynchronized
  have w158 := hts (.methodLink RX6 158 yX6_meanOf) (List.mem_of_getElem? (i := 9) rfl)
  have w25 := hts (.fieldLink RX6 25 "DrawnSliversModel" "thrown" "I") (List.mem_of_getElem? (i := 1) rfl)
  have w95 := hts (.methodLink RX6 95 yX6_isCan) (List.mem_of_getElem? (i := 2) rfl)
  have huX6 : ∀ w ∈ u_ws RX6 TX6 11, w.before _ s = true := fun w h => hts w (List.mem_cons_of_mem _ (List.mem_append_right _ (h)))
  subst hsz
  have hD := hD0.self (sz := s.heap.size)
  generalize hAe : va_A (wX6 a cI cF S) s.heap.size = A at hD ⊢
  have hA : ∀ q : Nat, s.heap.size ≤ q → A q := fun q h => by rw [← hAe]; exact Or.inr h
  have hS : va_S A s.heap s.heap [] := va_S.rf
  have hl := lv_entry ([.ref (a 0), .int x1]) (n := 2) (Nat.le_of_ble_eq_true rfl)
  rw [lg_entry_eq]
  generalize (lg_sl ([.ref (a 0), .int x1]) ++ List.replicate (2 - (lg_sl ([.ref (a 0), .int x1])).length) Slot.unset).toArray = ls at hl ⊢
  have hl : lv_has ls 2 [(0, .ref (a 0)), (1, .int x1)] := hl
  rw [m_X6_mean] at h
  refine lv_aload_n hx hb dX6_mean_0 rfl (lv_at hl 0 rfl) ?_
  refine lv_iconst (v := (0 : Int32)) hx hb dX6_mean_1 (by decide) ?_
  refine va_put (D := (dC, dI)) (ci := 6) (v := .int (0 : Int32)) (ty := .int) (C := RX6) (T := TX6) (N := 11) hx hb huX6 (fun _ h9 => h9) tyX6 tyX6_ok nmX6 hown hK hP hD hS 0 rfl rfl 8 (by decide) w25 (fun _ h9 => h9) rfl (by decide +kernel) rfl rfl (Nat.le_of_ble_eq_true rfl) dX6_mean_2 (fun H locs hP hD hS => ?_)
  have hP : va_P (dC, dI) vwCl (wX6 a cI cF (s_X6_thrown S (0 : Int32))) H := hP
  have hD : va_D A (wX6 a cI cF (s_X6_thrown S (0 : Int32))) := hD
  refine lv_iload_n hx hb dX6_mean_5 rfl (lv_at hl 1 rfl) ?_
  obtain ⟨v1, g2, h⟩ := o_b h
  refine k_ro (va_runS (As := [.int x1]) (rest := []) ⟨hx, hb, hml, hown, hts⟩ (c_X6_isCan l dC dI cI cF x1 v1 g2) (va_cwS 1 hts gX6_mean_X6_isCan rfl rfl rfl (by decide +kernel) ⟨Nat.le_of_ble_eq_true rfl, Nat.le_of_ble_eq_true rfl⟩) (k_prePU) rfl rfl hl.1 rfl (lv_room (Nat.le_of_ble_eq_true rfl)) dX6_mean_6 ⟨Nat.zero_le _, Nat.zero_le _⟩) (st1 := [.int v1]) rfl ?_
  refine lv_if_ne (tgt := 19) hx hb dX6_mean_9 (by decide) (fun c3 => ?_) (fun c3 => ?_)
  · have h := o_f h c3
    refine lv_aload_n hx hb dX6_mean_19 rfl (lv_at hl 0 rfl) ?_
    refine lv_iload_n hx hb dX6_mean_20 rfl (lv_at hl 1 rfl) ?_
    obtain ⟨v4, g5, h⟩ := o_b h
    refine k_ro (va_runV (As := [.int x1]) (rest := []) ⟨hx, hb, hml, hown, hts⟩ (c_X6_meanOf l dC dI cI cF a (s_X6_thrown S (0 : Int32)) x1 v4 g5) (cwV 1 hts gX6_mean_X6_meanOf rfl rfl rfl (by decide +kernel) ⟨Nat.le_of_ble_eq_true rfl, Nat.le_of_ble_eq_true rfl⟩) (k_preV (q0 := 0) (ci := 6) hK (hP.sub (ws' := wX6 a cI cF (s_X6_thrown S (0 : Int32))) [0, 1, 2, 3, 4, 5] rfl) rfl rfl rfl) rfl rfl hl.1 rfl (lv_room (Nat.le_of_ble_eq_true rfl)) dX6_mean_21 ⟨Nat.zero_le _, Nat.zero_le _⟩) (st1 := [.double v4]) rfl ?_
    have hu := Option.some.inj h
    exact W.dret (v := v4) hx hb hr (fun t ht hW => ⟨⟨congrArg (fun z => Outcome.returned (some (Value.double z.1))) hu, by rw [ht, ← hu]; exact hP⟩, hS.F ht⟩) hS.2.2 dX6_mean_24
  have h := o_t h c3
  refine lv_aload_n hx hb dX6_mean_12 rfl (lv_at hl 0 rfl) ?_
  refine lv_iconst (v := (1 : Int32)) hx hb dX6_mean_13 (by decide) ?_
  refine va_put (D := (dC, dI)) (ci := 6) (v := .int (1 : Int32)) (ty := .int) (C := RX6) (T := TX6) (N := 11) hx hb huX6 (fun _ h9 => h9) tyX6 tyX6_ok nmX6 hown hK hP hD hS 0 rfl rfl 8 (by decide) w25 (fun _ h9 => h9) rfl (by decide +kernel) rfl rfl (Nat.le_of_ble_eq_true rfl) dX6_mean_14 (fun H locs hP hD hS => ?_)
  have hP : va_P (dC, dI) vwCl (wX6 a cI cF (s_X6_thrown S (1 : Int32))) H := hP
  have hD : va_D A (wX6 a cI cF (s_X6_thrown S (1 : Int32))) := hD
  refine lv_dconst0 hx hb dX6_mean_17 ?_
  have hu := Option.some.inj h
  exact W.dret (v := FP.dconst0) hx hb hr (fun t ht hW => ⟨⟨congrArg (fun z => Outcome.returned (some (Value.double z.1))) hu, by rw [ht, ← hu]; exact hP⟩, hS.F ht⟩) hS.2.2 dX6_mean_18

def m_X6_wasted (S : S_X6) : Option (UInt32) := if ((g_X6_s S) (348 : Int32).toNatClampNeg) = 0 then (some FP.fconst0) else (if (FP.fdiv (FP.i2f ((g_X6_s S) (347 : Int32).toNatClampNeg)) (FP.i2f ((g_X6_s S) (348 : Int32).toNatClampNeg))) &&& 0x7fffffff ≤ 0x7f800000 then (some (FP.fdiv (FP.i2f ((g_X6_s S) (347 : Int32).toNatClampNeg)) (FP.i2f ((g_X6_s S) (348 : Int32).toNatClampNeg)))) else none)
set_option maxHeartbeats 4000000 in
set_option maxRecDepth 100000 in
theorem c_X6_wasted (l : Launch) (dC : Nat → ClassId) (dI : Nat → Nat → Nat) (cI cF : ClassId) (a : Nat → Nat) (S : S_X6) (u : UInt32) (h : m_X6_wasted S = some u) : cRO l (dC, dI) cI cF yX6_wasted wsX6_wasted ({ frames := 0, cells := 0, slots := 0, locals := 0 } : Room) [.ref (a 0)] (wX6 a cI cF S) (some (.float u)) := by
  refine Met.ofW (cc := cX6_wasted) (maxL := 1) (ret := (some .float)) (by decide) rfl ?_
  intro p e s m args below meth c s₁ B hml hv
  obtain ⟨hargs, hP, hK⟩ := hv
  subst hargs
  have hx := B.exec
  have hb := B.bytes
  have hr := B.returns
  have hts := atoms_spec (ws := wsX6_wasted) B.pre
  have hown : s.vm.findClass RX6 = some m.cls := findClass_of_methodNamed B.named
  have hlocks := B.notSynchronized
  have w7 := hts (.fieldLink RX6 7 "DrawnSliversModel" "s" "[I") (List.mem_of_getElem? (i := 1) rfl)
  have huX6 : ∀ w ∈ u_ws RX6 TX6 11, w.before _ s = true := fun w h => hts w (List.mem_cons_of_mem _ (List.mem_append_right _ (h)))
  have hl := lv_entry ([.ref (a 0)]) (n := 1) (Nat.le_of_ble_eq_true rfl)
  rw [lg_entry_eq]
  generalize (lg_sl ([.ref (a 0)]) ++ List.replicate (1 - (lg_sl ([.ref (a 0)])).length) Slot.unset).toArray = ls at hl ⊢
  have hl : lv_has ls 1 [(0, .ref (a 0))] := hl
  rw [m_X6_wasted] at h
  refine lv_aload_n hx hb dX6_wasted_0 rfl (lv_at hl 0 rfl) ?_
  refine va_get (D := (dC, dI)) (ci := 6) (v := .ref (a 1)) (C := RX6) (T := TX6) (N := 11) hx hb huX6 (fun _ h9 => h9) hown hK hP 0 rfl rfl 0 (by decide) w7 (fun _ h9 => h9) rfl dX6_wasted_1 ?_
  refine lv_sipush (v := (348 : Int32)) hx hb dX6_wasted_4 (by decide) ?_
  refine va_iald hx hb hK hP 1 0 rfl rfl (by unfold vp_in; decide) dX6_wasted_7 ?_
  refine lv_if_ne (tgt := 15) hx hb dX6_wasted_8 (by decide) (fun c1 => ?_) (fun c1 => ?_)
  rotate_left
  · have h := o_t h c1
    refine lv_fconst0 hx hb dX6_wasted_11 ?_
    refine lv_goto (tgt := 34) hx hb dX6_wasted_12 (by decide) ?_
    have hu := Option.some.inj h
    exact W.fret (v := FP.fconst0) hx hb hr (fun t ht hW => ⟨congrArg (fun z => Outcome.returned (some (Value.float z))) hu, ht⟩) (fun q hq => absurd hq List.not_mem_nil) dX6_wasted_34
  have h := o_f h c1
  refine lv_aload_n hx hb dX6_wasted_15 rfl (lv_at hl 0 rfl) ?_
  refine va_get (D := (dC, dI)) (ci := 6) (v := .ref (a 1)) (C := RX6) (T := TX6) (N := 11) hx hb huX6 (fun _ h9 => h9) hown hK hP 0 rfl rfl 0 (by decide) w7 (fun _ h9 => h9) rfl dX6_wasted_16 ?_
  refine lv_sipush (v := (347 : Int32)) hx hb dX6_wasted_19 (by decide) ?_
  refine va_iald hx hb hK hP 1 0 rfl rfl (by unfold vp_in; decide) dX6_wasted_22 ?_
  refine lv_i2f hx hb dX6_wasted_23 ?_
  refine lv_aload_n hx hb dX6_wasted_24 rfl (lv_at hl 0 rfl) ?_
  refine va_get (D := (dC, dI)) (ci := 6) (v := .ref (a 1)) (C := RX6) (T := TX6) (N := 11) hx hb huX6 (fun _ h9 => h9) hown hK hP 0 rfl rfl 0 (by decide) w7 (fun _ h9 => h9) rfl dX6_wasted_25 ?_
  refine lv_sipush (v := (348 : Int32)) hx hb dX6_wasted_28 (by decide) ?_
  refine va_iald hx hb hK hP 1 0 rfl rfl (by unfold vp_in; decide) dX6_wasted_31 ?_
  refine lv_i2f hx hb dX6_wasted_32 ?_
  obtain ⟨i2, h⟩ := o_ok h
  refine lv_fdiv hx hb dX6_wasted_33 i2 ?_
  have hu := Option.some.inj h
  exact W.fret (v := FP.fdiv (FP.i2f ((g_X6_s S) (347 : Int32).toNatClampNeg)) (FP.i2f ((g_X6_s S) (348 : Int32).toNatClampNeg))) hx hb hr (fun t ht hW => ⟨congrArg (fun z => Outcome.returned (some (Value.float z))) hu, ht⟩) (fun q hq => absurd hq List.not_mem_nil) dX6_wasted_34

def m_X6_wasteShare (S : S_X6) : Option (UInt32 × S_X6) := (m_X6_wasted (s_X6_thrown S (0 : Int32))).bind fun v1 => (some (v1, s_X6_thrown S (0 : Int32)))
set_option maxHeartbeats 4000000 in
set_option maxRecDepth 100000 in
theorem c_X6_wasteShare (l : Launch) (dC : Nat → ClassId) (dI : Nat → Nat → Nat) (cI cF : ClassId) (a : Nat → Nat) (S : S_X6) (u : UInt32 × S_X6) (h : m_X6_wasteShare S = some u) : cRW l (dC, dI) cI cF yX6_wasteShare wsX6_wasteShare ({ frames := 1, cells := 0, slots := 0, locals := 20 } : Room) [.ref (a 0)] (wX6 a cI cF S) (wX6 a cI cF u.2) (some (.float u.1)) := by
  intro sz
  refine Met.ofW (cc := cX6_wasteShare) (maxL := 1) (ret := (some .float)) (by decide) rfl ?_
  intro p e s m args below meth c s₁ B hml hv
  obtain ⟨hargs, hsz, hP, hK, hD0⟩ := hv
  subst hargs
  have hx := B.exec
  have hb := B.bytes
  have hr := B.returns
  have hts := atoms_spec (ws := wsX6_wasteShare) B.pre
  have hown : s.vm.findClass RX6 = some m.cls := findClass_of_methodNamed B.named
  have hlocks := B.notSynchronized
  have w162 := hts (.methodLink RX6 162 yX6_wasted) (List.mem_of_getElem? (i := 2) rfl)
  have w25 := hts (.fieldLink RX6 25 "DrawnSliversModel" "thrown" "I") (List.mem_of_getElem? (i := 1) rfl)
  have huX6 : ∀ w ∈ u_ws RX6 TX6 11, w.before _ s = true := fun w h => hts w (List.mem_cons_of_mem _ (List.mem_append_right _ (h)))
  subst hsz
  have hD := hD0.self (sz := s.heap.size)
  generalize hAe : va_A (wX6 a cI cF S) s.heap.size = A at hD ⊢
  have hA : ∀ q : Nat, s.heap.size ≤ q → A q := fun q h => by rw [← hAe]; exact Or.inr h
  have hS : va_S A s.heap s.heap [] := va_S.rf
  have hl := lv_entry ([.ref (a 0)]) (n := 1) (Nat.le_of_ble_eq_true rfl)
  rw [lg_entry_eq]
  generalize (lg_sl ([.ref (a 0)]) ++ List.replicate (1 - (lg_sl ([.ref (a 0)])).length) Slot.unset).toArray = ls at hl ⊢
  have hl : lv_has ls 1 [(0, .ref (a 0))] := hl
  rw [m_X6_wasteShare] at h
  refine lv_aload_n hx hb dX6_wasteShare_0 rfl (lv_at hl 0 rfl) ?_
  refine lv_iconst (v := (0 : Int32)) hx hb dX6_wasteShare_1 (by decide) ?_
  refine va_put (D := (dC, dI)) (ci := 6) (v := .int (0 : Int32)) (ty := .int) (C := RX6) (T := TX6) (N := 11) hx hb huX6 (fun _ h9 => h9) tyX6 tyX6_ok nmX6 hown hK hP hD hS 0 rfl rfl 8 (by decide) w25 (fun _ h9 => h9) rfl (by decide +kernel) rfl rfl (Nat.le_of_ble_eq_true rfl) dX6_wasteShare_2 (fun H locs hP hD hS => ?_)
  have hP : va_P (dC, dI) vwCl (wX6 a cI cF (s_X6_thrown S (0 : Int32))) H := hP
  have hD : va_D A (wX6 a cI cF (s_X6_thrown S (0 : Int32))) := hD
  refine lv_aload_n hx hb dX6_wasteShare_5 rfl (lv_at hl 0 rfl) ?_
  obtain ⟨v1, g2, h⟩ := o_b h
  refine k_ro (va_runV (As := []) (rest := []) ⟨hx, hb, hml, hown, hts⟩ (c_X6_wasted l dC dI cI cF a (s_X6_thrown S (0 : Int32)) v1 g2) (cwV 0 hts gX6_wasteShare_X6_wasted rfl rfl rfl (by decide +kernel) ⟨Nat.le_of_ble_eq_true rfl, Nat.le_of_ble_eq_true rfl⟩) (k_preV (q0 := 0) (ci := 6) hK (hP.sub (ws' := wX6 a cI cF (s_X6_thrown S (0 : Int32))) [0, 1, 2, 3, 4, 5] rfl) rfl rfl rfl) rfl rfl hl.1 rfl (lv_room (Nat.le_of_ble_eq_true rfl)) dX6_wasteShare_6 ⟨Nat.zero_le _, Nat.zero_le _⟩) (st1 := [.float v1]) rfl ?_
  have hu := Option.some.inj h
  exact W.fret (v := v1) hx hb hr (fun t ht hW => ⟨⟨congrArg (fun z => Outcome.returned (some (Value.float z.1))) hu, by rw [ht, ← hu]; exact hP⟩, hS.F ht⟩) hS.2.2 dX6_wasteShare_9

