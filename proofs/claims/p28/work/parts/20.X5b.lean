-- X5_isValue X5_isRunLength X5_fill X5_tip X5_out X5_run X5_set X5_can X5_metre X5_setting
def m_X5_isValue (x0 : Int32) (x1 : Int32) : Option (Int32) := if x0 < 0 then (some (0 : Int32)) else (if (5 : Int32) ≤ x0 then (some (0 : Int32)) else (if (5 : Int32) ≤ x0 then (some (0 : Int32)) else (if x0 < 0 ∨ 5 ≤ x0.toNatClampNeg then none else (if x1 < (svn0 x0.toNatClampNeg) then (some (0 : Int32)) else (if x0 < 0 ∨ 5 ≤ x0.toNatClampNeg then none else (if (svn1 x0.toNatClampNeg) < x1 then (some (0 : Int32)) else (some (1 : Int32))))))))
set_option maxHeartbeats 4000000 in
set_option maxRecDepth 100000 in
theorem c_X5_isValue (l : Launch) (dC : Nat → ClassId) (dI : Nat → Nat → Nat) (cI cF : ClassId) (x0 : Int32) (x1 : Int32) (u : Int32) (h : m_X5_isValue x0 x1 = some u) : cPUe l yX5_isValue wsX5_isValue ({ frames := 0, cells := 0, slots := 0, locals := 0 } : Room) [.int x0, .int x1] (some (.int u)) := by
  refine Met.ofW (cc := cX5_isValue) (maxL := 2) (ret := (some .boolean)) (by decide) rfl ?_
  intro p e s m args below meth c s₁ B hml hv
  obtain ⟨hargs, hE⟩ := hv
  subst hargs
  have hx := B.exec
  have hb := B.bytes
  have hr := B.returns
  have hts := atoms_spec (ws := wsX5_isValue) B.pre
  have hown : s.vm.findClass RX5 = some m.cls := findClass_of_methodNamed B.named
  have hlocks := B.notSynchronized
  have w317 := hts (.fieldLink RX5 317 "DrawnSlivers" "LEAST_VALUE" "[I") (List.mem_of_getElem? (i := 1) rfl)
  have w321 := hts (.fieldLink RX5 321 "DrawnSlivers" "MOST_VALUE" "[I") (List.mem_of_getElem? (i := 2) rfl)
  obtain ⟨t0, t1, hZ0, hT0, hZ1, hT1⟩ := hE
  have hl := lv_entry ([.int x0, .int x1]) (n := 2) (Nat.le_of_ble_eq_true rfl)
  rw [lg_entry_eq]
  generalize (lg_sl ([.int x0, .int x1]) ++ List.replicate (2 - (lg_sl ([.int x0, .int x1])).length) Slot.unset).toArray = ls at hl ⊢
  have hl : lv_has ls 2 [(0, .int x0), (1, .int x1)] := hl
  rw [m_X5_isValue] at h
  refine lv_iload_n hx hb dX5_isValue_0 rfl (lv_at hl 0 rfl) ?_
  refine lv_if_lt (tgt := 42) hx hb dX5_isValue_1 (by decide) (fun c1 => ?_) (fun c1 => ?_)
  · have h := o_t h c1
    refine lv_iconst (v := (0 : Int32)) hx hb dX5_isValue_42 (by decide) ?_
    have hu := Option.some.inj h
    exact W.zret (v := (0 : Int32)) hx hb hr rfl (fun t ht hW => ⟨congrArg (fun z => Outcome.returned (some (Value.int z))) hu, ht⟩) (fun q hq => absurd hq List.not_mem_nil) dX5_isValue_43
  have h := o_f h c1
  refine lv_iload_n hx hb dX5_isValue_4 rfl (lv_at hl 0 rfl) ?_
  refine va_gets (C := RX5) (n := "LEAST_VALUE") (d := "[I") hx hb hZ0 va_S.rf hown w317 (fun _ h9 => h9) dX5_isValue_5 ?_
  refine va_tlen hx hb hT0 va_S.rf rfl dX5_isValue_8 ?_
  refine lv_icmp_ge (tgt := 42) hx hb dX5_isValue_9 (by decide) (fun c2 => ?_) (fun c2 => ?_)
  · have h := o_t h c2
    refine lv_iconst (v := (0 : Int32)) hx hb dX5_isValue_42 (by decide) ?_
    have hu := Option.some.inj h
    exact W.zret (v := (0 : Int32)) hx hb hr rfl (fun t ht hW => ⟨congrArg (fun z => Outcome.returned (some (Value.int z))) hu, ht⟩) (fun q hq => absurd hq List.not_mem_nil) dX5_isValue_43
  have h := o_f h c2
  refine lv_iload_n hx hb dX5_isValue_12 rfl (lv_at hl 0 rfl) ?_
  refine va_gets (C := RX5) (n := "MOST_VALUE") (d := "[I") hx hb hZ1 va_S.rf hown w321 (fun _ h9 => h9) dX5_isValue_13 ?_
  refine va_tlen hx hb hT1 va_S.rf rfl dX5_isValue_16 ?_
  refine lv_icmp_ge (tgt := 42) hx hb dX5_isValue_17 (by decide) (fun c3 => ?_) (fun c3 => ?_)
  · have h := o_t h c3
    refine lv_iconst (v := (0 : Int32)) hx hb dX5_isValue_42 (by decide) ?_
    have hu := Option.some.inj h
    exact W.zret (v := (0 : Int32)) hx hb hr rfl (fun t ht hW => ⟨congrArg (fun z => Outcome.returned (some (Value.int z))) hu, ht⟩) (fun q hq => absurd hq List.not_mem_nil) dX5_isValue_43
  have h := o_f h c3
  refine lv_iload_n hx hb dX5_isValue_20 rfl (lv_at hl 1 rfl) ?_
  refine va_gets (C := RX5) (n := "LEAST_VALUE") (d := "[I") hx hb hZ0 va_S.rf hown w317 (fun _ h9 => h9) dX5_isValue_21 ?_
  refine lv_iload_n hx hb dX5_isValue_24 rfl (lv_at hl 0 rfl) ?_
  obtain ⟨i4, h⟩ := o_in h
  refine va_ti hx hb hT0 va_S.rf i4 rfl dX5_isValue_25 ?_
  refine lv_icmp_lt (tgt := 42) hx hb dX5_isValue_26 (by decide) (fun c5 => ?_) (fun c5 => ?_)
  · have h := o_t h c5
    refine lv_iconst (v := (0 : Int32)) hx hb dX5_isValue_42 (by decide) ?_
    have hu := Option.some.inj h
    exact W.zret (v := (0 : Int32)) hx hb hr rfl (fun t ht hW => ⟨congrArg (fun z => Outcome.returned (some (Value.int z))) hu, ht⟩) (fun q hq => absurd hq List.not_mem_nil) dX5_isValue_43
  have h := o_f h c5
  refine lv_iload_n hx hb dX5_isValue_29 rfl (lv_at hl 1 rfl) ?_
  refine va_gets (C := RX5) (n := "MOST_VALUE") (d := "[I") hx hb hZ1 va_S.rf hown w321 (fun _ h9 => h9) dX5_isValue_30 ?_
  refine lv_iload_n hx hb dX5_isValue_33 rfl (lv_at hl 0 rfl) ?_
  obtain ⟨i6, h⟩ := o_in h
  refine va_ti hx hb hT1 va_S.rf i6 rfl dX5_isValue_34 ?_
  refine lv_icmp_gt (tgt := 42) hx hb dX5_isValue_35 (by decide) (fun c7 => ?_) (fun c7 => ?_)
  · have h := o_t h c7
    refine lv_iconst (v := (0 : Int32)) hx hb dX5_isValue_42 (by decide) ?_
    have hu := Option.some.inj h
    exact W.zret (v := (0 : Int32)) hx hb hr rfl (fun t ht hW => ⟨congrArg (fun z => Outcome.returned (some (Value.int z))) hu, ht⟩) (fun q hq => absurd hq List.not_mem_nil) dX5_isValue_43
  have h := o_f h c7
  refine lv_iconst (v := (1 : Int32)) hx hb dX5_isValue_38 (by decide) ?_
  refine lv_goto (tgt := 43) hx hb dX5_isValue_39 (by decide) ?_
  have hu := Option.some.inj h
  exact W.zret (v := (1 : Int32)) hx hb hr rfl (fun t ht hW => ⟨congrArg (fun z => Outcome.returned (some (Value.int z))) hu, ht⟩) (fun q hq => absurd hq List.not_mem_nil) dX5_isValue_43

def m_X5_isRunLength (x0 : Int32) : Option (Int32) := if x0 < (1 : Int32) then (some (0 : Int32)) else (if (40 : Int32) < x0 then (some (0 : Int32)) else (some (1 : Int32)))
set_option maxHeartbeats 4000000 in
set_option maxRecDepth 100000 in
theorem c_X5_isRunLength (l : Launch) (dC : Nat → ClassId) (dI : Nat → Nat → Nat) (cI cF : ClassId) (x0 : Int32) (u : Int32) (h : m_X5_isRunLength x0 = some u) : cPU l yX5_isRunLength wsX5_isRunLength ({ frames := 0, cells := 0, slots := 0, locals := 0 } : Room) [.int x0] (some (.int u)) := by
  refine Met.ofW (cc := cX5_isRunLength) (maxL := 1) (ret := (some .boolean)) (by decide) rfl ?_
  intro p e s m args below meth c s₁ B hml hv
  obtain ⟨hargs, -⟩ := hv
  subst hargs
  have hx := B.exec
  have hb := B.bytes
  have hr := B.returns
  have hts := atoms_spec (ws := wsX5_isRunLength) B.pre
  have hown : s.vm.findClass RX5 = some m.cls := findClass_of_methodNamed B.named
  have hlocks := B.notSynchronized
  have hl := lv_entry ([.int x0]) (n := 1) (Nat.le_of_ble_eq_true rfl)
  rw [lg_entry_eq]
  generalize (lg_sl ([.int x0]) ++ List.replicate (1 - (lg_sl ([.int x0])).length) Slot.unset).toArray = ls at hl ⊢
  have hl : lv_has ls 1 [(0, .int x0)] := hl
  rw [m_X5_isRunLength] at h
  refine lv_iload_n hx hb dX5_isRunLength_0 rfl (lv_at hl 0 rfl) ?_
  refine lv_iconst (v := (1 : Int32)) hx hb dX5_isRunLength_1 (by decide) ?_
  refine lv_icmp_lt (tgt := 15) hx hb dX5_isRunLength_2 (by decide) (fun c1 => ?_) (fun c1 => ?_)
  · have h := o_t h c1
    refine lv_iconst (v := (0 : Int32)) hx hb dX5_isRunLength_15 (by decide) ?_
    have hu := Option.some.inj h
    exact W.zret (v := (0 : Int32)) hx hb hr rfl (fun t ht hW => ⟨congrArg (fun z => Outcome.returned (some (Value.int z))) hu, ht⟩) (fun q hq => absurd hq List.not_mem_nil) dX5_isRunLength_16
  have h := o_f h c1
  refine lv_iload_n hx hb dX5_isRunLength_5 rfl (lv_at hl 0 rfl) ?_
  refine lv_bipush (v := (40 : Int32)) hx hb dX5_isRunLength_6 (by decide) ?_
  refine lv_icmp_gt (tgt := 15) hx hb dX5_isRunLength_8 (by decide) (fun c2 => ?_) (fun c2 => ?_)
  · have h := o_t h c2
    refine lv_iconst (v := (0 : Int32)) hx hb dX5_isRunLength_15 (by decide) ?_
    have hu := Option.some.inj h
    exact W.zret (v := (0 : Int32)) hx hb hr rfl (fun t ht hW => ⟨congrArg (fun z => Outcome.returned (some (Value.int z))) hu, ht⟩) (fun q hq => absurd hq List.not_mem_nil) dX5_isRunLength_16
  have h := o_f h c2
  refine lv_iconst (v := (1 : Int32)) hx hb dX5_isRunLength_11 (by decide) ?_
  refine lv_goto (tgt := 16) hx hb dX5_isRunLength_12 (by decide) ?_
  have hu := Option.some.inj h
  exact W.zret (v := (1 : Int32)) hx hb hr rfl (fun t ht hW => ⟨congrArg (fun z => Outcome.returned (some (Value.int z))) hu, ht⟩) (fun q hq => absurd hq List.not_mem_nil) dX5_isRunLength_16

def m_X5_fill_L127 (y1 : Int32) (S : S_X5) : Option ((Nat × S_X5) ⊕ (Int32 × S_X5)) := (m_X4_wipe (g_X5_text S)).bind fun v17 => ((m_X0_sizeOf (g_X2_cans (g_X5_frame S)) y1).bind fun v19 => (some (.inr (v19, s_X5_text S v17))))
def m_X5_fill_L92 : Nat → Int32 → Int32 → Int32 → S_X5 → Option ((Nat × S_X5) ⊕ (Int32 × S_X5))
  | 0, _, _, _, _ => none
  | n + 1, y1, y2, y3, S => if y2 ≤ y3 then (m_X5_fill_L127 y1 S) else ((m_X4_partWeight (g_X5_text S) y3).bind fun v21 => ((m_X4_partTimes (g_X5_text S) y3).bind fun v23 => ((m_X2_pour (g_X5_frame S) y1 v21 v23).bind fun v25 => (nmL (y3 + 1) fun x3_27 => ((m_X5_fill_L92 n) y1 y2 x3_27 (s_X5_frame S v25))))))
def m_X5_fill (S : S_X5) (x1 : Int32) : Option ((Nat × S_X5) ⊕ (Int32 × S_X5)) := (m_X5_isCan x1).bind fun v1 => (if v1 = 0 then (some (.inl (1, S))) else ((m_X4_readWhole (g_X5_text S)).bind fun v4 => (if v4.1 = 0 then (some (.inl (2, s_X5_text S v4.2))) else ((m_X0_sizeOf (g_X2_cans (g_X5_frame S)) x1).bind fun v7 => ((m_X4_metresTold v4.2).bind fun v9 => (if (v7 + v9) ≤ (40 : Int32) then ((m_X3_save (g_X5_history S) (g_X5_frame S)).bind fun v12 => ((m_X4_partCount v4.2).bind fun v14 => (m_X5_fill_L92 4000 x1 v14 (0 : Int32) (s_X5_text (s_X5_history S v12) v4.2)))) else (some (.inl (3, s_X5_text S v4.2)))))))))
set_option maxHeartbeats 4000000 in
set_option maxRecDepth 100000 in
theorem c_X5_fill (l : Launch) (dC : Nat → ClassId) (dI : Nat → Nat → Nat) (cI cF : ClassId) (a : Nat → Nat) (S : S_X5) (x1 : Int32) (u : Int32 × S_X5) (h : m_X5_fill S x1 = some (.inr u)) : cRW l (dC, dI) cI cF yX5_fill wsX5_fill ({ frames := 5, cells := 0, slots := 0, locals := 124 } : Room) [.ref (a 0), .int x1] (wX5 a cI cF S) (wX5 a cI cF u.2) (some (.int u.1)) := by
  intro sz
  refine Met.ofW (cc := cX5_fill) (maxL := 4) (ret := (some .int)) (by decide) rfl ?_
  intro p e s m args below meth c s₁ B hml hv
  obtain ⟨hargs, hsz, hP, hK, hD0⟩ := hv
  subst hargs
  have hx := B.exec
  have hb := B.bytes
  have hr := B.returns
  have hts := atoms_spec (ws := wsX5_fill) B.pre
  have hown : s.vm.findClass RX5 = some m.cls := findClass_of_methodNamed B.named
  have hlocks := B.notSynchronized
  have w10 := hts (.fieldLink RX5 10 "DrawnSlivers" "frame" "LDrawnSlivers$Frame;") (List.mem_of_getElem? (i := 8) rfl)
  have w25 := hts (.fieldLink RX5 25 "DrawnSlivers" "history" "LDrawnSlivers$History;") (List.mem_of_getElem? (i := 10) rfl)
  have w32 := hts (.fieldLink RX5 32 "DrawnSlivers" "text" "LDrawnSlivers$SliverText;") (List.mem_of_getElem? (i := 7) rfl)
  have w40 := hts (.methodLink RX5 40 yX5_isCan) (List.mem_of_getElem? (i := 11) rfl)
  have w51 := hts (.methodLink RX5 51 yX4_readWhole) (List.mem_of_getElem? (i := 15) rfl)
  have w60 := hts (.fieldLink RX5 60 "DrawnSlivers$Frame" "cans" "LDrawnSlivers$Cans;") (List.mem_of_getElem? (i := 9) rfl)
  have w64 := hts (.methodLink RX5 64 yX0_sizeOf) (List.mem_of_getElem? (i := 65) rfl)
  have w70 := hts (.methodLink RX5 70 yX4_metresTold) (List.mem_of_getElem? (i := 71) rfl)
  have w79 := hts (.methodLink RX5 79 yX3_save) (List.mem_of_getElem? (i := 79) rfl)
  have w83 := hts (.methodLink RX5 83 yX4_partCount) (List.mem_of_getElem? (i := 132) rfl)
  have w86 := hts (.methodLink RX5 86 yX4_partWeight) (List.mem_of_getElem? (i := 136) rfl)
  have w89 := hts (.methodLink RX5 89 yX4_partTimes) (List.mem_of_getElem? (i := 140) rfl)
  have w92 := hts (.methodLink RX5 92 yX2_pour) (List.mem_of_getElem? (i := 141) rfl)
  have w96 := hts (.methodLink RX5 96 yX4_wipe) (List.mem_of_getElem? (i := 150) rfl)
  have huX2 : ∀ w ∈ u_ws RX2 TX2 12, w.before _ s = true := fun w h => hts w (List.mem_cons_of_mem _ (List.mem_append_left _ (List.mem_append_left _ (List.mem_append_left _ (List.mem_append_left _ (List.mem_append_left _ (List.mem_append_left _ (List.mem_append_left _ (List.mem_append_right _ (h))))))))))
  have huX5 : ∀ w ∈ u_ws RX5 TX5 6, w.before _ s = true := fun w h => hts w (List.mem_cons_of_mem _ (List.mem_append_left _ (List.mem_append_left _ (List.mem_append_left _ (List.mem_append_left _ (List.mem_append_left _ (List.mem_append_left _ (List.mem_append_left _ (List.mem_append_left _ (List.mem_append_right _ (h)))))))))))
  subst hsz
  have hD := hD0.self (sz := s.heap.size)
  generalize hAe : va_A (wX5 a cI cF S) s.heap.size = A at hD ⊢
  have hA : ∀ q : Nat, s.heap.size ≤ q → A q := fun q h => by rw [← hAe]; exact Or.inr h
  have hS : va_S A s.heap s.heap [] := va_S.rf
  have L127 : ∀ (y1 : Int32) (S : S_X5), m_X5_fill_L127 y1 S = some (.inr u) → ∀ (H : Heap) (locs : List Loc), va_P (dC, dI) vwCl (wX5 a cI cF S) H → va_D A (wX5 a cI cF S) → va_S A s.heap H locs → ∀ (ls : Array Slot), lv_has ls 4 [(0, .ref (a 0)), (1, .int y1)] → W p l e (headSpec wsX5_fill ({ frames := 5, cells := 0, slots := 0, locals := 124 } : Room)).room s m ([.ref (a 0), .int x1] : List Value).toArray below meth c H locs 0 0 (MQ below (qRW (dC, dI) (wX5 a cI cF u.2) (some (.int u.1)) A) ([.ref (a 0), .int x1] : List Value).toArray s 0 0 A) (F0 m 127 ls []) := by
    intro  y1 S h H locs hP hD hS ls hl
    rw [m_X5_fill_L127] at h
    refine lv_aload_n hx hb dX5_fill_127 rfl (lv_at hl 0 rfl) ?_
    refine va_get (D := (dC, dI)) (ci := 5) (v := .ref (a 22)) (C := RX5) (T := TX5) (N := 6) hx hb huX5 (fun _ h9 => h9) hown hK hP 0 rfl rfl 4 (by decide) w32 (fun _ h9 => h9) rfl dX5_fill_128 ?_
    obtain ⟨v17, g18, h⟩ := o_b h
    refine k_rwL (va_runV (As := []) (rest := []) ⟨hx, hb, hml, hown, hts⟩ (c_X4_wipe l dC dI cI cF (fun i => a (i + 22)) (g_X5_text S) v17 g18 H.size) (cwV 0 hts gX5_fill_X4_wipe rfl rfl rfl (by decide +kernel) ⟨Nat.le_of_ble_eq_true rfl, Nat.le_of_ble_eq_true rfl⟩) (k_preLw (q0 := 0) (ci := 4) hK hP hD (LX5_text a cI cF S v17 (LN_id (fX4 (fun i => a (i + 22)) cI cF (g_X5_text S) v17))) rfl rfl rfl) rfl rfl hl.1 rfl (lv_room (Nat.le_of_ble_eq_true rfl)) dX5_fill_131 ⟨Nat.zero_le _, Nat.zero_le _⟩) (st1 := []) rfl hP hD hS hA (wn := wX5 a cI cF (s_X5_text S v17)) (LX5_text a cI cF S v17 (LN_id (fX4 (fun i => a (i + 22)) cI cF (g_X5_text S) v17))) (fun H locs hP hD hS => ?_)
    refine lv_aload_n hx hb dX5_fill_134 rfl (lv_at hl 0 rfl) ?_
    refine va_get (D := (dC, dI)) (ci := 5) (v := .ref (a 1)) (C := RX5) (T := TX5) (N := 6) hx hb huX5 (fun _ h9 => h9) hown hK hP 0 rfl rfl 0 (by decide) w10 (fun _ h9 => h9) rfl dX5_fill_135 ?_
    refine va_get (D := (dC, dI)) (ci := 2) (v := .ref (a 2)) (C := RX2) (T := TX2) (N := 12) hx hb huX2 (fun _ h9 => h9) hown hK hP 1 rfl rfl 0 (by decide) w60 (fun _ h9 => h9) rfl dX5_fill_138 ?_
    refine lv_iload_n hx hb dX5_fill_141 rfl (lv_at hl 1 rfl) ?_
    obtain ⟨v19, g20, h⟩ := o_b h
    refine k_ro (va_runV (As := [.int y1]) (rest := []) ⟨hx, hb, hml, hown, hts⟩ (c_X0_sizeOf l dC dI cI cF (fun i => a (i + 2)) (g_X2_cans (g_X5_frame S)) y1 v19 g20) (cwV 1 hts gX5_fill_X0_sizeOf rfl rfl rfl (by decide +kernel) ⟨Nat.le_of_ble_eq_true rfl, Nat.le_of_ble_eq_true rfl⟩) (k_preL (q0 := 0) (ci := 0) hK hP (LX5_frame a cI cF (s_X5_text S v17) (s_X2_cans (g_X5_frame S) (g_X2_cans (g_X5_frame S))) (LX2_cans (fun i => a (i + 1)) cI cF (g_X5_frame S) (g_X2_cans (g_X5_frame S)) (LN_id (fX0 (fun i => a (i + 2)) cI cF (g_X2_cans (g_X5_frame S)) (g_X2_cans (g_X5_frame S)))))) rfl rfl rfl) rfl rfl hl.1 rfl (lv_room (Nat.le_of_ble_eq_true rfl)) dX5_fill_142 ⟨Nat.zero_le _, Nat.zero_le _⟩) (st1 := [.int v19]) rfl ?_
    have hu := Sum.inr.inj (Option.some.inj h)
    exact W.iret (v := v19) hx hb hr (fun t ht hW => ⟨⟨congrArg (fun z => Outcome.returned (some (Value.int z.1))) hu, by rw [ht, ← hu]; exact hP⟩, hS.F ht⟩) hS.2.2 dX5_fill_145
  have L92 : ∀ (n : Nat), ∀ (y1 : Int32) (y2 : Int32) (y3 : Int32) (S : S_X5), m_X5_fill_L92 n y1 y2 y3 S = some (.inr u) → ∀ (H : Heap) (locs : List Loc), va_P (dC, dI) vwCl (wX5 a cI cF S) H → va_D A (wX5 a cI cF S) → va_S A s.heap H locs → ∀ (ls : Array Slot), lv_has ls 4 [(0, .ref (a 0)), (1, .int y1), (2, .int y2), (3, .int y3)] → W p l e (headSpec wsX5_fill ({ frames := 5, cells := 0, slots := 0, locals := 124 } : Room)).room s m ([.ref (a 0), .int x1] : List Value).toArray below meth c H locs 0 0 (MQ below (qRW (dC, dI) (wX5 a cI cF u.2) (some (.int u.1)) A) ([.ref (a 0), .int x1] : List Value).toArray s 0 0 A) (F0 m 92 ls []) := by
    intro  n
    induction n with
    | zero =>
      intro y1 y2 y3 S h
      exact (o_0 h).elim
    | succ n ih92 =>
      intro y1 y2 y3 S h H locs hP hD hS ls hl
      rw [m_X5_fill_L92] at h
      refine lv_iload_n hx hb dX5_fill_92 rfl (lv_at hl 3 rfl) ?_
      refine lv_iload_n hx hb dX5_fill_93 rfl (lv_at hl 2 rfl) ?_
      refine lv_icmp_ge (tgt := 127) hx hb dX5_fill_94 (by decide) (fun c16 => ?_) (fun c16 => ?_)
      · have h := o_t h c16
        exact L127 _ _ h _ _ hP hD hS _ (lv_sub hl [0, 1] rfl)
      have h := o_f h c16
      refine lv_aload_n hx hb dX5_fill_97 rfl (lv_at hl 0 rfl) ?_
      refine va_get (D := (dC, dI)) (ci := 5) (v := .ref (a 1)) (C := RX5) (T := TX5) (N := 6) hx hb huX5 (fun _ h9 => h9) hown hK hP 0 rfl rfl 0 (by decide) w10 (fun _ h9 => h9) rfl dX5_fill_98 ?_
      refine lv_iload_n hx hb dX5_fill_101 rfl (lv_at hl 1 rfl) ?_
      refine lv_aload_n hx hb dX5_fill_102 rfl (lv_at hl 0 rfl) ?_
      refine va_get (D := (dC, dI)) (ci := 5) (v := .ref (a 22)) (C := RX5) (T := TX5) (N := 6) hx hb huX5 (fun _ h9 => h9) hown hK hP 0 rfl rfl 4 (by decide) w32 (fun _ h9 => h9) rfl dX5_fill_103 ?_
      refine lv_iload_n hx hb dX5_fill_106 rfl (lv_at hl 3 rfl) ?_
      obtain ⟨v21, g22, h⟩ := o_b h
      refine k_ro (va_runV (As := [.int y3]) (rest := [.int y1, .ref (a 1)]) ⟨hx, hb, hml, hown, hts⟩ (c_X4_partWeight l dC dI cI cF (fun i => a (i + 22)) (g_X5_text S) y3 v21 g22) (cwV 1 hts gX5_fill_X4_partWeight rfl rfl rfl (by decide +kernel) ⟨Nat.le_of_ble_eq_true rfl, Nat.le_of_ble_eq_true rfl⟩) (k_preL (q0 := 0) (ci := 4) hK hP (LX5_text a cI cF S (g_X5_text S) (LN_id (fX4 (fun i => a (i + 22)) cI cF (g_X5_text S) (g_X5_text S)))) rfl rfl rfl) rfl rfl hl.1 rfl (lv_room (Nat.le_of_ble_eq_true rfl)) dX5_fill_107 ⟨Nat.zero_le _, Nat.zero_le _⟩) (st1 := [.int v21, .int y1, .ref (a 1)]) rfl ?_
      refine lv_aload_n hx hb dX5_fill_110 rfl (lv_at hl 0 rfl) ?_
      refine va_get (D := (dC, dI)) (ci := 5) (v := .ref (a 22)) (C := RX5) (T := TX5) (N := 6) hx hb huX5 (fun _ h9 => h9) hown hK hP 0 rfl rfl 4 (by decide) w32 (fun _ h9 => h9) rfl dX5_fill_111 ?_
      refine lv_iload_n hx hb dX5_fill_114 rfl (lv_at hl 3 rfl) ?_
      obtain ⟨v23, g24, h⟩ := o_b h
      refine k_ro (va_runV (As := [.int y3]) (rest := [.int v21, .int y1, .ref (a 1)]) ⟨hx, hb, hml, hown, hts⟩ (c_X4_partTimes l dC dI cI cF (fun i => a (i + 22)) (g_X5_text S) y3 v23 g24) (cwV 1 hts gX5_fill_X4_partTimes rfl rfl rfl (by decide +kernel) ⟨Nat.le_of_ble_eq_true rfl, Nat.le_of_ble_eq_true rfl⟩) (k_preL (q0 := 0) (ci := 4) hK hP (LX5_text a cI cF S (g_X5_text S) (LN_id (fX4 (fun i => a (i + 22)) cI cF (g_X5_text S) (g_X5_text S)))) rfl rfl rfl) rfl rfl hl.1 rfl (lv_room (Nat.le_of_ble_eq_true rfl)) dX5_fill_115 ⟨Nat.zero_le _, Nat.zero_le _⟩) (st1 := [.int v23, .int v21, .int y1, .ref (a 1)]) rfl ?_
      obtain ⟨v25, g26, h⟩ := o_b h
      refine k_rwL (va_runV (As := [.int y1, .int v21, .int v23]) (rest := []) ⟨hx, hb, hml, hown, hts⟩ (c_X2_pour l dC dI cI cF (fun i => a (i + 1)) (g_X5_frame S) y1 v21 v23 v25 g26 H.size) (cwV 3 hts gX5_fill_X2_pour rfl rfl rfl (by decide +kernel) ⟨Nat.le_of_ble_eq_true rfl, Nat.le_of_ble_eq_true rfl⟩) (k_preLw (q0 := 0) (ci := 2) hK hP hD (LX5_frame a cI cF S v25 (LN_id (fX2 (fun i => a (i + 1)) cI cF (g_X5_frame S) v25))) rfl rfl rfl) rfl rfl hl.1 rfl (lv_room (Nat.le_of_ble_eq_true rfl)) dX5_fill_118 ⟨Nat.zero_le _, Nat.zero_le _⟩) (st1 := []) rfl hP hD hS hA (wn := wX5 a cI cF (s_X5_frame S v25)) (LX5_frame a cI cF S v25 (LN_id (fX2 (fun i => a (i + 1)) cI cF (g_X5_frame S) v25))) (fun H locs hP hD hS => ?_)
      obtain ⟨x3_27, e28, h⟩ := o_n h
      refine lv_iinc (v := x3_27) (lv' := [(3, .int x3_27), (0, .ref (a 0)), (1, .int y1), (2, .int y2)]) hx hb dX5_fill_121 hl (k := 3) rfl (by rw [e28]; rfl) (by decide) rfl (fun ls hl => ?_)
      refine lv_goto (tgt := 92) hx hb dX5_fill_124 (by decide) ?_
      exact ih92 _ _ _ _ h _ _ hP hD hS _ (lv_sub hl [1, 2, 3, 0] rfl)
  have hl := lv_entry ([.ref (a 0), .int x1]) (n := 4) (Nat.le_of_ble_eq_true rfl)
  rw [lg_entry_eq]
  generalize (lg_sl ([.ref (a 0), .int x1]) ++ List.replicate (4 - (lg_sl ([.ref (a 0), .int x1])).length) Slot.unset).toArray = ls at hl ⊢
  have hl : lv_has ls 4 [(0, .ref (a 0)), (1, .int x1)] := hl
  rw [m_X5_fill] at h
  refine lv_iload_n hx hb dX5_fill_0 rfl (lv_at hl 1 rfl) ?_
  obtain ⟨v1, g2, h⟩ := o_b h
  refine k_ro (va_runS (As := [.int x1]) (rest := []) ⟨hx, hb, hml, hown, hts⟩ (c_X5_isCan l dC dI cI cF x1 v1 g2) (va_cwS 1 hts gX5_fill_X5_isCan rfl rfl rfl (by decide +kernel) ⟨Nat.le_of_ble_eq_true rfl, Nat.le_of_ble_eq_true rfl⟩) (k_prePU) rfl rfl hl.1 rfl (lv_room (Nat.le_of_ble_eq_true rfl)) dX5_fill_1 ⟨Nat.zero_le _, Nat.zero_le _⟩) (st1 := [.int v1]) rfl ?_
  refine lv_if_ne (tgt := 17) hx hb dX5_fill_4 (by decide) (fun c3 => ?_) (fun c3 => ?_)
  rotate_left
  · have h := o_t h c3
    cases h
  have h := o_f h c3
  refine lv_aload_n hx hb dX5_fill_17 rfl (lv_at hl 0 rfl) ?_
  refine va_get (D := (dC, dI)) (ci := 5) (v := .ref (a 22)) (C := RX5) (T := TX5) (N := 6) hx hb huX5 (fun _ h9 => h9) hown hK hP 0 rfl rfl 4 (by decide) w32 (fun _ h9 => h9) rfl dX5_fill_18 ?_
  obtain ⟨v4, g5, h⟩ := o_b h
  refine k_rwL (va_runV (As := []) (rest := []) ⟨hx, hb, hml, hown, hts⟩ (c_X4_readWhole l dC dI cI cF (fun i => a (i + 22)) (g_X5_text S) v4 g5 s.heap.size) (cwV 0 hts gX5_fill_X4_readWhole rfl rfl rfl (by decide +kernel) ⟨Nat.le_of_ble_eq_true rfl, Nat.le_of_ble_eq_true rfl⟩) (k_preLw (q0 := 0) (ci := 4) hK hP hD (LX5_text a cI cF S v4.2 (LN_id (fX4 (fun i => a (i + 22)) cI cF (g_X5_text S) v4.2))) rfl rfl rfl) rfl rfl hl.1 rfl (lv_room (Nat.le_of_ble_eq_true rfl)) dX5_fill_21 ⟨Nat.zero_le _, Nat.zero_le _⟩) (st1 := [.int v4.1]) rfl hP hD hS hA (wn := wX5 a cI cF (s_X5_text S v4.2)) (LX5_text a cI cF S v4.2 (LN_id (fX4 (fun i => a (i + 22)) cI cF (g_X5_text S) v4.2))) (fun H locs hP hD hS => ?_)
  refine lv_if_ne (tgt := 37) hx hb dX5_fill_24 (by decide) (fun c6 => ?_) (fun c6 => ?_)
  rotate_left
  · have h := o_t h c6
    cases h
  have h := o_f h c6
  refine lv_aload_n hx hb dX5_fill_37 rfl (lv_at hl 0 rfl) ?_
  refine va_get (D := (dC, dI)) (ci := 5) (v := .ref (a 1)) (C := RX5) (T := TX5) (N := 6) hx hb huX5 (fun _ h9 => h9) hown hK hP 0 rfl rfl 0 (by decide) w10 (fun _ h9 => h9) rfl dX5_fill_38 ?_
  refine va_get (D := (dC, dI)) (ci := 2) (v := .ref (a 2)) (C := RX2) (T := TX2) (N := 12) hx hb huX2 (fun _ h9 => h9) hown hK hP 1 rfl rfl 0 (by decide) w60 (fun _ h9 => h9) rfl dX5_fill_41 ?_
  refine lv_iload_n hx hb dX5_fill_44 rfl (lv_at hl 1 rfl) ?_
  obtain ⟨v7, g8, h⟩ := o_b h
  refine k_ro (va_runV (As := [.int x1]) (rest := []) ⟨hx, hb, hml, hown, hts⟩ (c_X0_sizeOf l dC dI cI cF (fun i => a (i + 2)) (g_X2_cans (g_X5_frame S)) x1 v7 g8) (cwV 1 hts gX5_fill_X0_sizeOf rfl rfl rfl (by decide +kernel) ⟨Nat.le_of_ble_eq_true rfl, Nat.le_of_ble_eq_true rfl⟩) (k_preL (q0 := 0) (ci := 0) hK hP (LX5_frame a cI cF (s_X5_text S v4.2) (s_X2_cans (g_X5_frame S) (g_X2_cans (g_X5_frame S))) (LX2_cans (fun i => a (i + 1)) cI cF (g_X5_frame S) (g_X2_cans (g_X5_frame S)) (LN_id (fX0 (fun i => a (i + 2)) cI cF (g_X2_cans (g_X5_frame S)) (g_X2_cans (g_X5_frame S)))))) rfl rfl rfl) rfl rfl hl.1 rfl (lv_room (Nat.le_of_ble_eq_true rfl)) dX5_fill_45 ⟨Nat.zero_le _, Nat.zero_le _⟩) (st1 := [.int v7]) rfl ?_
  refine lv_aload_n hx hb dX5_fill_48 rfl (lv_at hl 0 rfl) ?_
  refine va_get (D := (dC, dI)) (ci := 5) (v := .ref (a 22)) (C := RX5) (T := TX5) (N := 6) hx hb huX5 (fun _ h9 => h9) hown hK hP 0 rfl rfl 4 (by decide) w32 (fun _ h9 => h9) rfl dX5_fill_49 ?_
  obtain ⟨v9, g10, h⟩ := o_b h
  refine k_ro (va_runV (As := []) (rest := [.int v7]) ⟨hx, hb, hml, hown, hts⟩ (c_X4_metresTold l dC dI cI cF (fun i => a (i + 22)) v4.2 v9 g10) (cwV 0 hts gX5_fill_X4_metresTold rfl rfl rfl (by decide +kernel) ⟨Nat.le_of_ble_eq_true rfl, Nat.le_of_ble_eq_true rfl⟩) (k_preL (q0 := 0) (ci := 4) hK hP (LX5_text a cI cF (s_X5_text S v4.2) v4.2 (LN_id (fX4 (fun i => a (i + 22)) cI cF v4.2 v4.2))) rfl rfl rfl) rfl rfl hl.1 rfl (lv_room (Nat.le_of_ble_eq_true rfl)) dX5_fill_52 ⟨Nat.zero_le _, Nat.zero_le _⟩) (st1 := [.int v9, .int v7]) rfl ?_
  refine lv_iadd hx hb dX5_fill_55 ?_
  refine lv_bipush (v := (40 : Int32)) hx hb dX5_fill_56 (by decide) ?_
  refine lv_icmp_le (tgt := 71) hx hb dX5_fill_58 (by decide) (fun c11 => ?_) (fun c11 => ?_)
  rotate_left
  · have h := o_f h c11
    cases h
  have h := o_t h c11
  refine lv_aload_n hx hb dX5_fill_71 rfl (lv_at hl 0 rfl) ?_
  refine va_get (D := (dC, dI)) (ci := 5) (v := .ref (a 26)) (C := RX5) (T := TX5) (N := 6) hx hb huX5 (fun _ h9 => h9) hown hK hP 0 rfl rfl 3 (by decide) w25 (fun _ h9 => h9) rfl dX5_fill_72 ?_
  refine lv_aload_n hx hb dX5_fill_75 rfl (lv_at hl 0 rfl) ?_
  refine va_get (D := (dC, dI)) (ci := 5) (v := .ref (a 1)) (C := RX5) (T := TX5) (N := 6) hx hb huX5 (fun _ h9 => h9) hown hK hP 0 rfl rfl 0 (by decide) w10 (fun _ h9 => h9) rfl dX5_fill_76 ?_
  obtain ⟨v12, g13, h⟩ := o_b h
  refine k_rwL (va_runV (As := [.ref (a 1)]) (rest := []) ⟨hx, hb, hml, hown, hts⟩ (c_X3_save l dC dI cI cF (fun i => a (i + 26)) (fun i => a (i + 1)) (g_X5_history S) (g_X5_frame S) v12 g13 H.size) (cwV 1 hts gX5_fill_X3_save rfl rfl rfl (by decide +kernel) ⟨Nat.le_of_ble_eq_true rfl, Nat.le_of_ble_eq_true rfl⟩) (k_preLw (q0 := 0) (ci := 3) hK hP hD (LN_sw (LX5_frame_history a cI cF (s_X5_text S v4.2) (g_X5_frame S) v12)) rfl rfl rfl) rfl rfl hl.1 rfl (lv_room (Nat.le_of_ble_eq_true rfl)) dX5_fill_79 ⟨Nat.zero_le _, Nat.zero_le _⟩) (st1 := []) rfl hP hD hS hA (wn := wX5 a cI cF (s_X5_text (s_X5_history S v12) v4.2)) (LN_sw (LX5_frame_history a cI cF (s_X5_text S v4.2) (g_X5_frame S) v12)) (fun H locs hP hD hS => ?_)
  refine lv_aload_n hx hb dX5_fill_82 rfl (lv_at hl 0 rfl) ?_
  refine va_get (D := (dC, dI)) (ci := 5) (v := .ref (a 22)) (C := RX5) (T := TX5) (N := 6) hx hb huX5 (fun _ h9 => h9) hown hK hP 0 rfl rfl 4 (by decide) w32 (fun _ h9 => h9) rfl dX5_fill_83 ?_
  obtain ⟨v14, g15, h⟩ := o_b h
  refine k_ro (va_runV (As := []) (rest := []) ⟨hx, hb, hml, hown, hts⟩ (c_X4_partCount l dC dI cI cF (fun i => a (i + 22)) v4.2 v14 g15) (cwV 0 hts gX5_fill_X4_partCount rfl rfl rfl (by decide +kernel) ⟨Nat.le_of_ble_eq_true rfl, Nat.le_of_ble_eq_true rfl⟩) (k_preL (q0 := 0) (ci := 4) hK hP (LX5_text a cI cF (s_X5_text (s_X5_history S v12) v4.2) v4.2 (LN_id (fX4 (fun i => a (i + 22)) cI cF v4.2 v4.2))) rfl rfl rfl) rfl rfl hl.1 rfl (lv_room (Nat.le_of_ble_eq_true rfl)) dX5_fill_86 ⟨Nat.zero_le _, Nat.zero_le _⟩) (st1 := [.int v14]) rfl ?_
  refine lv_istore_n (lv' := [(2, .int v14), (0, .ref (a 0)), (1, .int x1)]) hx hb dX5_fill_89 rfl hl (by decide) rfl (fun ls hl => ?_)
  refine lv_iconst (v := (0 : Int32)) hx hb dX5_fill_90 (by decide) ?_
  refine lv_istore_n (lv' := [(3, .int (0 : Int32)), (2, .int v14), (0, .ref (a 0)), (1, .int x1)]) hx hb dX5_fill_91 rfl hl (by decide) rfl (fun ls hl => ?_)
  exact L92 _ _ _ _ _ h _ _ hP hD hS _ (lv_sub hl [2, 3, 1, 0] rfl)

def m_X5_tip (S : S_X5) (x1 : Int32) : Option ((Nat × S_X5) ⊕ (Int32 × S_X5)) := (m_X5_isCan x1).bind fun v1 => (if v1 = 0 then (some (.inl (1, S))) else ((m_X3_save (g_X5_history S) (g_X5_frame S)).bind fun v4 => ((m_X0_sizeOf (g_X2_cans (g_X5_frame S)) x1).bind fun v6 => ((m_X0_sumOf (g_X2_cans (g_X5_frame S)) x1).bind fun v8 => ((m_X0_makeEmpty (g_X2_cans (g_X5_frame S)) x1).bind fun v10 => (some (.inr (v6, s_X5_history (s_X5_frame S (s_X2_waste (s_X2_cans (g_X5_frame S) v10) ((g_X2_waste (g_X5_frame S)) + v8))) v4))))))))
set_option maxHeartbeats 4000000 in
set_option maxRecDepth 100000 in
theorem c_X5_tip (l : Launch) (dC : Nat → ClassId) (dI : Nat → Nat → Nat) (cI cF : ClassId) (a : Nat → Nat) (S : S_X5) (x1 : Int32) (u : Int32 × S_X5) (h : m_X5_tip S x1 = some (.inr u)) : cRW l (dC, dI) cI cF yX5_tip wsX5_tip ({ frames := 4, cells := 0, slots := 0, locals := 124 } : Room) [.ref (a 0), .int x1] (wX5 a cI cF S) (wX5 a cI cF u.2) (some (.int u.1)) := by
  intro sz
  refine Met.ofW (cc := cX5_tip) (maxL := 3) (ret := (some .int)) (by decide) rfl ?_
  intro p e s m args below meth c s₁ B hml hv
  obtain ⟨hargs, hsz, hP, hK, hD0⟩ := hv
  subst hargs
  have hx := B.exec
  have hb := B.bytes
  have hr := B.returns
  have hts := atoms_spec (ws := wsX5_tip) B.pre
  have hown : s.vm.findClass RX5 = some m.cls := findClass_of_methodNamed B.named
  have hlocks := B.notSynchronized
  have w10 := hts (.fieldLink RX5 10 "DrawnSlivers" "frame" "LDrawnSlivers$Frame;") (List.mem_of_getElem? (i := 4) rfl)
  have w103 := hts (.methodLink RX5 103 yX0_sumOf) (List.mem_of_getElem? (i := 70) rfl)
  have w106 := hts (.methodLink RX5 106 yX0_makeEmpty) (List.mem_of_getElem? (i := 79) rfl)
  have w25 := hts (.fieldLink RX5 25 "DrawnSlivers" "history" "LDrawnSlivers$History;") (List.mem_of_getElem? (i := 3) rfl)
  have w40 := hts (.methodLink RX5 40 yX5_isCan) (List.mem_of_getElem? (i := 7) rfl)
  have w60 := hts (.fieldLink RX5 60 "DrawnSlivers$Frame" "cans" "LDrawnSlivers$Cans;") (List.mem_of_getElem? (i := 5) rfl)
  have w64 := hts (.methodLink RX5 64 yX0_sizeOf) (List.mem_of_getElem? (i := 66) rfl)
  have w79 := hts (.methodLink RX5 79 yX3_save) (List.mem_of_getElem? (i := 11) rfl)
  have w99 := hts (.fieldLink RX5 99 "DrawnSlivers$Frame" "waste" "I") (List.mem_of_getElem? (i := 6) rfl)
  have huX2 : ∀ w ∈ u_ws RX2 TX2 12, w.before _ s = true := fun w h => hts w (List.mem_cons_of_mem _ (List.mem_append_left _ (List.mem_append_left _ (List.mem_append_left _ (List.mem_append_left _ (List.mem_append_right _ (h)))))))
  have huX5 : ∀ w ∈ u_ws RX5 TX5 6, w.before _ s = true := fun w h => hts w (List.mem_cons_of_mem _ (List.mem_append_left _ (List.mem_append_left _ (List.mem_append_left _ (List.mem_append_left _ (List.mem_append_left _ (List.mem_append_right _ (h))))))))
  subst hsz
  have hD := hD0.self (sz := s.heap.size)
  generalize hAe : va_A (wX5 a cI cF S) s.heap.size = A at hD ⊢
  have hA : ∀ q : Nat, s.heap.size ≤ q → A q := fun q h => by rw [← hAe]; exact Or.inr h
  have hS : va_S A s.heap s.heap [] := va_S.rf
  have hl := lv_entry ([.ref (a 0), .int x1]) (n := 3) (Nat.le_of_ble_eq_true rfl)
  rw [lg_entry_eq]
  generalize (lg_sl ([.ref (a 0), .int x1]) ++ List.replicate (3 - (lg_sl ([.ref (a 0), .int x1])).length) Slot.unset).toArray = ls at hl ⊢
  have hl : lv_has ls 3 [(0, .ref (a 0)), (1, .int x1)] := hl
  rw [m_X5_tip] at h
  refine lv_iload_n hx hb dX5_tip_0 rfl (lv_at hl 1 rfl) ?_
  obtain ⟨v1, g2, h⟩ := o_b h
  refine k_ro (va_runS (As := [.int x1]) (rest := []) ⟨hx, hb, hml, hown, hts⟩ (c_X5_isCan l dC dI cI cF x1 v1 g2) (va_cwS 1 hts gX5_tip_X5_isCan rfl rfl rfl (by decide +kernel) ⟨Nat.le_of_ble_eq_true rfl, Nat.le_of_ble_eq_true rfl⟩) (k_prePU) rfl rfl hl.1 rfl (lv_room (Nat.le_of_ble_eq_true rfl)) dX5_tip_1 ⟨Nat.zero_le _, Nat.zero_le _⟩) (st1 := [.int v1]) rfl ?_
  refine lv_if_ne (tgt := 17) hx hb dX5_tip_4 (by decide) (fun c3 => ?_) (fun c3 => ?_)
  rotate_left
  · have h := o_t h c3
    cases h
  have h := o_f h c3
  refine lv_aload_n hx hb dX5_tip_17 rfl (lv_at hl 0 rfl) ?_
  refine va_get (D := (dC, dI)) (ci := 5) (v := .ref (a 26)) (C := RX5) (T := TX5) (N := 6) hx hb huX5 (fun _ h9 => h9) hown hK hP 0 rfl rfl 3 (by decide) w25 (fun _ h9 => h9) rfl dX5_tip_18 ?_
  refine lv_aload_n hx hb dX5_tip_21 rfl (lv_at hl 0 rfl) ?_
  refine va_get (D := (dC, dI)) (ci := 5) (v := .ref (a 1)) (C := RX5) (T := TX5) (N := 6) hx hb huX5 (fun _ h9 => h9) hown hK hP 0 rfl rfl 0 (by decide) w10 (fun _ h9 => h9) rfl dX5_tip_22 ?_
  obtain ⟨v4, g5, h⟩ := o_b h
  refine k_rwL (va_runV (As := [.ref (a 1)]) (rest := []) ⟨hx, hb, hml, hown, hts⟩ (c_X3_save l dC dI cI cF (fun i => a (i + 26)) (fun i => a (i + 1)) (g_X5_history S) (g_X5_frame S) v4 g5 s.heap.size) (cwV 1 hts gX5_tip_X3_save rfl rfl rfl (by decide +kernel) ⟨Nat.le_of_ble_eq_true rfl, Nat.le_of_ble_eq_true rfl⟩) (k_preLw (q0 := 0) (ci := 3) hK hP hD (LN_sw (LX5_frame_history a cI cF S (g_X5_frame S) v4)) rfl rfl rfl) rfl rfl hl.1 rfl (lv_room (Nat.le_of_ble_eq_true rfl)) dX5_tip_25 ⟨Nat.zero_le _, Nat.zero_le _⟩) (st1 := []) rfl hP hD hS hA (wn := wX5 a cI cF (s_X5_history S v4)) (LN_sw (LX5_frame_history a cI cF S (g_X5_frame S) v4)) (fun H locs hP hD hS => ?_)
  refine lv_aload_n hx hb dX5_tip_28 rfl (lv_at hl 0 rfl) ?_
  refine va_get (D := (dC, dI)) (ci := 5) (v := .ref (a 1)) (C := RX5) (T := TX5) (N := 6) hx hb huX5 (fun _ h9 => h9) hown hK hP 0 rfl rfl 0 (by decide) w10 (fun _ h9 => h9) rfl dX5_tip_29 ?_
  refine va_get (D := (dC, dI)) (ci := 2) (v := .ref (a 2)) (C := RX2) (T := TX2) (N := 12) hx hb huX2 (fun _ h9 => h9) hown hK hP 1 rfl rfl 0 (by decide) w60 (fun _ h9 => h9) rfl dX5_tip_32 ?_
  refine lv_iload_n hx hb dX5_tip_35 rfl (lv_at hl 1 rfl) ?_
  obtain ⟨v6, g7, h⟩ := o_b h
  refine k_ro (va_runV (As := [.int x1]) (rest := []) ⟨hx, hb, hml, hown, hts⟩ (c_X0_sizeOf l dC dI cI cF (fun i => a (i + 2)) (g_X2_cans (g_X5_frame S)) x1 v6 g7) (cwV 1 hts gX5_tip_X0_sizeOf rfl rfl rfl (by decide +kernel) ⟨Nat.le_of_ble_eq_true rfl, Nat.le_of_ble_eq_true rfl⟩) (k_preL (q0 := 0) (ci := 0) hK hP (LX5_frame a cI cF (s_X5_history S v4) (s_X2_cans (g_X5_frame S) (g_X2_cans (g_X5_frame S))) (LX2_cans (fun i => a (i + 1)) cI cF (g_X5_frame S) (g_X2_cans (g_X5_frame S)) (LN_id (fX0 (fun i => a (i + 2)) cI cF (g_X2_cans (g_X5_frame S)) (g_X2_cans (g_X5_frame S)))))) rfl rfl rfl) rfl rfl hl.1 rfl (lv_room (Nat.le_of_ble_eq_true rfl)) dX5_tip_36 ⟨Nat.zero_le _, Nat.zero_le _⟩) (st1 := [.int v6]) rfl ?_
  refine lv_istore_n (lv' := [(2, .int v6), (0, .ref (a 0)), (1, .int x1)]) hx hb dX5_tip_39 rfl hl (by decide) rfl (fun ls hl => ?_)
  refine lv_aload_n hx hb dX5_tip_40 rfl (lv_at hl 1 rfl) ?_
  refine va_get (D := (dC, dI)) (ci := 5) (v := .ref (a 1)) (C := RX5) (T := TX5) (N := 6) hx hb huX5 (fun _ h9 => h9) hown hK hP 0 rfl rfl 0 (by decide) w10 (fun _ h9 => h9) rfl dX5_tip_41 ?_
  refine lv_dup hx hb dX5_tip_44 rfl ?_
  refine va_get (D := (dC, dI)) (ci := 2) (v := .int (g_X2_waste (g_X5_frame S))) (C := RX2) (T := TX2) (N := 12) hx hb huX2 (fun _ h9 => h9) hown hK hP 1 rfl rfl 9 (by decide) w99 (fun _ h9 => h9) rfl dX5_tip_45 ?_
  refine lv_aload_n hx hb dX5_tip_48 rfl (lv_at hl 1 rfl) ?_
  refine va_get (D := (dC, dI)) (ci := 5) (v := .ref (a 1)) (C := RX5) (T := TX5) (N := 6) hx hb huX5 (fun _ h9 => h9) hown hK hP 0 rfl rfl 0 (by decide) w10 (fun _ h9 => h9) rfl dX5_tip_49 ?_
  refine va_get (D := (dC, dI)) (ci := 2) (v := .ref (a 2)) (C := RX2) (T := TX2) (N := 12) hx hb huX2 (fun _ h9 => h9) hown hK hP 1 rfl rfl 0 (by decide) w60 (fun _ h9 => h9) rfl dX5_tip_52 ?_
  refine lv_iload_n hx hb dX5_tip_55 rfl (lv_at hl 2 rfl) ?_
  obtain ⟨v8, g9, h⟩ := o_b h
  refine k_ro (va_runV (As := [.int x1]) (rest := [.int (g_X2_waste (g_X5_frame S)), .ref (a 1)]) ⟨hx, hb, hml, hown, hts⟩ (c_X0_sumOf l dC dI cI cF (fun i => a (i + 2)) (g_X2_cans (g_X5_frame S)) x1 v8 g9) (cwV 1 hts gX5_tip_X0_sumOf rfl rfl rfl (by decide +kernel) ⟨Nat.le_of_ble_eq_true rfl, Nat.le_of_ble_eq_true rfl⟩) (k_preL (q0 := 0) (ci := 0) hK hP (LX5_frame a cI cF (s_X5_history S v4) (s_X2_cans (g_X5_frame S) (g_X2_cans (g_X5_frame S))) (LX2_cans (fun i => a (i + 1)) cI cF (g_X5_frame S) (g_X2_cans (g_X5_frame S)) (LN_id (fX0 (fun i => a (i + 2)) cI cF (g_X2_cans (g_X5_frame S)) (g_X2_cans (g_X5_frame S)))))) rfl rfl rfl) rfl rfl hl.1 rfl (lv_room (Nat.le_of_ble_eq_true rfl)) dX5_tip_56 ⟨Nat.zero_le _, Nat.zero_le _⟩) (st1 := [.int v8, .int (g_X2_waste (g_X5_frame S)), .ref (a 1)]) rfl ?_
  refine lv_iadd hx hb dX5_tip_59 ?_
  refine va_put (D := (dC, dI)) (ci := 2) (v := .int ((g_X2_waste (g_X5_frame S)) + v8)) (ty := .int) (C := RX2) (T := TX2) (N := 12) hx hb huX2 (fun _ h9 => h9) tyX2 tyX2_ok nmX2 hown hK hP hD hS 1 rfl rfl 9 (by decide) w99 (fun _ h9 => h9) rfl (by decide +kernel) rfl rfl (Nat.le_of_ble_eq_true rfl) dX5_tip_60 (fun H locs hP2 hD2 hS => ?_)
  obtain ⟨hP, hD⟩ : va_P (dC, dI) vwCl (wX5 a cI cF (s_X5_history (s_X5_frame S (s_X2_waste (g_X5_frame S) ((g_X2_waste (g_X5_frame S)) + v8))) v4)) H ∧ va_D A (wX5 a cI cF (s_X5_history (s_X5_frame S (s_X2_waste (g_X5_frame S) ((g_X2_waste (g_X5_frame S)) + v8))) v4)) := LN.set (LX5_frame a cI cF (s_X5_history S v4) (s_X2_waste (g_X5_frame S) ((g_X2_waste (g_X5_frame S)) + v8)) (LX2_waste (fun i => a (i + 1)) cI cF (g_X5_frame S) ((g_X2_waste (g_X5_frame S)) + v8))) (p := 1) rfl rfl hD hP2 hD2
  refine lv_aload_n hx hb dX5_tip_63 rfl (lv_at hl 1 rfl) ?_
  refine va_get (D := (dC, dI)) (ci := 5) (v := .ref (a 1)) (C := RX5) (T := TX5) (N := 6) hx hb huX5 (fun _ h9 => h9) hown hK hP 0 rfl rfl 0 (by decide) w10 (fun _ h9 => h9) rfl dX5_tip_64 ?_
  refine va_get (D := (dC, dI)) (ci := 2) (v := .ref (a 2)) (C := RX2) (T := TX2) (N := 12) hx hb huX2 (fun _ h9 => h9) hown hK hP 1 rfl rfl 0 (by decide) w60 (fun _ h9 => h9) rfl dX5_tip_67 ?_
  refine lv_iload_n hx hb dX5_tip_70 rfl (lv_at hl 2 rfl) ?_
  obtain ⟨v10, g11, h⟩ := o_b h
  refine k_rwL (va_runV (As := [.int x1]) (rest := []) ⟨hx, hb, hml, hown, hts⟩ (c_X0_makeEmpty l dC dI cI cF (fun i => a (i + 2)) (g_X2_cans (g_X5_frame S)) x1 v10 g11 H.size) (cwV 1 hts gX5_tip_X0_makeEmpty rfl rfl rfl (by decide +kernel) ⟨Nat.le_of_ble_eq_true rfl, Nat.le_of_ble_eq_true rfl⟩) (k_preLw (q0 := 0) (ci := 0) hK hP hD (LX5_frame a cI cF (s_X5_history (s_X5_frame S (s_X2_waste (g_X5_frame S) ((g_X2_waste (g_X5_frame S)) + v8))) v4) (s_X2_cans (s_X2_waste (g_X5_frame S) ((g_X2_waste (g_X5_frame S)) + v8)) v10) (LX2_cans (fun i => a (i + 1)) cI cF (s_X2_waste (g_X5_frame S) ((g_X2_waste (g_X5_frame S)) + v8)) v10 (LN_id (fX0 (fun i => a (i + 2)) cI cF (g_X2_cans (g_X5_frame S)) v10)))) rfl rfl rfl) rfl rfl hl.1 rfl (lv_room (Nat.le_of_ble_eq_true rfl)) dX5_tip_71 ⟨Nat.zero_le _, Nat.zero_le _⟩) (st1 := []) rfl hP hD hS hA (wn := wX5 a cI cF (s_X5_history (s_X5_frame S (s_X2_waste (s_X2_cans (g_X5_frame S) v10) ((g_X2_waste (g_X5_frame S)) + v8))) v4)) (LX5_frame a cI cF (s_X5_history (s_X5_frame S (s_X2_waste (g_X5_frame S) ((g_X2_waste (g_X5_frame S)) + v8))) v4) (s_X2_cans (s_X2_waste (g_X5_frame S) ((g_X2_waste (g_X5_frame S)) + v8)) v10) (LX2_cans (fun i => a (i + 1)) cI cF (s_X2_waste (g_X5_frame S) ((g_X2_waste (g_X5_frame S)) + v8)) v10 (LN_id (fX0 (fun i => a (i + 2)) cI cF (g_X2_cans (g_X5_frame S)) v10)))) (fun H locs hP hD hS => ?_)
  refine lv_iload_n hx hb dX5_tip_74 rfl (lv_at hl 0 rfl) ?_
  have hu := Sum.inr.inj (Option.some.inj h)
  exact W.iret (v := v6) hx hb hr (fun t ht hW => ⟨⟨congrArg (fun z => Outcome.returned (some (Value.int z.1))) hu, by rw [ht, ← hu]; exact hP⟩, hS.F ht⟩) hS.2.2 dX5_tip_75

def m_X5_out (S : S_X5) (x1 : Int32) : Option ((Nat × S_X5) ⊕ (Int32 × S_X5)) := (m_X5_isCan x1).bind fun v1 => (if v1 = 0 then (some (.inl (1, S))) else ((m_X3_save (g_X5_history S) (g_X5_frame S)).bind fun v4 => (nmL (g_X2_taker (g_X5_frame S)) fun x2_6 => (some (.inr (x2_6, s_X5_history (s_X5_frame S (s_X2_taker (g_X5_frame S) x1)) v4))))))
set_option maxHeartbeats 4000000 in
set_option maxRecDepth 100000 in
theorem c_X5_out (l : Launch) (dC : Nat → ClassId) (dI : Nat → Nat → Nat) (cI cF : ClassId) (a : Nat → Nat) (S : S_X5) (x1 : Int32) (u : Int32 × S_X5) (h : m_X5_out S x1 = some (.inr u)) : cRW l (dC, dI) cI cF yX5_out wsX5_out ({ frames := 4, cells := 0, slots := 0, locals := 124 } : Room) [.ref (a 0), .int x1] (wX5 a cI cF S) (wX5 a cI cF u.2) (some (.int u.1)) := by
  intro sz
  refine Met.ofW (cc := cX5_out) (maxL := 3) (ret := (some .int)) (by decide) rfl ?_
  intro p e s m args below meth c s₁ B hml hv
  obtain ⟨hargs, hsz, hP, hK, hD0⟩ := hv
  subst hargs
  have hx := B.exec
  have hb := B.bytes
  have hr := B.returns
  have hts := atoms_spec (ws := wsX5_out) B.pre
  have hown : s.vm.findClass RX5 = some m.cls := findClass_of_methodNamed B.named
  have hlocks := B.notSynchronized
  have w10 := hts (.fieldLink RX5 10 "DrawnSlivers" "frame" "LDrawnSlivers$Frame;") (List.mem_of_getElem? (i := 4) rfl)
  have w124 := hts (.fieldLink RX5 124 "DrawnSlivers$Frame" "taker" "I") (List.mem_of_getElem? (i := 5) rfl)
  have w25 := hts (.fieldLink RX5 25 "DrawnSlivers" "history" "LDrawnSlivers$History;") (List.mem_of_getElem? (i := 3) rfl)
  have w40 := hts (.methodLink RX5 40 yX5_isCan) (List.mem_of_getElem? (i := 6) rfl)
  have w79 := hts (.methodLink RX5 79 yX3_save) (List.mem_of_getElem? (i := 10) rfl)
  have huX2 : ∀ w ∈ u_ws RX2 TX2 12, w.before _ s = true := fun w h => hts w (List.mem_cons_of_mem _ (List.mem_append_left _ (List.mem_append_left _ (List.mem_append_left _ (List.mem_append_left _ (List.mem_append_right _ (h)))))))
  have huX5 : ∀ w ∈ u_ws RX5 TX5 6, w.before _ s = true := fun w h => hts w (List.mem_cons_of_mem _ (List.mem_append_left _ (List.mem_append_left _ (List.mem_append_left _ (List.mem_append_left _ (List.mem_append_left _ (List.mem_append_right _ (h))))))))
  subst hsz
  have hD := hD0.self (sz := s.heap.size)
  generalize hAe : va_A (wX5 a cI cF S) s.heap.size = A at hD ⊢
  have hA : ∀ q : Nat, s.heap.size ≤ q → A q := fun q h => by rw [← hAe]; exact Or.inr h
  have hS : va_S A s.heap s.heap [] := va_S.rf
  have hl := lv_entry ([.ref (a 0), .int x1]) (n := 3) (Nat.le_of_ble_eq_true rfl)
  rw [lg_entry_eq]
  generalize (lg_sl ([.ref (a 0), .int x1]) ++ List.replicate (3 - (lg_sl ([.ref (a 0), .int x1])).length) Slot.unset).toArray = ls at hl ⊢
  have hl : lv_has ls 3 [(0, .ref (a 0)), (1, .int x1)] := hl
  rw [m_X5_out] at h
  refine lv_iload_n hx hb dX5_out_0 rfl (lv_at hl 1 rfl) ?_
  obtain ⟨v1, g2, h⟩ := o_b h
  refine k_ro (va_runS (As := [.int x1]) (rest := []) ⟨hx, hb, hml, hown, hts⟩ (c_X5_isCan l dC dI cI cF x1 v1 g2) (va_cwS 1 hts gX5_out_X5_isCan rfl rfl rfl (by decide +kernel) ⟨Nat.le_of_ble_eq_true rfl, Nat.le_of_ble_eq_true rfl⟩) (k_prePU) rfl rfl hl.1 rfl (lv_room (Nat.le_of_ble_eq_true rfl)) dX5_out_1 ⟨Nat.zero_le _, Nat.zero_le _⟩) (st1 := [.int v1]) rfl ?_
  refine lv_if_ne (tgt := 17) hx hb dX5_out_4 (by decide) (fun c3 => ?_) (fun c3 => ?_)
  rotate_left
  · have h := o_t h c3
    cases h
  have h := o_f h c3
  refine lv_aload_n hx hb dX5_out_17 rfl (lv_at hl 0 rfl) ?_
  refine va_get (D := (dC, dI)) (ci := 5) (v := .ref (a 26)) (C := RX5) (T := TX5) (N := 6) hx hb huX5 (fun _ h9 => h9) hown hK hP 0 rfl rfl 3 (by decide) w25 (fun _ h9 => h9) rfl dX5_out_18 ?_
  refine lv_aload_n hx hb dX5_out_21 rfl (lv_at hl 0 rfl) ?_
  refine va_get (D := (dC, dI)) (ci := 5) (v := .ref (a 1)) (C := RX5) (T := TX5) (N := 6) hx hb huX5 (fun _ h9 => h9) hown hK hP 0 rfl rfl 0 (by decide) w10 (fun _ h9 => h9) rfl dX5_out_22 ?_
  obtain ⟨v4, g5, h⟩ := o_b h
  refine k_rwL (va_runV (As := [.ref (a 1)]) (rest := []) ⟨hx, hb, hml, hown, hts⟩ (c_X3_save l dC dI cI cF (fun i => a (i + 26)) (fun i => a (i + 1)) (g_X5_history S) (g_X5_frame S) v4 g5 s.heap.size) (cwV 1 hts gX5_out_X3_save rfl rfl rfl (by decide +kernel) ⟨Nat.le_of_ble_eq_true rfl, Nat.le_of_ble_eq_true rfl⟩) (k_preLw (q0 := 0) (ci := 3) hK hP hD (LN_sw (LX5_frame_history a cI cF S (g_X5_frame S) v4)) rfl rfl rfl) rfl rfl hl.1 rfl (lv_room (Nat.le_of_ble_eq_true rfl)) dX5_out_25 ⟨Nat.zero_le _, Nat.zero_le _⟩) (st1 := []) rfl hP hD hS hA (wn := wX5 a cI cF (s_X5_history S v4)) (LN_sw (LX5_frame_history a cI cF S (g_X5_frame S) v4)) (fun H locs hP hD hS => ?_)
  refine lv_aload_n hx hb dX5_out_28 rfl (lv_at hl 0 rfl) ?_
  refine va_get (D := (dC, dI)) (ci := 5) (v := .ref (a 1)) (C := RX5) (T := TX5) (N := 6) hx hb huX5 (fun _ h9 => h9) hown hK hP 0 rfl rfl 0 (by decide) w10 (fun _ h9 => h9) rfl dX5_out_29 ?_
  refine va_get (D := (dC, dI)) (ci := 2) (v := .int (g_X2_taker (g_X5_frame S))) (C := RX2) (T := TX2) (N := 12) hx hb huX2 (fun _ h9 => h9) hown hK hP 1 rfl rfl 4 (by decide) w124 (fun _ h9 => h9) rfl dX5_out_32 ?_
  obtain ⟨x2_6, e7, h⟩ := o_n h
  refine lv_nmi e7 ?_
  refine lv_istore_n (lv' := [(2, .int x2_6), (0, .ref (a 0)), (1, .int x1)]) hx hb dX5_out_35 rfl hl (by decide) rfl (fun ls hl => ?_)
  refine lv_aload_n hx hb dX5_out_36 rfl (lv_at hl 1 rfl) ?_
  refine va_get (D := (dC, dI)) (ci := 5) (v := .ref (a 1)) (C := RX5) (T := TX5) (N := 6) hx hb huX5 (fun _ h9 => h9) hown hK hP 0 rfl rfl 0 (by decide) w10 (fun _ h9 => h9) rfl dX5_out_37 ?_
  refine lv_iload_n hx hb dX5_out_40 rfl (lv_at hl 2 rfl) ?_
  refine va_put (D := (dC, dI)) (ci := 2) (v := .int x1) (ty := .int) (C := RX2) (T := TX2) (N := 12) hx hb huX2 (fun _ h9 => h9) tyX2 tyX2_ok nmX2 hown hK hP hD hS 1 rfl rfl 4 (by decide) w124 (fun _ h9 => h9) rfl (by decide +kernel) rfl rfl (Nat.le_of_ble_eq_true rfl) dX5_out_41 (fun H locs hP2 hD2 hS => ?_)
  obtain ⟨hP, hD⟩ : va_P (dC, dI) vwCl (wX5 a cI cF (s_X5_history (s_X5_frame S (s_X2_taker (g_X5_frame S) x1)) v4)) H ∧ va_D A (wX5 a cI cF (s_X5_history (s_X5_frame S (s_X2_taker (g_X5_frame S) x1)) v4)) := LN.set (LX5_frame a cI cF (s_X5_history S v4) (s_X2_taker (g_X5_frame S) x1) (LX2_taker (fun i => a (i + 1)) cI cF (g_X5_frame S) x1)) (p := 1) rfl rfl hD hP2 hD2
  refine lv_iload_n hx hb dX5_out_44 rfl (lv_at hl 0 rfl) ?_
  have hu := Sum.inr.inj (Option.some.inj h)
  exact W.iret (v := x2_6) hx hb hr (fun t ht hW => ⟨⟨congrArg (fun z => Outcome.returned (some (Value.int z.1))) hu, by rw [ht, ← hu]; exact hP⟩, hS.F ht⟩) hS.2.2 dX5_out_45

def m_X5_run (S : S_X5) (x1 : Int32) : Option ((Nat × S_X5) ⊕ (Int32 × S_X5)) := (m_X5_isRunLength x1).bind fun v1 => (if v1 = 0 then (some (.inl (2, S))) else ((m_X3_save (g_X5_history S) (g_X5_frame S)).bind fun v4 => ((m_X2_advance (g_X5_frame S) x1).bind fun v6 => (some (.inr (v6.1, s_X5_history (s_X5_frame S v6.2) v4))))))
set_option maxHeartbeats 4000000 in
set_option maxRecDepth 100000 in
theorem c_X5_run (l : Launch) (dC : Nat → ClassId) (dI : Nat → Nat → Nat) (cI cF : ClassId) (a : Nat → Nat) (S : S_X5) (x1 : Int32) (u : Int32 × S_X5) (h : m_X5_run S x1 = some (.inr u)) : cRW l (dC, dI) cI cF yX5_run wsX5_run ({ frames := 5, cells := 0, slots := 0, locals := 152 } : Room) [.ref (a 0), .int x1] (wX5 a cI cF S) (wX5 a cI cF u.2) (some (.int u.1)) := by
  intro sz
  refine Met.ofW (cc := cX5_run) (maxL := 2) (ret := (some .int)) (by decide) rfl ?_
  intro p e s m args below meth c s₁ B hml hv
  obtain ⟨hargs, hsz, hP, hK, hD0⟩ := hv
  subst hargs
  have hx := B.exec
  have hb := B.bytes
  have hr := B.returns
  have hts := atoms_spec (ws := wsX5_run) B.pre
  have hown : s.vm.findClass RX5 = some m.cls := findClass_of_methodNamed B.named
  have hlocks := B.notSynchronized
  have w10 := hts (.fieldLink RX5 10 "DrawnSlivers" "frame" "LDrawnSlivers$Frame;") (List.mem_of_getElem? (i := 4) rfl)
  have w127 := hts (.methodLink RX5 127 yX5_isRunLength) (List.mem_of_getElem? (i := 5) rfl)
  have w132 := hts (.methodLink RX5 132 yX2_advance) (List.mem_of_getElem? (i := 64) rfl)
  have w25 := hts (.fieldLink RX5 25 "DrawnSlivers" "history" "LDrawnSlivers$History;") (List.mem_of_getElem? (i := 3) rfl)
  have w79 := hts (.methodLink RX5 79 yX3_save) (List.mem_of_getElem? (i := 9) rfl)
  have huX5 : ∀ w ∈ u_ws RX5 TX5 6, w.before _ s = true := fun w h => hts w (List.mem_cons_of_mem _ (List.mem_append_left _ (List.mem_append_left _ (List.mem_append_left _ (List.mem_append_left _ (List.mem_append_left _ (List.mem_append_right _ (h))))))))
  subst hsz
  have hD := hD0.self (sz := s.heap.size)
  generalize hAe : va_A (wX5 a cI cF S) s.heap.size = A at hD ⊢
  have hA : ∀ q : Nat, s.heap.size ≤ q → A q := fun q h => by rw [← hAe]; exact Or.inr h
  have hS : va_S A s.heap s.heap [] := va_S.rf
  have hl := lv_entry ([.ref (a 0), .int x1]) (n := 2) (Nat.le_of_ble_eq_true rfl)
  rw [lg_entry_eq]
  generalize (lg_sl ([.ref (a 0), .int x1]) ++ List.replicate (2 - (lg_sl ([.ref (a 0), .int x1])).length) Slot.unset).toArray = ls at hl ⊢
  have hl : lv_has ls 2 [(0, .ref (a 0)), (1, .int x1)] := hl
  rw [m_X5_run] at h
  refine lv_iload_n hx hb dX5_run_0 rfl (lv_at hl 1 rfl) ?_
  obtain ⟨v1, g2, h⟩ := o_b h
  refine k_ro (va_runS (As := [.int x1]) (rest := []) ⟨hx, hb, hml, hown, hts⟩ (c_X5_isRunLength l dC dI cI cF x1 v1 g2) (va_cwS 1 hts gX5_run_X5_isRunLength rfl rfl rfl (by decide +kernel) ⟨Nat.le_of_ble_eq_true rfl, Nat.le_of_ble_eq_true rfl⟩) (k_prePU) rfl rfl hl.1 rfl (lv_room (Nat.le_of_ble_eq_true rfl)) dX5_run_1 ⟨Nat.zero_le _, Nat.zero_le _⟩) (st1 := [.int v1]) rfl ?_
  refine lv_if_ne (tgt := 17) hx hb dX5_run_4 (by decide) (fun c3 => ?_) (fun c3 => ?_)
  rotate_left
  · have h := o_t h c3
    cases h
  have h := o_f h c3
  refine lv_aload_n hx hb dX5_run_17 rfl (lv_at hl 0 rfl) ?_
  refine va_get (D := (dC, dI)) (ci := 5) (v := .ref (a 26)) (C := RX5) (T := TX5) (N := 6) hx hb huX5 (fun _ h9 => h9) hown hK hP 0 rfl rfl 3 (by decide) w25 (fun _ h9 => h9) rfl dX5_run_18 ?_
  refine lv_aload_n hx hb dX5_run_21 rfl (lv_at hl 0 rfl) ?_
  refine va_get (D := (dC, dI)) (ci := 5) (v := .ref (a 1)) (C := RX5) (T := TX5) (N := 6) hx hb huX5 (fun _ h9 => h9) hown hK hP 0 rfl rfl 0 (by decide) w10 (fun _ h9 => h9) rfl dX5_run_22 ?_
  obtain ⟨v4, g5, h⟩ := o_b h
  refine k_rwL (va_runV (As := [.ref (a 1)]) (rest := []) ⟨hx, hb, hml, hown, hts⟩ (c_X3_save l dC dI cI cF (fun i => a (i + 26)) (fun i => a (i + 1)) (g_X5_history S) (g_X5_frame S) v4 g5 s.heap.size) (cwV 1 hts gX5_run_X3_save rfl rfl rfl (by decide +kernel) ⟨Nat.le_of_ble_eq_true rfl, Nat.le_of_ble_eq_true rfl⟩) (k_preLw (q0 := 0) (ci := 3) hK hP hD (LN_sw (LX5_frame_history a cI cF S (g_X5_frame S) v4)) rfl rfl rfl) rfl rfl hl.1 rfl (lv_room (Nat.le_of_ble_eq_true rfl)) dX5_run_25 ⟨Nat.zero_le _, Nat.zero_le _⟩) (st1 := []) rfl hP hD hS hA (wn := wX5 a cI cF (s_X5_history S v4)) (LN_sw (LX5_frame_history a cI cF S (g_X5_frame S) v4)) (fun H locs hP hD hS => ?_)
  refine lv_aload_n hx hb dX5_run_28 rfl (lv_at hl 0 rfl) ?_
  refine va_get (D := (dC, dI)) (ci := 5) (v := .ref (a 1)) (C := RX5) (T := TX5) (N := 6) hx hb huX5 (fun _ h9 => h9) hown hK hP 0 rfl rfl 0 (by decide) w10 (fun _ h9 => h9) rfl dX5_run_29 ?_
  refine lv_iload_n hx hb dX5_run_32 rfl (lv_at hl 1 rfl) ?_
  obtain ⟨v6, g7, h⟩ := o_b h
  refine k_rwL (va_runV (As := [.int x1]) (rest := []) ⟨hx, hb, hml, hown, hts⟩ (c_X2_advance l dC dI cI cF (fun i => a (i + 1)) (g_X5_frame S) x1 v6 g7 H.size) (cwV 1 hts gX5_run_X2_advance rfl rfl rfl (by decide +kernel) ⟨Nat.le_of_ble_eq_true rfl, Nat.le_of_ble_eq_true rfl⟩) (k_preLw (q0 := 0) (ci := 2) hK hP hD (LX5_frame a cI cF (s_X5_history S v4) v6.2 (LN_id (fX2 (fun i => a (i + 1)) cI cF (g_X5_frame S) v6.2))) rfl rfl rfl) rfl rfl hl.1 rfl (lv_room (Nat.le_of_ble_eq_true rfl)) dX5_run_33 ⟨Nat.zero_le _, Nat.zero_le _⟩) (st1 := [.int v6.1]) rfl hP hD hS hA (wn := wX5 a cI cF (s_X5_history (s_X5_frame S v6.2) v4)) (LX5_frame a cI cF (s_X5_history S v4) v6.2 (LN_id (fX2 (fun i => a (i + 1)) cI cF (g_X5_frame S) v6.2))) (fun H locs hP hD hS => ?_)
  have hu := Sum.inr.inj (Option.some.inj h)
  exact W.iret (v := v6.1) hx hb hr (fun t ht hW => ⟨⟨congrArg (fun z => Outcome.returned (some (Value.int z.1))) hu, by rw [ht, ← hu]; exact hP⟩, hS.F ht⟩) hS.2.2 dX5_run_36

def m_X5_set (S : S_X5) (x1 : Int32) (x2 : Int32) : Option ((Nat × S_X5) ⊕ (Int32 × S_X5)) := (m_X5_isSetting x1).bind fun v1 => (if v1 = 0 then (some (.inl (1, S))) else ((m_X5_isValue x1 x2).bind fun v4 => (if v4 = 0 then (some (.inl (2, S))) else ((m_X3_save (g_X5_history S) (g_X5_frame S)).bind fun v7 => ((m_X2_settingOf (g_X5_frame S) x1).bind fun v9 => ((m_X2_changeSetting (g_X5_frame S) x1 x2).bind fun v11 => (some (.inr (v9, s_X5_history (s_X5_frame S v11) v7)))))))))
set_option maxHeartbeats 4000000 in
set_option maxRecDepth 100000 in
theorem c_X5_set (l : Launch) (dC : Nat → ClassId) (dI : Nat → Nat → Nat) (cI cF : ClassId) (a : Nat → Nat) (S : S_X5) (x1 : Int32) (x2 : Int32) (u : Int32 × S_X5) (h : m_X5_set S x1 x2 = some (.inr u)) : cRWe l (dC, dI) cI cF yX5_set wsX5_set ({ frames := 4, cells := 0, slots := 0, locals := 124 } : Room) [.ref (a 0), .int x1, .int x2] (wX5 a cI cF S) (wX5 a cI cF u.2) (some (.int u.1)) := by
  intro sz
  refine Met.ofW (cc := cX5_set) (maxL := 4) (ret := (some .int)) (by decide) rfl ?_
  intro p e s m args below meth c s₁ B hml hv
  obtain ⟨hargs, ⟨hsz, hP, hK, hD0⟩, hE⟩ := hv
  subst hargs
  have hx := B.exec
  have hb := B.bytes
  have hr := B.returns
  have hts := atoms_spec (ws := wsX5_set) B.pre
  have hown : s.vm.findClass RX5 = some m.cls := findClass_of_methodNamed B.named
  have hlocks := B.notSynchronized
  have w10 := hts (.fieldLink RX5 10 "DrawnSlivers" "frame" "LDrawnSlivers$Frame;") (List.mem_of_getElem? (i := 6) rfl)
  have w138 := hts (.methodLink RX5 138 yX5_isSetting) (List.mem_of_getElem? (i := 7) rfl)
  have w143 := hts (.methodLink RX5 143 yX5_isValue) (List.mem_of_getElem? (i := 11) rfl)
  have w149 := hts (.methodLink RX5 149 yX2_settingOf) (List.mem_of_getElem? (i := 71) rfl)
  have w152 := hts (.methodLink RX5 152 yX2_changeSetting) (List.mem_of_getElem? (i := 75) rfl)
  have w25 := hts (.fieldLink RX5 25 "DrawnSlivers" "history" "LDrawnSlivers$History;") (List.mem_of_getElem? (i := 5) rfl)
  have w79 := hts (.methodLink RX5 79 yX3_save) (List.mem_of_getElem? (i := 16) rfl)
  have huX5 : ∀ w ∈ u_ws RX5 TX5 6, w.before _ s = true := fun w h => hts w (List.mem_cons_of_mem _ (List.mem_append_left _ (List.mem_append_left _ (List.mem_append_left _ (List.mem_append_left _ (List.mem_append_left _ (List.mem_append_left _ (List.mem_append_right _ (h)))))))))
  subst hsz
  have hD := hD0.self (sz := s.heap.size)
  generalize hAe : va_A (wX5 a cI cF S) s.heap.size = A at hD hE ⊢
  have hA : ∀ q : Nat, s.heap.size ≤ q → A q := fun q h => by rw [← hAe]; exact Or.inr h
  have hS : va_S A s.heap s.heap [] := va_S.rf
  have hl := lv_entry ([.ref (a 0), .int x1, .int x2]) (n := 4) (Nat.le_of_ble_eq_true rfl)
  rw [lg_entry_eq]
  generalize (lg_sl ([.ref (a 0), .int x1, .int x2]) ++ List.replicate (4 - (lg_sl ([.ref (a 0), .int x1, .int x2])).length) Slot.unset).toArray = ls at hl ⊢
  have hl : lv_has ls 4 [(0, .ref (a 0)), (1, .int x1), (2, .int x2)] := hl
  rw [m_X5_set] at h
  refine lv_iload_n hx hb dX5_set_0 rfl (lv_at hl 1 rfl) ?_
  obtain ⟨v1, g2, h⟩ := o_b h
  refine k_ro (va_runS (As := [.int x1]) (rest := []) ⟨hx, hb, hml, hown, hts⟩ (c_X5_isSetting l dC dI cI cF x1 v1 g2) (va_cwS 1 hts gX5_set_X5_isSetting rfl rfl rfl (by decide +kernel) ⟨Nat.le_of_ble_eq_true rfl, Nat.le_of_ble_eq_true rfl⟩) (k_prePU) rfl rfl hl.1 rfl (lv_room (Nat.le_of_ble_eq_true rfl)) dX5_set_1 ⟨Nat.zero_le _, Nat.zero_le _⟩) (st1 := [.int v1]) rfl ?_
  refine lv_if_ne (tgt := 17) hx hb dX5_set_4 (by decide) (fun c3 => ?_) (fun c3 => ?_)
  rotate_left
  · have h := o_t h c3
    cases h
  have h := o_f h c3
  refine lv_iload_n hx hb dX5_set_17 rfl (lv_at hl 1 rfl) ?_
  refine lv_iload_n hx hb dX5_set_18 rfl (lv_at hl 2 rfl) ?_
  obtain ⟨v4, g5, h⟩ := o_b h
  refine k_ro (va_runS (As := [.int x1, .int x2]) (rest := []) ⟨hx, hb, hml, hown, hts⟩ (c_X5_isValue l dC dI cI cF x1 x2 v4 g5) (va_cwS 2 hts gX5_set_X5_isValue rfl rfl rfl (by decide +kernel) ⟨Nat.le_of_ble_eq_true rfl, Nat.le_of_ble_eq_true rfl⟩) ((k_preE hE hS)) rfl rfl hl.1 rfl (lv_room (Nat.le_of_ble_eq_true rfl)) dX5_set_19 ⟨Nat.zero_le _, Nat.zero_le _⟩) (st1 := [.int v4]) rfl ?_
  refine lv_if_ne (tgt := 35) hx hb dX5_set_22 (by decide) (fun c6 => ?_) (fun c6 => ?_)
  rotate_left
  · have h := o_t h c6
    cases h
  have h := o_f h c6
  refine lv_aload_n hx hb dX5_set_35 rfl (lv_at hl 0 rfl) ?_
  refine va_get (D := (dC, dI)) (ci := 5) (v := .ref (a 26)) (C := RX5) (T := TX5) (N := 6) hx hb huX5 (fun _ h9 => h9) hown hK hP 0 rfl rfl 3 (by decide) w25 (fun _ h9 => h9) rfl dX5_set_36 ?_
  refine lv_aload_n hx hb dX5_set_39 rfl (lv_at hl 0 rfl) ?_
  refine va_get (D := (dC, dI)) (ci := 5) (v := .ref (a 1)) (C := RX5) (T := TX5) (N := 6) hx hb huX5 (fun _ h9 => h9) hown hK hP 0 rfl rfl 0 (by decide) w10 (fun _ h9 => h9) rfl dX5_set_40 ?_
  obtain ⟨v7, g8, h⟩ := o_b h
  refine k_rwL (va_runV (As := [.ref (a 1)]) (rest := []) ⟨hx, hb, hml, hown, hts⟩ (c_X3_save l dC dI cI cF (fun i => a (i + 26)) (fun i => a (i + 1)) (g_X5_history S) (g_X5_frame S) v7 g8 s.heap.size) (cwV 1 hts gX5_set_X3_save rfl rfl rfl (by decide +kernel) ⟨Nat.le_of_ble_eq_true rfl, Nat.le_of_ble_eq_true rfl⟩) (k_preLw (q0 := 0) (ci := 3) hK hP hD (LN_sw (LX5_frame_history a cI cF S (g_X5_frame S) v7)) rfl rfl rfl) rfl rfl hl.1 rfl (lv_room (Nat.le_of_ble_eq_true rfl)) dX5_set_43 ⟨Nat.zero_le _, Nat.zero_le _⟩) (st1 := []) rfl hP hD hS hA (wn := wX5 a cI cF (s_X5_history S v7)) (LN_sw (LX5_frame_history a cI cF S (g_X5_frame S) v7)) (fun H locs hP hD hS => ?_)
  refine lv_aload_n hx hb dX5_set_46 rfl (lv_at hl 0 rfl) ?_
  refine va_get (D := (dC, dI)) (ci := 5) (v := .ref (a 1)) (C := RX5) (T := TX5) (N := 6) hx hb huX5 (fun _ h9 => h9) hown hK hP 0 rfl rfl 0 (by decide) w10 (fun _ h9 => h9) rfl dX5_set_47 ?_
  refine lv_iload_n hx hb dX5_set_50 rfl (lv_at hl 1 rfl) ?_
  obtain ⟨v9, g10, h⟩ := o_b h
  refine k_ro (va_runV (As := [.int x1]) (rest := []) ⟨hx, hb, hml, hown, hts⟩ (c_X2_settingOf l dC dI cI cF (fun i => a (i + 1)) (g_X5_frame S) x1 v9 g10) (cwV 1 hts gX5_set_X2_settingOf rfl rfl rfl (by decide +kernel) ⟨Nat.le_of_ble_eq_true rfl, Nat.le_of_ble_eq_true rfl⟩) (k_preL (q0 := 0) (ci := 2) hK hP (LX5_frame a cI cF (s_X5_history S v7) (g_X5_frame S) (LN_id (fX2 (fun i => a (i + 1)) cI cF (g_X5_frame S) (g_X5_frame S)))) rfl rfl rfl) rfl rfl hl.1 rfl (lv_room (Nat.le_of_ble_eq_true rfl)) dX5_set_51 ⟨Nat.zero_le _, Nat.zero_le _⟩) (st1 := [.int v9]) rfl ?_
  refine lv_istore_n (lv' := [(3, .int v9), (0, .ref (a 0)), (1, .int x1), (2, .int x2)]) hx hb dX5_set_54 rfl hl (by decide) rfl (fun ls hl => ?_)
  refine lv_aload_n hx hb dX5_set_55 rfl (lv_at hl 1 rfl) ?_
  refine va_get (D := (dC, dI)) (ci := 5) (v := .ref (a 1)) (C := RX5) (T := TX5) (N := 6) hx hb huX5 (fun _ h9 => h9) hown hK hP 0 rfl rfl 0 (by decide) w10 (fun _ h9 => h9) rfl dX5_set_56 ?_
  refine lv_iload_n hx hb dX5_set_59 rfl (lv_at hl 2 rfl) ?_
  refine lv_iload_n hx hb dX5_set_60 rfl (lv_at hl 3 rfl) ?_
  obtain ⟨v11, g12, h⟩ := o_b h
  refine k_rwL (va_runV (As := [.int x1, .int x2]) (rest := []) ⟨hx, hb, hml, hown, hts⟩ (c_X2_changeSetting l dC dI cI cF (fun i => a (i + 1)) (g_X5_frame S) x1 x2 v11 g12 H.size) (cwV 2 hts gX5_set_X2_changeSetting rfl rfl rfl (by decide +kernel) ⟨Nat.le_of_ble_eq_true rfl, Nat.le_of_ble_eq_true rfl⟩) (k_preLw (q0 := 0) (ci := 2) hK hP hD (LX5_frame a cI cF (s_X5_history S v7) v11 (LN_id (fX2 (fun i => a (i + 1)) cI cF (g_X5_frame S) v11))) rfl rfl rfl) rfl rfl hl.1 rfl (lv_room (Nat.le_of_ble_eq_true rfl)) dX5_set_61 ⟨Nat.zero_le _, Nat.zero_le _⟩) (st1 := []) rfl hP hD hS hA (wn := wX5 a cI cF (s_X5_history (s_X5_frame S v11) v7)) (LX5_frame a cI cF (s_X5_history S v7) v11 (LN_id (fX2 (fun i => a (i + 1)) cI cF (g_X5_frame S) v11))) (fun H locs hP hD hS => ?_)
  refine lv_iload_n hx hb dX5_set_64 rfl (lv_at hl 0 rfl) ?_
  have hu := Sum.inr.inj (Option.some.inj h)
  exact W.iret (v := v9) hx hb hr (fun t ht hW => ⟨⟨congrArg (fun z => Outcome.returned (some (Value.int z.1))) hu, by rw [ht, ← hu]; exact hP⟩, hS.F ht⟩) hS.2.2 dX5_set_65

def m_X5_can (S : S_X5) (x1 : Int32) (x2 : Int32) : Option ((Nat) ⊕ (Int32)) := (m_X5_isCan x1).bind fun v1 => (if v1 = 0 then (some (.inl 1)) else (if x2 = 0 then ((m_X0_sizeOf (g_X2_cans (g_X5_frame S)) x1).bind fun v5 => (some (.inr v5))) else if x2 = 1 then ((m_X0_sumOf (g_X2_cans (g_X5_frame S)) x1).bind fun v8 => (some (.inr v8))) else if x2 = 2 then ((m_X0_leastOf (g_X2_cans (g_X5_frame S)) x1).bind fun v11 => (some (.inr v11))) else if x2 = 3 then ((m_X0_greatestOf (g_X2_cans (g_X5_frame S)) x1).bind fun v14 => (some (.inr v14))) else if x2 = 4 then ((m_X0_spreadOf (g_X2_cans (g_X5_frame S)) x1).bind fun v17 => (some (.inr v17))) else if x2 = 5 then ((m_X0_stepsOf (g_X2_cans (g_X5_frame S)) x1).bind fun v20 => (some (.inr v20))) else if x2 = 6 then ((m_X2_isFed (g_X5_frame S) x1).bind fun v23 => (if v23 = 0 then (some (.inr (0 : Int32))) else (some (.inr (1 : Int32))))) else if x2 = 7 then ((m_X0_weightOf (g_X2_cans (g_X5_frame S)) x1 (0 : Int32)).bind fun v27 => (some (.inr v27))) else (some (.inl 2))))
set_option maxHeartbeats 4000000 in
set_option maxRecDepth 100000 in
theorem c_X5_can (l : Launch) (dC : Nat → ClassId) (dI : Nat → Nat → Nat) (cI cF : ClassId) (a : Nat → Nat) (S : S_X5) (x1 : Int32) (x2 : Int32) (u : Int32) (h : m_X5_can S x1 x2 = some (.inr u)) : cRO l (dC, dI) cI cF yX5_can wsX5_can ({ frames := 4, cells := 0, slots := 0, locals := 89 } : Room) [.ref (a 0), .int x1, .int x2] (wX5 a cI cF S) (some (.int u)) := by
  refine Met.ofW (cc := cX5_can) (maxL := 3) (ret := (some .int)) (by decide) rfl ?_
  intro p e s m args below meth c s₁ B hml hv
  obtain ⟨hargs, hP, hK⟩ := hv
  subst hargs
  have hx := B.exec
  have hb := B.bytes
  have hr := B.returns
  have hts := atoms_spec (ws := wsX5_can) B.pre
  have hown : s.vm.findClass RX5 = some m.cls := findClass_of_methodNamed B.named
  have hlocks := B.notSynchronized
  have w10 := hts (.fieldLink RX5 10 "DrawnSlivers" "frame" "LDrawnSlivers$Frame;") (List.mem_of_getElem? (i := 5) rfl)
  have w103 := hts (.methodLink RX5 103 yX0_sumOf) (List.mem_of_getElem? (i := 17) rfl)
  have w188 := hts (.methodLink RX5 188 yX0_leastOf) (List.mem_of_getElem? (i := 27) rfl)
  have w191 := hts (.methodLink RX5 191 yX0_greatestOf) (List.mem_of_getElem? (i := 35) rfl)
  have w194 := hts (.methodLink RX5 194 yX0_spreadOf) (List.mem_of_getElem? (i := 42) rfl)
  have w197 := hts (.methodLink RX5 197 yX0_stepsOf) (List.mem_of_getElem? (i := 48) rfl)
  have w200 := hts (.methodLink RX5 200 yX2_isFed) (List.mem_of_getElem? (i := 55) rfl)
  have w203 := hts (.methodLink RX5 203 yX0_weightOf) (List.mem_of_getElem? (i := 61) rfl)
  have w40 := hts (.methodLink RX5 40 yX5_isCan) (List.mem_of_getElem? (i := 7) rfl)
  have w60 := hts (.fieldLink RX5 60 "DrawnSlivers$Frame" "cans" "LDrawnSlivers$Cans;") (List.mem_of_getElem? (i := 6) rfl)
  have w64 := hts (.methodLink RX5 64 yX0_sizeOf) (List.mem_of_getElem? (i := 11) rfl)
  have huX2 : ∀ w ∈ u_ws RX2 TX2 12, w.before _ s = true := fun w h => hts w (List.mem_cons_of_mem _ (List.mem_append_left _ (List.mem_append_left _ (List.mem_append_left _ (List.mem_append_right _ (h))))))
  have huX5 : ∀ w ∈ u_ws RX5 TX5 6, w.before _ s = true := fun w h => hts w (List.mem_cons_of_mem _ (List.mem_append_left _ (List.mem_append_left _ (List.mem_append_left _ (List.mem_append_left _ (List.mem_append_right _ (h)))))))
  have hl := lv_entry ([.ref (a 0), .int x1, .int x2]) (n := 3) (Nat.le_of_ble_eq_true rfl)
  rw [lg_entry_eq]
  generalize (lg_sl ([.ref (a 0), .int x1, .int x2]) ++ List.replicate (3 - (lg_sl ([.ref (a 0), .int x1, .int x2])).length) Slot.unset).toArray = ls at hl ⊢
  have hl : lv_has ls 3 [(0, .ref (a 0)), (1, .int x1), (2, .int x2)] := hl
  rw [m_X5_can] at h
  refine lv_iload_n hx hb dX5_can_0 rfl (lv_at hl 1 rfl) ?_
  obtain ⟨v1, g2, h⟩ := o_b h
  refine k_ro (va_runS (As := [.int x1]) (rest := []) ⟨hx, hb, hml, hown, hts⟩ (c_X5_isCan l dC dI cI cF x1 v1 g2) (va_cwS 1 hts gX5_can_X5_isCan rfl rfl rfl (by decide +kernel) ⟨Nat.le_of_ble_eq_true rfl, Nat.le_of_ble_eq_true rfl⟩) (k_prePU) rfl rfl hl.1 rfl (lv_room (Nat.le_of_ble_eq_true rfl)) dX5_can_1 ⟨Nat.zero_le _, Nat.zero_le _⟩) (st1 := [.int v1]) rfl ?_
  refine lv_if_ne (tgt := 17) hx hb dX5_can_4 (by decide) (fun c3 => ?_) (fun c3 => ?_)
  rotate_left
  · have h := o_t h c3
    cases h
  have h := o_f h c3
  refine lv_iload_n hx hb dX5_can_17 rfl (lv_at hl 2 rfl) ?_
  by_cases c_0 : x2 = 0
  · have h := o_t h c_0
    refine k_swIn (v := 0) (off := 46) (tgt := 64) hx hb c_0 dX5_can_18 (by decide) (by decide) (by decide +kernel) (by decide) ?_
    refine lv_aload_n hx hb dX5_can_64 rfl (lv_at hl 0 rfl) ?_
    refine va_get (D := (dC, dI)) (ci := 5) (v := .ref (a 1)) (C := RX5) (T := TX5) (N := 6) hx hb huX5 (fun _ h9 => h9) hown hK hP 0 rfl rfl 0 (by decide) w10 (fun _ h9 => h9) rfl dX5_can_65 ?_
    refine va_get (D := (dC, dI)) (ci := 2) (v := .ref (a 2)) (C := RX2) (T := TX2) (N := 12) hx hb huX2 (fun _ h9 => h9) hown hK hP 1 rfl rfl 0 (by decide) w60 (fun _ h9 => h9) rfl dX5_can_68 ?_
    refine lv_iload_n hx hb dX5_can_71 rfl (lv_at hl 1 rfl) ?_
    obtain ⟨v5, g6, h⟩ := o_b h
    refine k_ro (va_runV (As := [.int x1]) (rest := []) ⟨hx, hb, hml, hown, hts⟩ (c_X0_sizeOf l dC dI cI cF (fun i => a (i + 2)) (g_X2_cans (g_X5_frame S)) x1 v5 g6) (cwV 1 hts gX5_can_X0_sizeOf rfl rfl rfl (by decide +kernel) ⟨Nat.le_of_ble_eq_true rfl, Nat.le_of_ble_eq_true rfl⟩) (k_preL (q0 := 0) (ci := 0) hK hP (LX5_frame a cI cF S (s_X2_cans (g_X5_frame S) (g_X2_cans (g_X5_frame S))) (LX2_cans (fun i => a (i + 1)) cI cF (g_X5_frame S) (g_X2_cans (g_X5_frame S)) (LN_id (fX0 (fun i => a (i + 2)) cI cF (g_X2_cans (g_X5_frame S)) (g_X2_cans (g_X5_frame S)))))) rfl rfl rfl) rfl rfl hl.1 rfl (lv_room (Nat.le_of_ble_eq_true rfl)) dX5_can_72 ⟨Nat.zero_le _, Nat.zero_le _⟩) (st1 := [.int v5]) rfl ?_
    have hu := Sum.inr.inj (Option.some.inj h)
    exact W.iret (v := v5) hx hb hr (fun t ht hW => ⟨congrArg (fun z => Outcome.returned (some (Value.int z))) hu, ht⟩) (fun q hq => absurd hq List.not_mem_nil) dX5_can_75
  have h := o_f h c_0
  by_cases c_1 : x2 = 1
  · have h := o_t h c_1
    refine k_swIn (v := 1) (off := 58) (tgt := 76) hx hb c_1 dX5_can_18 (by decide) (by decide) (by decide +kernel) (by decide) ?_
    refine lv_aload_n hx hb dX5_can_76 rfl (lv_at hl 0 rfl) ?_
    refine va_get (D := (dC, dI)) (ci := 5) (v := .ref (a 1)) (C := RX5) (T := TX5) (N := 6) hx hb huX5 (fun _ h9 => h9) hown hK hP 0 rfl rfl 0 (by decide) w10 (fun _ h9 => h9) rfl dX5_can_77 ?_
    refine va_get (D := (dC, dI)) (ci := 2) (v := .ref (a 2)) (C := RX2) (T := TX2) (N := 12) hx hb huX2 (fun _ h9 => h9) hown hK hP 1 rfl rfl 0 (by decide) w60 (fun _ h9 => h9) rfl dX5_can_80 ?_
    refine lv_iload_n hx hb dX5_can_83 rfl (lv_at hl 1 rfl) ?_
    obtain ⟨v8, g9, h⟩ := o_b h
    refine k_ro (va_runV (As := [.int x1]) (rest := []) ⟨hx, hb, hml, hown, hts⟩ (c_X0_sumOf l dC dI cI cF (fun i => a (i + 2)) (g_X2_cans (g_X5_frame S)) x1 v8 g9) (cwV 1 hts gX5_can_X0_sumOf rfl rfl rfl (by decide +kernel) ⟨Nat.le_of_ble_eq_true rfl, Nat.le_of_ble_eq_true rfl⟩) (k_preL (q0 := 0) (ci := 0) hK hP (LX5_frame a cI cF S (s_X2_cans (g_X5_frame S) (g_X2_cans (g_X5_frame S))) (LX2_cans (fun i => a (i + 1)) cI cF (g_X5_frame S) (g_X2_cans (g_X5_frame S)) (LN_id (fX0 (fun i => a (i + 2)) cI cF (g_X2_cans (g_X5_frame S)) (g_X2_cans (g_X5_frame S)))))) rfl rfl rfl) rfl rfl hl.1 rfl (lv_room (Nat.le_of_ble_eq_true rfl)) dX5_can_84 ⟨Nat.zero_le _, Nat.zero_le _⟩) (st1 := [.int v8]) rfl ?_
    have hu := Sum.inr.inj (Option.some.inj h)
    exact W.iret (v := v8) hx hb hr (fun t ht hW => ⟨congrArg (fun z => Outcome.returned (some (Value.int z))) hu, ht⟩) (fun q hq => absurd hq List.not_mem_nil) dX5_can_87
  have h := o_f h c_1
  by_cases c_2 : x2 = 2
  · have h := o_t h c_2
    refine k_swIn (v := 2) (off := 70) (tgt := 88) hx hb c_2 dX5_can_18 (by decide) (by decide) (by decide +kernel) (by decide) ?_
    refine lv_aload_n hx hb dX5_can_88 rfl (lv_at hl 0 rfl) ?_
    refine va_get (D := (dC, dI)) (ci := 5) (v := .ref (a 1)) (C := RX5) (T := TX5) (N := 6) hx hb huX5 (fun _ h9 => h9) hown hK hP 0 rfl rfl 0 (by decide) w10 (fun _ h9 => h9) rfl dX5_can_89 ?_
    refine va_get (D := (dC, dI)) (ci := 2) (v := .ref (a 2)) (C := RX2) (T := TX2) (N := 12) hx hb huX2 (fun _ h9 => h9) hown hK hP 1 rfl rfl 0 (by decide) w60 (fun _ h9 => h9) rfl dX5_can_92 ?_
    refine lv_iload_n hx hb dX5_can_95 rfl (lv_at hl 1 rfl) ?_
    obtain ⟨v11, g12, h⟩ := o_b h
    refine k_ro (va_runV (As := [.int x1]) (rest := []) ⟨hx, hb, hml, hown, hts⟩ (c_X0_leastOf l dC dI cI cF (fun i => a (i + 2)) (g_X2_cans (g_X5_frame S)) x1 v11 g12) (cwV 1 hts gX5_can_X0_leastOf rfl rfl rfl (by decide +kernel) ⟨Nat.le_of_ble_eq_true rfl, Nat.le_of_ble_eq_true rfl⟩) (k_preL (q0 := 0) (ci := 0) hK hP (LX5_frame a cI cF S (s_X2_cans (g_X5_frame S) (g_X2_cans (g_X5_frame S))) (LX2_cans (fun i => a (i + 1)) cI cF (g_X5_frame S) (g_X2_cans (g_X5_frame S)) (LN_id (fX0 (fun i => a (i + 2)) cI cF (g_X2_cans (g_X5_frame S)) (g_X2_cans (g_X5_frame S)))))) rfl rfl rfl) rfl rfl hl.1 rfl (lv_room (Nat.le_of_ble_eq_true rfl)) dX5_can_96 ⟨Nat.zero_le _, Nat.zero_le _⟩) (st1 := [.int v11]) rfl ?_
    have hu := Sum.inr.inj (Option.some.inj h)
    exact W.iret (v := v11) hx hb hr (fun t ht hW => ⟨congrArg (fun z => Outcome.returned (some (Value.int z))) hu, ht⟩) (fun q hq => absurd hq List.not_mem_nil) dX5_can_99
  have h := o_f h c_2
  by_cases c_3 : x2 = 3
  · have h := o_t h c_3
    refine k_swIn (v := 3) (off := 82) (tgt := 100) hx hb c_3 dX5_can_18 (by decide) (by decide) (by decide +kernel) (by decide) ?_
    refine lv_aload_n hx hb dX5_can_100 rfl (lv_at hl 0 rfl) ?_
    refine va_get (D := (dC, dI)) (ci := 5) (v := .ref (a 1)) (C := RX5) (T := TX5) (N := 6) hx hb huX5 (fun _ h9 => h9) hown hK hP 0 rfl rfl 0 (by decide) w10 (fun _ h9 => h9) rfl dX5_can_101 ?_
    refine va_get (D := (dC, dI)) (ci := 2) (v := .ref (a 2)) (C := RX2) (T := TX2) (N := 12) hx hb huX2 (fun _ h9 => h9) hown hK hP 1 rfl rfl 0 (by decide) w60 (fun _ h9 => h9) rfl dX5_can_104 ?_
    refine lv_iload_n hx hb dX5_can_107 rfl (lv_at hl 1 rfl) ?_
    obtain ⟨v14, g15, h⟩ := o_b h
    refine k_ro (va_runV (As := [.int x1]) (rest := []) ⟨hx, hb, hml, hown, hts⟩ (c_X0_greatestOf l dC dI cI cF (fun i => a (i + 2)) (g_X2_cans (g_X5_frame S)) x1 v14 g15) (cwV 1 hts gX5_can_X0_greatestOf rfl rfl rfl (by decide +kernel) ⟨Nat.le_of_ble_eq_true rfl, Nat.le_of_ble_eq_true rfl⟩) (k_preL (q0 := 0) (ci := 0) hK hP (LX5_frame a cI cF S (s_X2_cans (g_X5_frame S) (g_X2_cans (g_X5_frame S))) (LX2_cans (fun i => a (i + 1)) cI cF (g_X5_frame S) (g_X2_cans (g_X5_frame S)) (LN_id (fX0 (fun i => a (i + 2)) cI cF (g_X2_cans (g_X5_frame S)) (g_X2_cans (g_X5_frame S)))))) rfl rfl rfl) rfl rfl hl.1 rfl (lv_room (Nat.le_of_ble_eq_true rfl)) dX5_can_108 ⟨Nat.zero_le _, Nat.zero_le _⟩) (st1 := [.int v14]) rfl ?_
    have hu := Sum.inr.inj (Option.some.inj h)
    exact W.iret (v := v14) hx hb hr (fun t ht hW => ⟨congrArg (fun z => Outcome.returned (some (Value.int z))) hu, ht⟩) (fun q hq => absurd hq List.not_mem_nil) dX5_can_111
  have h := o_f h c_3
  by_cases c_4 : x2 = 4
  · have h := o_t h c_4
    refine k_swIn (v := 4) (off := 94) (tgt := 112) hx hb c_4 dX5_can_18 (by decide) (by decide) (by decide +kernel) (by decide) ?_
    refine lv_aload_n hx hb dX5_can_112 rfl (lv_at hl 0 rfl) ?_
    refine va_get (D := (dC, dI)) (ci := 5) (v := .ref (a 1)) (C := RX5) (T := TX5) (N := 6) hx hb huX5 (fun _ h9 => h9) hown hK hP 0 rfl rfl 0 (by decide) w10 (fun _ h9 => h9) rfl dX5_can_113 ?_
    refine va_get (D := (dC, dI)) (ci := 2) (v := .ref (a 2)) (C := RX2) (T := TX2) (N := 12) hx hb huX2 (fun _ h9 => h9) hown hK hP 1 rfl rfl 0 (by decide) w60 (fun _ h9 => h9) rfl dX5_can_116 ?_
    refine lv_iload_n hx hb dX5_can_119 rfl (lv_at hl 1 rfl) ?_
    obtain ⟨v17, g18, h⟩ := o_b h
    refine k_ro (va_runV (As := [.int x1]) (rest := []) ⟨hx, hb, hml, hown, hts⟩ (c_X0_spreadOf l dC dI cI cF (fun i => a (i + 2)) (g_X2_cans (g_X5_frame S)) x1 v17 g18) (cwV 1 hts gX5_can_X0_spreadOf rfl rfl rfl (by decide +kernel) ⟨Nat.le_of_ble_eq_true rfl, Nat.le_of_ble_eq_true rfl⟩) (k_preL (q0 := 0) (ci := 0) hK hP (LX5_frame a cI cF S (s_X2_cans (g_X5_frame S) (g_X2_cans (g_X5_frame S))) (LX2_cans (fun i => a (i + 1)) cI cF (g_X5_frame S) (g_X2_cans (g_X5_frame S)) (LN_id (fX0 (fun i => a (i + 2)) cI cF (g_X2_cans (g_X5_frame S)) (g_X2_cans (g_X5_frame S)))))) rfl rfl rfl) rfl rfl hl.1 rfl (lv_room (Nat.le_of_ble_eq_true rfl)) dX5_can_120 ⟨Nat.zero_le _, Nat.zero_le _⟩) (st1 := [.int v17]) rfl ?_
    have hu := Sum.inr.inj (Option.some.inj h)
    exact W.iret (v := v17) hx hb hr (fun t ht hW => ⟨congrArg (fun z => Outcome.returned (some (Value.int z))) hu, ht⟩) (fun q hq => absurd hq List.not_mem_nil) dX5_can_123
  have h := o_f h c_4
  by_cases c_5 : x2 = 5
  · have h := o_t h c_5
    refine k_swIn (v := 5) (off := 106) (tgt := 124) hx hb c_5 dX5_can_18 (by decide) (by decide) (by decide +kernel) (by decide) ?_
    refine lv_aload_n hx hb dX5_can_124 rfl (lv_at hl 0 rfl) ?_
    refine va_get (D := (dC, dI)) (ci := 5) (v := .ref (a 1)) (C := RX5) (T := TX5) (N := 6) hx hb huX5 (fun _ h9 => h9) hown hK hP 0 rfl rfl 0 (by decide) w10 (fun _ h9 => h9) rfl dX5_can_125 ?_
    refine va_get (D := (dC, dI)) (ci := 2) (v := .ref (a 2)) (C := RX2) (T := TX2) (N := 12) hx hb huX2 (fun _ h9 => h9) hown hK hP 1 rfl rfl 0 (by decide) w60 (fun _ h9 => h9) rfl dX5_can_128 ?_
    refine lv_iload_n hx hb dX5_can_131 rfl (lv_at hl 1 rfl) ?_
    obtain ⟨v20, g21, h⟩ := o_b h
    refine k_ro (va_runV (As := [.int x1]) (rest := []) ⟨hx, hb, hml, hown, hts⟩ (c_X0_stepsOf l dC dI cI cF (fun i => a (i + 2)) (g_X2_cans (g_X5_frame S)) x1 v20 g21) (cwV 1 hts gX5_can_X0_stepsOf rfl rfl rfl (by decide +kernel) ⟨Nat.le_of_ble_eq_true rfl, Nat.le_of_ble_eq_true rfl⟩) (k_preL (q0 := 0) (ci := 0) hK hP (LX5_frame a cI cF S (s_X2_cans (g_X5_frame S) (g_X2_cans (g_X5_frame S))) (LX2_cans (fun i => a (i + 1)) cI cF (g_X5_frame S) (g_X2_cans (g_X5_frame S)) (LN_id (fX0 (fun i => a (i + 2)) cI cF (g_X2_cans (g_X5_frame S)) (g_X2_cans (g_X5_frame S)))))) rfl rfl rfl) rfl rfl hl.1 rfl (lv_room (Nat.le_of_ble_eq_true rfl)) dX5_can_132 ⟨Nat.zero_le _, Nat.zero_le _⟩) (st1 := [.int v20]) rfl ?_
    have hu := Sum.inr.inj (Option.some.inj h)
    exact W.iret (v := v20) hx hb hr (fun t ht hW => ⟨congrArg (fun z => Outcome.returned (some (Value.int z))) hu, ht⟩) (fun q hq => absurd hq List.not_mem_nil) dX5_can_135
  have h := o_f h c_5
  by_cases c_6 : x2 = 6
  · have h := o_t h c_6
    refine k_swIn (v := 6) (off := 118) (tgt := 136) hx hb c_6 dX5_can_18 (by decide) (by decide) (by decide +kernel) (by decide) ?_
    refine lv_aload_n hx hb dX5_can_136 rfl (lv_at hl 0 rfl) ?_
    refine va_get (D := (dC, dI)) (ci := 5) (v := .ref (a 1)) (C := RX5) (T := TX5) (N := 6) hx hb huX5 (fun _ h9 => h9) hown hK hP 0 rfl rfl 0 (by decide) w10 (fun _ h9 => h9) rfl dX5_can_137 ?_
    refine lv_iload_n hx hb dX5_can_140 rfl (lv_at hl 1 rfl) ?_
    obtain ⟨v23, g24, h⟩ := o_b h
    refine k_ro (va_runV (As := [.int x1]) (rest := []) ⟨hx, hb, hml, hown, hts⟩ (c_X2_isFed l dC dI cI cF (fun i => a (i + 1)) (g_X5_frame S) x1 v23 g24) (cwV 1 hts gX5_can_X2_isFed rfl rfl rfl (by decide +kernel) ⟨Nat.le_of_ble_eq_true rfl, Nat.le_of_ble_eq_true rfl⟩) (k_preL (q0 := 0) (ci := 2) hK hP (LX5_frame a cI cF S (g_X5_frame S) (LN_id (fX2 (fun i => a (i + 1)) cI cF (g_X5_frame S) (g_X5_frame S)))) rfl rfl rfl) rfl rfl hl.1 rfl (lv_room (Nat.le_of_ble_eq_true rfl)) dX5_can_141 ⟨Nat.zero_le _, Nat.zero_le _⟩) (st1 := [.int v23]) rfl ?_
    refine lv_if_eq (tgt := 151) hx hb dX5_can_144 (by decide) (fun c25 => ?_) (fun c25 => ?_)
    · have h := o_t h c25
      refine lv_iconst (v := (0 : Int32)) hx hb dX5_can_151 (by decide) ?_
      have hu := Sum.inr.inj (Option.some.inj h)
      exact W.iret (v := (0 : Int32)) hx hb hr (fun t ht hW => ⟨congrArg (fun z => Outcome.returned (some (Value.int z))) hu, ht⟩) (fun q hq => absurd hq List.not_mem_nil) dX5_can_152
    have h := o_f h c25
    refine lv_iconst (v := (1 : Int32)) hx hb dX5_can_147 (by decide) ?_
    refine lv_goto (tgt := 152) hx hb dX5_can_148 (by decide) ?_
    have hu := Sum.inr.inj (Option.some.inj h)
    exact W.iret (v := (1 : Int32)) hx hb hr (fun t ht hW => ⟨congrArg (fun z => Outcome.returned (some (Value.int z))) hu, ht⟩) (fun q hq => absurd hq List.not_mem_nil) dX5_can_152
  have h := o_f h c_6
  by_cases c_7 : x2 = 7
  · have h := o_t h c_7
    refine k_swIn (v := 7) (off := 135) (tgt := 153) hx hb c_7 dX5_can_18 (by decide) (by decide) (by decide +kernel) (by decide) ?_
    refine lv_aload_n hx hb dX5_can_153 rfl (lv_at hl 0 rfl) ?_
    refine va_get (D := (dC, dI)) (ci := 5) (v := .ref (a 1)) (C := RX5) (T := TX5) (N := 6) hx hb huX5 (fun _ h9 => h9) hown hK hP 0 rfl rfl 0 (by decide) w10 (fun _ h9 => h9) rfl dX5_can_154 ?_
    refine va_get (D := (dC, dI)) (ci := 2) (v := .ref (a 2)) (C := RX2) (T := TX2) (N := 12) hx hb huX2 (fun _ h9 => h9) hown hK hP 1 rfl rfl 0 (by decide) w60 (fun _ h9 => h9) rfl dX5_can_157 ?_
    refine lv_iload_n hx hb dX5_can_160 rfl (lv_at hl 1 rfl) ?_
    refine lv_iconst (v := (0 : Int32)) hx hb dX5_can_161 (by decide) ?_
    obtain ⟨v27, g28, h⟩ := o_b h
    refine k_ro (va_runV (As := [.int x1, .int (0 : Int32)]) (rest := []) ⟨hx, hb, hml, hown, hts⟩ (c_X0_weightOf l dC dI cI cF (fun i => a (i + 2)) (g_X2_cans (g_X5_frame S)) x1 (0 : Int32) v27 g28) (cwV 2 hts gX5_can_X0_weightOf rfl rfl rfl (by decide +kernel) ⟨Nat.le_of_ble_eq_true rfl, Nat.le_of_ble_eq_true rfl⟩) (k_preL (q0 := 0) (ci := 0) hK hP (LX5_frame a cI cF S (s_X2_cans (g_X5_frame S) (g_X2_cans (g_X5_frame S))) (LX2_cans (fun i => a (i + 1)) cI cF (g_X5_frame S) (g_X2_cans (g_X5_frame S)) (LN_id (fX0 (fun i => a (i + 2)) cI cF (g_X2_cans (g_X5_frame S)) (g_X2_cans (g_X5_frame S)))))) rfl rfl rfl) rfl rfl hl.1 rfl (lv_room (Nat.le_of_ble_eq_true rfl)) dX5_can_162 ⟨Nat.zero_le _, Nat.zero_le _⟩) (st1 := [.int v27]) rfl ?_
    have hu := Sum.inr.inj (Option.some.inj h)
    exact W.iret (v := v27) hx hb hr (fun t ht hW => ⟨congrArg (fun z => Outcome.returned (some (Value.int z))) hu, ht⟩) (fun q hq => absurd hq List.not_mem_nil) dX5_can_165
  have h := o_f h c_7
  refine lv_tableOut (tgt := 166) hx hb dX5_can_18 (k_swOut 7 (by decide) _ (fun k hk => ?_)) (by decide) ?_
  · rcases (show k = 0 ∨ k = 1 ∨ k = 2 ∨ k = 3 ∨ k = 4 ∨ k = 5 ∨ k = 6 ∨ k = 7 by omega) with rfl | rfl | rfl | rfl | rfl | rfl | rfl | rfl <;> first | exact c_0 | exact c_1 | exact c_2 | exact c_3 | exact c_4 | exact c_5 | exact c_6 | exact c_7
  cases h

def m_X5_metre (S : S_X5) (x1 : Int32) (x2 : Int32) : Option ((Nat) ⊕ (Int32)) := (m_X5_isCan x1).bind fun v1 => (if v1 = 0 then (some (.inl 1)) else (if 0 ≤ x2 then ((m_X0_weightOf (g_X2_cans (g_X5_frame S)) x1 x2).bind fun v5 => (some (.inr v5))) else (some (.inl 2))))
set_option maxHeartbeats 4000000 in
set_option maxRecDepth 100000 in
theorem c_X5_metre (l : Launch) (dC : Nat → ClassId) (dI : Nat → Nat → Nat) (cI cF : ClassId) (a : Nat → Nat) (S : S_X5) (x1 : Int32) (x2 : Int32) (u : Int32) (h : m_X5_metre S x1 x2 = some (.inr u)) : cRO l (dC, dI) cI cF yX5_metre wsX5_metre ({ frames := 2, cells := 0, slots := 0, locals := 44 } : Room) [.ref (a 0), .int x1, .int x2] (wX5 a cI cF S) (some (.int u)) := by
  refine Met.ofW (cc := cX5_metre) (maxL := 3) (ret := (some .int)) (by decide) rfl ?_
  intro p e s m args below meth c s₁ B hml hv
  obtain ⟨hargs, hP, hK⟩ := hv
  subst hargs
  have hx := B.exec
  have hb := B.bytes
  have hr := B.returns
  have hts := atoms_spec (ws := wsX5_metre) B.pre
  have hown : s.vm.findClass RX5 = some m.cls := findClass_of_methodNamed B.named
  have hlocks := B.notSynchronized
  have w10 := hts (.fieldLink RX5 10 "DrawnSlivers" "frame" "LDrawnSlivers$Frame;") (List.mem_of_getElem? (i := 5) rfl)
  have w203 := hts (.methodLink RX5 203 yX0_weightOf) (List.mem_of_getElem? (i := 11) rfl)
  have w40 := hts (.methodLink RX5 40 yX5_isCan) (List.mem_of_getElem? (i := 7) rfl)
  have w60 := hts (.fieldLink RX5 60 "DrawnSlivers$Frame" "cans" "LDrawnSlivers$Cans;") (List.mem_of_getElem? (i := 6) rfl)
  have huX2 : ∀ w ∈ u_ws RX2 TX2 12, w.before _ s = true := fun w h => hts w (List.mem_cons_of_mem _ (List.mem_append_left _ (List.mem_append_left _ (List.mem_append_left _ (List.mem_append_right _ (h))))))
  have huX5 : ∀ w ∈ u_ws RX5 TX5 6, w.before _ s = true := fun w h => hts w (List.mem_cons_of_mem _ (List.mem_append_left _ (List.mem_append_left _ (List.mem_append_left _ (List.mem_append_left _ (List.mem_append_right _ (h)))))))
  have hl := lv_entry ([.ref (a 0), .int x1, .int x2]) (n := 3) (Nat.le_of_ble_eq_true rfl)
  rw [lg_entry_eq]
  generalize (lg_sl ([.ref (a 0), .int x1, .int x2]) ++ List.replicate (3 - (lg_sl ([.ref (a 0), .int x1, .int x2])).length) Slot.unset).toArray = ls at hl ⊢
  have hl : lv_has ls 3 [(0, .ref (a 0)), (1, .int x1), (2, .int x2)] := hl
  rw [m_X5_metre] at h
  refine lv_iload_n hx hb dX5_metre_0 rfl (lv_at hl 1 rfl) ?_
  obtain ⟨v1, g2, h⟩ := o_b h
  refine k_ro (va_runS (As := [.int x1]) (rest := []) ⟨hx, hb, hml, hown, hts⟩ (c_X5_isCan l dC dI cI cF x1 v1 g2) (va_cwS 1 hts gX5_metre_X5_isCan rfl rfl rfl (by decide +kernel) ⟨Nat.le_of_ble_eq_true rfl, Nat.le_of_ble_eq_true rfl⟩) (k_prePU) rfl rfl hl.1 rfl (lv_room (Nat.le_of_ble_eq_true rfl)) dX5_metre_1 ⟨Nat.zero_le _, Nat.zero_le _⟩) (st1 := [.int v1]) rfl ?_
  refine lv_if_ne (tgt := 17) hx hb dX5_metre_4 (by decide) (fun c3 => ?_) (fun c3 => ?_)
  rotate_left
  · have h := o_t h c3
    cases h
  have h := o_f h c3
  refine lv_iload_n hx hb dX5_metre_17 rfl (lv_at hl 2 rfl) ?_
  refine lv_if_ge (tgt := 31) hx hb dX5_metre_18 (by decide) (fun c4 => ?_) (fun c4 => ?_)
  rotate_left
  · have h := o_f h c4
    cases h
  have h := o_t h c4
  refine lv_aload_n hx hb dX5_metre_31 rfl (lv_at hl 0 rfl) ?_
  refine va_get (D := (dC, dI)) (ci := 5) (v := .ref (a 1)) (C := RX5) (T := TX5) (N := 6) hx hb huX5 (fun _ h9 => h9) hown hK hP 0 rfl rfl 0 (by decide) w10 (fun _ h9 => h9) rfl dX5_metre_32 ?_
  refine va_get (D := (dC, dI)) (ci := 2) (v := .ref (a 2)) (C := RX2) (T := TX2) (N := 12) hx hb huX2 (fun _ h9 => h9) hown hK hP 1 rfl rfl 0 (by decide) w60 (fun _ h9 => h9) rfl dX5_metre_35 ?_
  refine lv_iload_n hx hb dX5_metre_38 rfl (lv_at hl 1 rfl) ?_
  refine lv_iload_n hx hb dX5_metre_39 rfl (lv_at hl 2 rfl) ?_
  obtain ⟨v5, g6, h⟩ := o_b h
  refine k_ro (va_runV (As := [.int x1, .int x2]) (rest := []) ⟨hx, hb, hml, hown, hts⟩ (c_X0_weightOf l dC dI cI cF (fun i => a (i + 2)) (g_X2_cans (g_X5_frame S)) x1 x2 v5 g6) (cwV 2 hts gX5_metre_X0_weightOf rfl rfl rfl (by decide +kernel) ⟨Nat.le_of_ble_eq_true rfl, Nat.le_of_ble_eq_true rfl⟩) (k_preL (q0 := 0) (ci := 0) hK hP (LX5_frame a cI cF S (s_X2_cans (g_X5_frame S) (g_X2_cans (g_X5_frame S))) (LX2_cans (fun i => a (i + 1)) cI cF (g_X5_frame S) (g_X2_cans (g_X5_frame S)) (LN_id (fX0 (fun i => a (i + 2)) cI cF (g_X2_cans (g_X5_frame S)) (g_X2_cans (g_X5_frame S)))))) rfl rfl rfl) rfl rfl hl.1 rfl (lv_room (Nat.le_of_ble_eq_true rfl)) dX5_metre_40 ⟨Nat.zero_le _, Nat.zero_le _⟩) (st1 := [.int v5]) rfl ?_
  have hu := Sum.inr.inj (Option.some.inj h)
  exact W.iret (v := v5) hx hb hr (fun t ht hW => ⟨congrArg (fun z => Outcome.returned (some (Value.int z))) hu, ht⟩) (fun q hq => absurd hq List.not_mem_nil) dX5_metre_43

def m_X5_setting (S : S_X5) (x1 : Int32) : Option ((Nat) ⊕ (Int32)) := (m_X5_isSetting x1).bind fun v1 => (if v1 = 0 then (some (.inl 1)) else ((m_X2_settingOf (g_X5_frame S) x1).bind fun v4 => (some (.inr v4))))
set_option maxHeartbeats 4000000 in
set_option maxRecDepth 100000 in
theorem c_X5_setting (l : Launch) (dC : Nat → ClassId) (dI : Nat → Nat → Nat) (cI cF : ClassId) (a : Nat → Nat) (S : S_X5) (x1 : Int32) (u : Int32) (h : m_X5_setting S x1 = some (.inr u)) : cRO l (dC, dI) cI cF yX5_setting wsX5_setting ({ frames := 1, cells := 0, slots := 0, locals := 21 } : Room) [.ref (a 0), .int x1] (wX5 a cI cF S) (some (.int u)) := by
  refine Met.ofW (cc := cX5_setting) (maxL := 2) (ret := (some .int)) (by decide) rfl ?_
  intro p e s m args below meth c s₁ B hml hv
  obtain ⟨hargs, hP, hK⟩ := hv
  subst hargs
  have hx := B.exec
  have hb := B.bytes
  have hr := B.returns
  have hts := atoms_spec (ws := wsX5_setting) B.pre
  have hown : s.vm.findClass RX5 = some m.cls := findClass_of_methodNamed B.named
  have hlocks := B.notSynchronized
  have w10 := hts (.fieldLink RX5 10 "DrawnSlivers" "frame" "LDrawnSlivers$Frame;") (List.mem_of_getElem? (i := 3) rfl)
  have w138 := hts (.methodLink RX5 138 yX5_isSetting) (List.mem_of_getElem? (i := 4) rfl)
  have w149 := hts (.methodLink RX5 149 yX2_settingOf) (List.mem_of_getElem? (i := 8) rfl)
  have huX5 : ∀ w ∈ u_ws RX5 TX5 6, w.before _ s = true := fun w h => hts w (List.mem_cons_of_mem _ (List.mem_append_left _ (List.mem_append_left _ (List.mem_append_right _ (h)))))
  have hl := lv_entry ([.ref (a 0), .int x1]) (n := 2) (Nat.le_of_ble_eq_true rfl)
  rw [lg_entry_eq]
  generalize (lg_sl ([.ref (a 0), .int x1]) ++ List.replicate (2 - (lg_sl ([.ref (a 0), .int x1])).length) Slot.unset).toArray = ls at hl ⊢
  have hl : lv_has ls 2 [(0, .ref (a 0)), (1, .int x1)] := hl
  rw [m_X5_setting] at h
  refine lv_iload_n hx hb dX5_setting_0 rfl (lv_at hl 1 rfl) ?_
  obtain ⟨v1, g2, h⟩ := o_b h
  refine k_ro (va_runS (As := [.int x1]) (rest := []) ⟨hx, hb, hml, hown, hts⟩ (c_X5_isSetting l dC dI cI cF x1 v1 g2) (va_cwS 1 hts gX5_setting_X5_isSetting rfl rfl rfl (by decide +kernel) ⟨Nat.le_of_ble_eq_true rfl, Nat.le_of_ble_eq_true rfl⟩) (k_prePU) rfl rfl hl.1 rfl (lv_room (Nat.le_of_ble_eq_true rfl)) dX5_setting_1 ⟨Nat.zero_le _, Nat.zero_le _⟩) (st1 := [.int v1]) rfl ?_
  refine lv_if_ne (tgt := 17) hx hb dX5_setting_4 (by decide) (fun c3 => ?_) (fun c3 => ?_)
  rotate_left
  · have h := o_t h c3
    cases h
  have h := o_f h c3
  refine lv_aload_n hx hb dX5_setting_17 rfl (lv_at hl 0 rfl) ?_
  refine va_get (D := (dC, dI)) (ci := 5) (v := .ref (a 1)) (C := RX5) (T := TX5) (N := 6) hx hb huX5 (fun _ h9 => h9) hown hK hP 0 rfl rfl 0 (by decide) w10 (fun _ h9 => h9) rfl dX5_setting_18 ?_
  refine lv_iload_n hx hb dX5_setting_21 rfl (lv_at hl 1 rfl) ?_
  obtain ⟨v4, g5, h⟩ := o_b h
  refine k_ro (va_runV (As := [.int x1]) (rest := []) ⟨hx, hb, hml, hown, hts⟩ (c_X2_settingOf l dC dI cI cF (fun i => a (i + 1)) (g_X5_frame S) x1 v4 g5) (cwV 1 hts gX5_setting_X2_settingOf rfl rfl rfl (by decide +kernel) ⟨Nat.le_of_ble_eq_true rfl, Nat.le_of_ble_eq_true rfl⟩) (k_preL (q0 := 0) (ci := 2) hK hP (LX5_frame a cI cF S (g_X5_frame S) (LN_id (fX2 (fun i => a (i + 1)) cI cF (g_X5_frame S) (g_X5_frame S)))) rfl rfl rfl) rfl rfl hl.1 rfl (lv_room (Nat.le_of_ble_eq_true rfl)) dX5_setting_22 ⟨Nat.zero_le _, Nat.zero_le _⟩) (st1 := [.int v4]) rfl ?_
  have hu := Sum.inr.inj (Option.some.inj h)
  exact W.iret (v := v4) hx hb hr (fun t ht hW => ⟨congrArg (fun z => Outcome.returned (some (Value.int z))) hu, ht⟩) (fun q hq => absurd hq List.not_mem_nil) dX5_setting_25

