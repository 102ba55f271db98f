-- X5_can X5_metre X5_setting X5_ifRun
def m_X5_can (S : S_X5) (x1 : Int32) (x2 : Int32) : Option ((Nat) ⊕ (Int32)) := (m_X5_isCan x1).bind fun v1 => (if v1 = 0 then (some (.inl 1)) else (if x2 = 0 then ((m_X0_sizeOf (g_X2_cans (g_X5_frame S)) x1).bind fun v5 => (some (.inr v5))) else if x2 = 1 then ((m_X0_sumOf (g_X2_cans (g_X5_frame S)) x1).bind fun v8 => (some (.inr v8))) else if x2 = 2 then ((m_X0_leastOf (g_X2_cans (g_X5_frame S)) x1).bind fun v11 => (some (.inr v11))) else if x2 = 3 then ((m_X0_greatestOf (g_X2_cans (g_X5_frame S)) x1).bind fun v14 => (some (.inr v14))) else if x2 = 4 then ((m_X0_spreadOf (g_X2_cans (g_X5_frame S)) x1).bind fun v17 => (some (.inr v17))) else if x2 = 5 then ((m_X0_stepsOf (g_X2_cans (g_X5_frame S)) x1).bind fun v20 => (some (.inr v20))) else if x2 = 6 then ((m_X2_isFed (g_X5_frame S) x1).bind fun v23 => (if v23 = 0 then (some (.inr (0 : Int32))) else (some (.inr (1 : Int32))))) else if x2 = 7 then ((m_X0_weightOf (g_X2_cans (g_X5_frame S)) x1 (0 : Int32)).bind fun v27 => (some (.inr v27))) else (some (.inl 2))))
set_option maxHeartbeats 4000000 in
set_option maxRecDepth 100000 in
theorem c_X5_can (l : Launch) (dC : Nat → ClassId) (dI : Nat → Nat → Nat) (cI cF : ClassId) (a : Nat → Nat) (S : S_X5) (x1 : Int32) (x2 : Int32) (u : Int32) (h : m_X5_can S x1 x2 = some (.inr u)) : cRO l (dC, dI) cI cF yX5_can wsX5_can ({ frames := 4, cells := 0, slots := 0, locals := 89 } : Room) [.ref (a 0), .int x1, .int x2] (wX5 a cI cF S) (some (.int u)) := by
  refine Met.ofW (cc := cX5_can) (maxL := 3) (ret := (some .int)) (by decide) rfl ?_
  intro p e s m args below meth c s₁ B hml hv
  obtain ⟨hargs, hP, hK⟩ := hv
  subst hargs
  have hx := B.exec
  have hb := B.bytes
  have hr := B.returns
  have hts := atoms_spec (ws := wsX5_can) B.pre
  have hown : s.vm.findClass RX5 = some m.cls := findClass_of_methodNamed B.named
  have hlocks := B.notSynchronized
  have w10 := hts (.fieldLink RX5 10 "DrawnSlivers" "frame" "LDrawnSlivers$Frame;") (List.mem_of_getElem? (i := 5) rfl)
  have w103 := hts (.methodLink RX5 103 yX0_sumOf) (List.mem_of_getElem? (i := 17) rfl)
  have w188 := hts (.methodLink RX5 188 yX0_leastOf) (List.mem_of_getElem? (i := 27) rfl)
  have w191 := hts (.methodLink RX5 191 yX0_greatestOf) (List.mem_of_getElem? (i := 35) rfl)
  have w194 := hts (.methodLink RX5 194 yX0_spreadOf) (List.mem_of_getElem? (i := 42) rfl)
  have w197 := hts (.methodLink RX5 197 yX0_stepsOf) (List.mem_of_getElem? (i := 48) rfl)
  have w200 := hts (.methodLink RX5 200 yX2_isFed) (List.mem_of_getElem? (i := 55) rfl)
  have w203 := hts (.methodLink RX5 203 yX0_weightOf) (List.mem_of_getElem? (i := 61) rfl)
  have w40 := hts (.methodLink RX5 40 yX5_isCan) (List.mem_of_getElem? (i := 7) rfl)
  have w60 := hts (.fieldLink RX5 60 "DrawnSlivers$Frame" "cans" "LDrawnSlivers$Cans;") (List.mem_of_getElem? (i := 6) rfl)
  have w64 := hts (.methodLink RX5 64 yX0_sizeOf) (List.mem_of_getElem? (i := 11) rfl)
  have huX2 : ∀ w ∈ u_ws RX2 TX2 12, w.before _ s = true := fun w h => hts w (List.mem_cons_of_mem _ (List.mem_append_left _ (List.mem_append_left _ (List.mem_append_left _ (List.mem_append_right _ (h))))))
  have huX5 : ∀ w ∈ u_ws RX5 TX5 6, w.before _ s = true := fun w h => hts w (List.mem_cons_of_mem _ (List.mem_append_left _ (List.mem_append_left _ (List.mem_append_left _ (List.mem_append_left _ (List.mem_append_right _ (h)))))))
  have hl := lv_entry ([.ref (a 0), .int x1, .int x2]) (n := 3) (Nat.le_of_ble_eq_true rfl)
  rw [lg_entry_eq]
  generalize (lg_sl ([.ref (a 0), .int x1, .int x2]) ++ List.replicate (3 - (lg_sl ([.ref (a 0), .int x1, .int x2])).length) Slot.unset).toArray = ls at hl ⊢
  have hl : lv_has ls 3 [(0, .ref (a 0)), (1, .int x1), (2, .int x2)] := hl
  rw [m_X5_can] at h
  refine lv_iload_n hx hb dX5_can_0 rfl (lv_at hl 1 rfl) ?_
  obtain ⟨v1, g2, h⟩ := o_b h
  refine k_ro (va_runS (As := [.int x1]) (rest := []) ⟨hx, hb, hml, hown, hts⟩ (c_X5_isCan l dC dI cI cF x1 v1 g2) (va_cwS 1 hts gX5_can_X5_isCan rfl rfl rfl (by decide +kernel) ⟨Nat.le_of_ble_eq_true rfl, Nat.le_of_ble_eq_true rfl⟩) (k_prePU) rfl rfl hl.1 rfl (lv_room (Nat.le_of_ble_eq_true rfl)) dX5_can_1 ⟨Nat.zero_le _, Nat.zero_le _⟩) (st1 := [.int v1]) rfl ?_
  refine lv_if_ne (tgt := 17) hx hb dX5_can_4 (by decide) (fun c3 => ?_) (fun c3 => ?_)
  rotate_left
  · have h := o_t h c3
    cases h
  have h := o_f h c3
  refine lv_iload_n hx hb dX5_can_17 rfl (lv_at hl 2 rfl) ?_
  by_cases c_0 : x2 = 0
  · have h := o_t h c_0
    refine k_swIn (v := 0) (off := 46) (tgt := 64) hx hb c_0 dX5_can_18 (by decide) (by decide) (by decide +kernel) (by decide) ?_
    refine lv_aload_n hx hb dX5_can_64 rfl (lv_at hl 0 rfl) ?_
    refine va_get (D := (dC, dI)) (ci := 5) (v := .ref (a 1)) (C := RX5) (T := TX5) (N := 6) hx hb huX5 (fun _ h9 => h9) hown hK hP 0 rfl rfl 0 (by decide) w10 (fun _ h9 => h9) rfl dX5_can_65 ?_
    refine va_get (D := (dC, dI)) (ci := 2) (v := .ref (a 2)) (C := RX2) (T := TX2) (N := 12) hx hb huX2 (fun _ h9 => h9) hown hK hP 1 rfl rfl 0 (by decide) w60 (fun _ h9 => h9) rfl dX5_can_68 ?_
    refine lv_iload_n hx hb dX5_can_71 rfl (lv_at hl 1 rfl) ?_
    obtain ⟨v5, g6, h⟩ := o_b h
    refine k_ro (va_runV (As := [.int x1]) (rest := []) ⟨hx, hb, hml, hown, hts⟩ (c_X0_sizeOf l dC dI cI cF (fun i => a (i + 2)) (g_X2_cans (g_X5_frame S)) x1 v5 g6) (cwV 1 hts gX5_can_X0_sizeOf rfl rfl rfl (by decide +kernel) ⟨Nat.le_of_ble_eq_true rfl, Nat.le_of_ble_eq_true rfl⟩) (k_preL (q0 := 0) (ci := 0) hK hP (LX5_frame a cI cF S (s_X2_cans (g_X5_frame S) (g_X2_cans (g_X5_frame S))) (LX2_cans (fun i => a (i + 1)) cI cF (g_X5_frame S) (g_X2_cans (g_X5_frame S)) (LN_id (fX0 (fun i => a (i + 2)) cI cF (g_X2_cans (g_X5_frame S)) (g_X2_cans (g_X5_frame S)))))) rfl rfl rfl) rfl rfl hl.1 rfl (lv_room (Nat.le_of_ble_eq_true rfl)) dX5_can_72 ⟨Nat.zero_le _, Nat.zero_le _⟩) (st1 := [.int v5]) rfl ?_
    have hu := Sum.inr.inj (Option.some.inj h)
    exact W.iret (v := v5) hx hb hr (fun t ht hW => ⟨congrArg (fun z => Outcome.returned (some (Value.int z))) hu, ht⟩) (fun q hq => absurd hq List.not_mem_nil) dX5_can_75
  have h := o_f h c_0
  by_cases c_1 : x2 = 1
  · have h := o_t h c_1
    refine k_swIn (v := 1) (off := 58) (tgt := 76) hx hb c_1 dX5_can_18 (by decide) (by decide) (by decide +kernel) (by decide) ?_
    refine lv_aload_n hx hb dX5_can_76 rfl (lv_at hl 0 rfl) ?_
    refine va_get (D := (dC, dI)) (ci := 5) (v := .ref (a 1)) (C := RX5) (T := TX5) (N := 6) hx hb huX5 (fun _ h9 => h9) hown hK hP 0 rfl rfl 0 (by decide) w10 (fun _ h9 => h9) rfl dX5_can_77 ?_
    refine va_get (D := (dC, dI)) (ci := 2) (v := .ref (a 2)) (C := RX2) (T := TX2) (N := 12) hx hb huX2 (fun _ h9 => h9) hown hK hP 1 rfl rfl 0 (by decide) w60 (fun _ h9 => h9) rfl dX5_can_80 ?_
    refine lv_iload_n hx hb dX5_can_83 rfl (lv_at hl 1 rfl) ?_
    obtain ⟨v8, g9, h⟩ := o_b h
    refine k_ro (va_runV (As := [.int x1]) (rest := []) ⟨hx, hb, hml, hown, hts⟩ (c_X0_sumOf l dC dI cI cF (fun i => a (i + 2)) (g_X2_cans (g_X5_frame S)) x1 v8 g9) (cwV 1 hts gX5_can_X0_sumOf rfl rfl rfl (by decide +kernel) ⟨Nat.le_of_ble_eq_true rfl, Nat.le_of_ble_eq_true rfl⟩) (k_preL (q0 := 0) (ci := 0) hK hP (LX5_frame a cI cF S (s_X2_cans (g_X5_frame S) (g_X2_cans (g_X5_frame S))) (LX2_cans (fun i => a (i + 1)) cI cF (g_X5_frame S) (g_X2_cans (g_X5_frame S)) (LN_id (fX0 (fun i => a (i + 2)) cI cF (g_X2_cans (g_X5_frame S)) (g_X2_cans (g_X5_frame S)))))) rfl rfl rfl) rfl rfl hl.1 rfl (lv_room (Nat.le_of_ble_eq_true rfl)) dX5_can_84 ⟨Nat.zero_le _, Nat.zero_le _⟩) (st1 := [.int v8]) rfl ?_
    have hu := Sum.inr.inj (Option.some.inj h)
    exact W.iret (v := v8) hx hb hr (fun t ht hW => ⟨congrArg (fun z => Outcome.returned (some (Value.int z))) hu, ht⟩) (fun q hq => absurd hq List.not_mem_nil) dX5_can_87
  have h := o_f h c_1
  by_cases c_2 : x2 = 2
  · have h := o_t h c_2
    refine k_swIn (v := 2) (off := 70) (tgt := 88) hx hb c_2 dX5_can_18 (by decide) (by decide) (by decide +kernel) (by decide) ?_
    refine lv_aload_n hx hb dX5_can_88 rfl (lv_at hl 0 rfl) ?_
    refine va_get (D := (dC, dI)) (ci := 5) (v := .ref (a 1)) (C := RX5) (T := TX5) (N := 6) hx hb huX5 (fun _ h9 => h9) hown hK hP 0 rfl rfl 0 (by decide) w10 (fun _ h9 => h9) rfl dX5_can_89 ?_
    refine va_get (D := (dC, dI)) (ci := 2) (v := .ref (a 2)) (C := RX2) (T := TX2) (N := 12) hx hb huX2 (fun _ h9 => h9) hown hK hP 1 rfl rfl 0 (by decide) w60 (fun _ h9 => h9) rfl dX5_can_92 ?_
    refine lv_iload_n hx hb dX5_can_95 rfl (lv_at hl 1 rfl) ?_
    obtain ⟨v11, g12, h⟩ := o_b h
    refine k_ro (va_runV (As := [.int x1]) (rest := []) ⟨hx, hb, hml, hown, hts⟩ (c_X0_leastOf l dC dI cI cF (fun i => a (i + 2)) (g_X2_cans (g_X5_frame S)) x1 v11 g12) (cwV 1 hts gX5_can_X0_leastOf rfl rfl rfl (by decide +kernel) ⟨Nat.le_of_ble_eq_true rfl, Nat.le_of_ble_eq_true rfl⟩) (k_preL (q0 := 0) (ci := 0) hK hP (LX5_frame a cI cF S (s_X2_cans (g_X5_frame S) (g_X2_cans (g_X5_frame S))) (LX2_cans (fun i => a (i + 1)) cI cF (g_X5_frame S) (g_X2_cans (g_X5_frame S)) (LN_id (fX0 (fun i => a (i + 2)) cI cF (g_X2_cans (g_X5_frame S)) (g_X2_cans (g_X5_frame S)))))) rfl rfl rfl) rfl rfl hl.1 rfl (lv_room (Nat.le_of_ble_eq_true rfl)) dX5_can_96 ⟨Nat.zero_le _, Nat.zero_le _⟩) (st1 := [.int v11]) rfl ?_
    have hu := Sum.inr.inj (Option.some.inj h)
    exact W.iret (v := v11) hx hb hr (fun t ht hW => ⟨congrArg (fun z => Outcome.returned (some (Value.int z))) hu, ht⟩) (fun q hq => absurd hq List.not_mem_nil) dX5_can_99
  have h := o_f h c_2
  by_cases c_3 : x2 = 3
  · have h := o_t h c_3
    refine k_swIn (v := 3) (off := 82) (tgt := 100) hx hb c_3 dX5_can_18 (by decide) (by decide) (by decide +kernel) (by decide) ?_
    refine lv_aload_n hx hb dX5_can_100 rfl (lv_at hl 0 rfl) ?_
    refine va_get (D := (dC, dI)) (ci := 5) (v := .ref (a 1)) (C := RX5) (T := TX5) (N := 6) hx hb huX5 (fun _ h9 => h9) hown hK hP 0 rfl rfl 0 (by decide) w10 (fun _ h9 => h9) rfl dX5_can_101 ?_
    refine va_get (D := (dC, dI)) (ci := 2) (v := .ref (a 2)) (C := RX2) (T := TX2) (N := 12) hx hb huX2 (fun _ h9 => h9) hown hK hP 1 rfl rfl 0 (by decide) w60 (fun _ h9 => h9) rfl dX5_can_104 ?_
    refine lv_iload_n hx hb dX5_can_107 rfl (lv_at hl 1 rfl) ?_
    obtain ⟨v14, g15, h⟩ := o_b h
    refine k_ro (va_runV (As := [.int x1]) (rest := []) ⟨hx, hb, hml, hown, hts⟩ (c_X0_greatestOf l dC dI cI cF (fun i => a (i + 2)) (g_X2_cans (g_X5_frame S)) x1 v14 g15) (cwV 1 hts gX5_can_X0_greatestOf rfl rfl rfl (by decide +kernel) ⟨Nat.le_of_ble_eq_true rfl, Nat.le_of_ble_eq_true rfl⟩) (k_preL (q0 := 0) (ci := 0) hK hP (LX5_frame a cI cF S (s_X2_cans (g_X5_frame S) (g_X2_cans (g_X5_frame S))) (LX2_cans (fun i => a (i + 1)) cI cF (g_X5_frame S) (g_X2_cans (g_X5_frame S)) (LN_id (fX0 (fun i => a (i + 2)) cI cF (g_X2_cans (g_X5_frame S)) (g_X2_cans (g_X5_frame S)))))) rfl rfl rfl) rfl rfl hl.1 rfl (lv_room (Nat.le_of_ble_eq_true rfl)) dX5_can_108 ⟨Nat.zero_le _, Nat.zero_le _⟩) (st1 := [.int v14]) rfl ?_
    have hu := Sum.inr.inj (Option.some.inj h)
    exact W.iret (v := v14) hx hb hr (fun t ht hW => ⟨congrArg (fun z => Outcome.returned (some (Value.int z))) hu, ht⟩) (fun q hq => absurd hq List.not_mem_nil) dX5_can_111
  have h := o_f h c_3
  by_cases c_4 : x2 = 4
  · have h := o_t h c_4
    refine k_swIn (v := 4) (off := 94) (tgt := 112) hx hb c_4 dX5_can_18 (by decide) (by decide) (by decide +kernel) (by decide) ?_
    refine lv_aload_n hx hb dX5_can_112 rfl (lv_at hl 0 rfl) ?_
    refine va_get (D := (dC, dI)) (ci := 5) (v := .ref (a 1)) (C := RX5) (T := TX5) (N := 6) hx hb huX5 (fun _ h9 => h9) hown hK hP 0 rfl rfl 0 (by decide) w10 (fun _ h9 => h9) rfl dX5_can_113 ?_
    refine va_get (D := (dC, dI)) (ci := 2) (v := .ref (a 2)) (C := RX2) (T := TX2) (N := 12) hx hb huX2 (fun _ h9 => h9) hown hK hP 1 rfl rfl 0 (by decide) w60 (fun _ h9 => h9) rfl dX5_can_116 ?_
    refine lv_iload_n hx hb dX5_can_119 rfl (lv_at hl 1 rfl) ?_
    obtain ⟨v17, g18, h⟩ := o_b h
    refine k_ro (va_runV (As := [.int x1]) (rest := []) ⟨hx, hb, hml, hown, hts⟩ (c_X0_spreadOf l dC dI cI cF (fun i => a (i + 2)) (g_X2_cans (g_X5_frame S)) x1 v17 g18) (cwV 1 hts gX5_can_X0_spreadOf rfl rfl rfl (by decide +kernel) ⟨Nat.le_of_ble_eq_true rfl, Nat.le_of_ble_eq_true rfl⟩) (k_preL (q0 := 0) (ci := 0) hK hP (LX5_frame a cI cF S (s_X2_cans (g_X5_frame S) (g_X2_cans (g_X5_frame S))) (LX2_cans (fun i => a (i + 1)) cI cF (g_X5_frame S) (g_X2_cans (g_X5_frame S)) (LN_id (fX0 (fun i => a (i + 2)) cI cF (g_X2_cans (g_X5_frame S)) (g_X2_cans (g_X5_frame S)))))) rfl rfl rfl) rfl rfl hl.1 rfl (lv_room (Nat.le_of_ble_eq_true rfl)) dX5_can_120 ⟨Nat.zero_le _, Nat.zero_le _⟩) (st1 := [.int v17]) rfl ?_
    have hu := Sum.inr.inj (Option.some.inj h)
    exact W.iret (v := v17) hx hb hr (fun t ht hW => ⟨congrArg (fun z => Outcome.returned (some (Value.int z))) hu, ht⟩) (fun q hq => absurd hq List.not_mem_nil) dX5_can_123
  have h := o_f h c_4
  by_cases c_5 : x2 = 5
  · have h := o_t h c_5
    refine k_swIn (v := 5) (off := 106) (tgt := 124) hx hb c_5 dX5_can_18 (by decide) (by decide) (by decide +kernel) (by decide) ?_
    refine lv_aload_n hx hb dX5_can_124 rfl (lv_at hl 0 rfl) ?_
    refine va_get (D := (dC, dI)) (ci := 5) (v := .ref (a 1)) (C := RX5) (T := TX5) (N := 6) hx hb huX5 (fun _ h9 => h9) hown hK hP 0 rfl rfl 0 (by decide) w10 (fun _ h9 => h9) rfl dX5_can_125 ?_
    refine va_get (D := (dC, dI)) (ci := 2) (v := .ref (a 2)) (C := RX2) (T := TX2) (N := 12) hx hb huX2 (fun _ h9 => h9) hown hK hP 1 rfl rfl 0 (by decide) w60 (fun _ h9 => h9) rfl dX5_can_128 ?_
    refine lv_iload_n hx hb dX5_can_131 rfl (lv_at hl 1 rfl) ?_
    obtain ⟨v20, g21, h⟩ := o_b h
    refine k_ro (va_runV (As := [.int x1]) (rest := []) ⟨hx, hb, hml, hown, hts⟩ (c_X0_stepsOf l dC dI cI cF (fun i => a (i + 2)) (g_X2_cans (g_X5_frame S)) x1 v20 g21) (cwV 1 hts gX5_can_X0_stepsOf rfl rfl rfl (by decide +kernel) ⟨Nat.le_of_ble_eq_true rfl, Nat.le_of_ble_eq_true rfl⟩) (k_preL (q0 := 0) (ci := 0) hK hP (LX5_frame a cI cF S (s_X2_cans (g_X5_frame S) (g_X2_cans (g_X5_frame S))) (LX2_cans (fun i => a (i + 1)) cI cF (g_X5_frame S) (g_X2_cans (g_X5_frame S)) (LN_id (fX0 (fun i => a (i + 2)) cI cF (g_X2_cans (g_X5_frame S)) (g_X2_cans (g_X5_frame S)))))) rfl rfl rfl) rfl rfl hl.1 rfl (lv_room (Nat.le_of_ble_eq_true rfl)) dX5_can_132 ⟨Nat.zero_le _, Nat.zero_le _⟩) (st1 := [.int v20]) rfl ?_
    have hu := Sum.inr.inj (Option.some.inj h)
    exact W.iret (v := v20) hx hb hr (fun t ht hW => ⟨congrArg (fun z => Outcome.returned (some (Value.int z))) hu, ht⟩) (fun q hq => absurd hq List.not_mem_nil) dX5_can_135
  have h := o_f h c_5
  by_cases c_6 : x2 = 6
  · have h := o_t h c_6
    refine k_swIn (v := 6) (off := 118) (tgt := 136) hx hb c_6 dX5_can_18 (by decide) (by decide) (by decide +kernel) (by decide) ?_
    refine lv_aload_n hx hb dX5_can_136 rfl (lv_at hl 0 rfl) ?_
    refine va_get (D := (dC, dI)) (ci := 5) (v := .ref (a 1)) (C := RX5) (T := TX5) (N := 6) hx hb huX5 (fun _ h9 => h9) hown hK hP 0 rfl rfl 0 (by decide) w10 (fun _ h9 => h9) rfl dX5_can_137 ?_
    refine lv_iload_n hx hb dX5_can_140 rfl (lv_at hl 1 rfl) ?_
    obtain ⟨v23, g24, h⟩ := o_b h
    refine k_ro (va_runV (As := [.int x1]) (rest := []) ⟨hx, hb, hml, hown, hts⟩ (c_X2_isFed l dC dI cI cF (fun i => a (i + 1)) (g_X5_frame S) x1 v23 g24) (cwV 1 hts gX5_can_X2_isFed rfl rfl rfl (by decide +kernel) ⟨Nat.le_of_ble_eq_true rfl, Nat.le_of_ble_eq_true rfl⟩) (k_preL (q0 := 0) (ci := 2) hK hP (LX5_frame a cI cF S (g_X5_frame S) (LN_id (fX2 (fun i => a (i + 1)) cI cF (g_X5_frame S) (g_X5_frame S)))) rfl rfl rfl) rfl rfl hl.1 rfl (lv_room (Nat.le_of_ble_eq_true rfl)) dX5_can_141 ⟨Nat.zero_le _, Nat.zero_le _⟩) (st1 := [.int v23]) rfl ?_
    refine lv_if_eq (tgt := 151) hx hb dX5_can_144 (by decide) (fun c25 => ?_) (fun c25 => ?_)
    · have h := o_t h c25
      refine lv_iconst (v := (0 : Int32)) hx hb dX5_can_151 (by decide) ?_
      have hu := Sum.inr.inj (Option.some.inj h)
      exact W.iret (v := (0 : Int32)) hx hb hr (fun t ht hW => ⟨congrArg (fun z => Outcome.returned (some (Value.int z))) hu, ht⟩) (fun q hq => absurd hq List.not_mem_nil) dX5_can_152
    have h := o_f h c25
    refine lv_iconst (v := (1 : Int32)) hx hb dX5_can_147 (by decide) ?_
    refine lv_goto (tgt := 152) hx hb dX5_can_148 (by decide) ?_
    have hu := Sum.inr.inj (Option.some.inj h)
    exact W.iret (v := (1 : Int32)) hx hb hr (fun t ht hW => ⟨congrArg (fun z => Outcome.returned (some (Value.int z))) hu, ht⟩) (fun q hq => absurd hq List.not_mem_nil) dX5_can_152
  have h := o_f h c_6
  by_cases c_7 : x2 = 7
  · have h := o_t h c_7
    refine k_swIn (v := 7) (off := 135) (tgt := 153) hx hb c_7 dX5_can_18 (by decide) (by decide) (by decide +kernel) (by decide) ?_
    refine lv_aload_n hx hb dX5_can_153 rfl (lv_at hl 0 rfl) ?_
    refine va_get (D := (dC, dI)) (ci := 5) (v := .ref (a 1)) (C := RX5) (T := TX5) (N := 6) hx hb huX5 (fun _ h9 => h9) hown hK hP 0 rfl rfl 0 (by decide) w10 (fun _ h9 => h9) rfl dX5_can_154 ?_
    refine va_get (D := (dC, dI)) (ci := 2) (v := .ref (a 2)) (C := RX2) (T := TX2) (N := 12) hx hb huX2 (fun _ h9 => h9) hown hK hP 1 rfl rfl 0 (by decide) w60 (fun _ h9 => h9) rfl dX5_can_157 ?_
    refine lv_iload_n hx hb dX5_can_160 rfl (lv_at hl 1 rfl) ?_
    refine lv_iconst (v := (0 : Int32)) hx hb dX5_can_161 (by decide) ?_
    obtain ⟨v27, g28, h⟩ := o_b h
    refine k_ro (va_runV (As := [.int x1, .int (0 : Int32)]) (rest := []) ⟨hx, hb, hml, hown, hts⟩ (c_X0_weightOf l dC dI cI cF (fun i => a (i + 2)) (g_X2_cans (g_X5_frame S)) x1 (0 : Int32) v27 g28) (cwV 2 hts gX5_can_X0_weightOf rfl rfl rfl (by decide +kernel) ⟨Nat.le_of_ble_eq_true rfl, Nat.le_of_ble_eq_true rfl⟩) (k_preL (q0 := 0) (ci := 0) hK hP (LX5_frame a cI cF S (s_X2_cans (g_X5_frame S) (g_X2_cans (g_X5_frame S))) (LX2_cans (fun i => a (i + 1)) cI cF (g_X5_frame S) (g_X2_cans (g_X5_frame S)) (LN_id (fX0 (fun i => a (i + 2)) cI cF (g_X2_cans (g_X5_frame S)) (g_X2_cans (g_X5_frame S)))))) rfl rfl rfl) rfl rfl hl.1 rfl (lv_room (Nat.le_of_ble_eq_true rfl)) dX5_can_162 ⟨Nat.zero_le _, Nat.zero_le _⟩) (st1 := [.int v27]) rfl ?_
    have hu := Sum.inr.inj (Option.some.inj h)
    exact W.iret (v := v27) hx hb hr (fun t ht hW => ⟨congrArg (fun z => Outcome.returned (some (Value.int z))) hu, ht⟩) (fun q hq => absurd hq List.not_mem_nil) dX5_can_165
  have h := o_f h c_7
  refine lv_tableOut (tgt := 166) hx hb dX5_can_18 (k_swOut 7 (by decide) _ (fun k hk => ?_)) (by decide) ?_
  · rcases (show k = 0 ∨ k = 1 ∨ k = 2 ∨ k = 3 ∨ k = 4 ∨ k = 5 ∨ k = 6 ∨ k = 7 by omega) with rfl | rfl | rfl | rfl | rfl | rfl | rfl | rfl <;> first | exact c_0 | exact c_1 | exact c_2 | exact c_3 | exact c_4 | exact c_5 | exact c_6 | exact c_7
  cases h

set_option maxHeartbeats 4000000 in
set_option maxRecDepth 100000 in
theorem c_X5_can_x (l : Launch) (hfl : l.stackTraces = false) (dC : Nat → ClassId) (dI : Nat → Nat → Nat) (cI cF : ClassId) (a : Nat → Nat) (S : S_X5) (x1 : Int32) (x2 : Int32) (u : Nat) (h : m_X5_can S x1 x2 = some (.inl u)) : ∀ sz : Nat, vx_Met l yX5_can wsX5_can ({ frames := 6, cells := 1, slots := 6, locals := 100 } : Room) (va_Pc [.ref (a 0), .int x1, .int x2] (pRWe (dC, dI) cI cF (wX5 a cI cF S) sz)) (fun _ _ _ _ => False) (qX (dC, dI) (wX5 a cI cF S) (xnm u) (va_A (wX5 a cI cF S) sz)) 1 6 (va_A (wX5 a cI cF S) sz) := by
  intro sz
  refine vx_ofW (cc := cX5_can) (maxL := 3) (ret := (some .int)) (by decide) rfl ?_
  intro p e s m args below meth c s₁ B hml hnx hv
  obtain ⟨hargs, ⟨hsz, hP, hK, hD0⟩, hE⟩ := hv
  subst hargs
  have hx := B.exec
  have hb := B.bytes
  have hr := B.returns
  have hts := atoms_spec (ws := wsX5_can) B.pre
  have hown : s.vm.findClass RX5 = some m.cls := findClass_of_methodNamed B.named
  have hlocks := B.notSynchronized
  have w10 := hts (.fieldLink RX5 10 "DrawnSlivers" "frame" "LDrawnSlivers$Frame;") (List.mem_of_getElem? (i := 5) rfl)
  have w103 := hts (.methodLink RX5 103 yX0_sumOf) (List.mem_of_getElem? (i := 17) rfl)
  have w188 := hts (.methodLink RX5 188 yX0_leastOf) (List.mem_of_getElem? (i := 27) rfl)
  have w191 := hts (.methodLink RX5 191 yX0_greatestOf) (List.mem_of_getElem? (i := 35) rfl)
  have w194 := hts (.methodLink RX5 194 yX0_spreadOf) (List.mem_of_getElem? (i := 42) rfl)
  have w197 := hts (.methodLink RX5 197 yX0_stepsOf) (List.mem_of_getElem? (i := 48) rfl)
  have w200 := hts (.methodLink RX5 200 yX2_isFed) (List.mem_of_getElem? (i := 55) rfl)
  have w203 := hts (.methodLink RX5 203 yX0_weightOf) (List.mem_of_getElem? (i := 61) rfl)
  have w40 := hts (.methodLink RX5 40 yX5_isCan) (List.mem_of_getElem? (i := 7) rfl)
  have w44 := hts (.classLink RX5 44 "java/lang/IndexOutOfBoundsException") (List.mem_of_getElem? (i := 1) rfl)
  have w55 := hts (.classLink RX5 55 "java/lang/IllegalArgumentException") (List.mem_of_getElem? (i := 3) rfl)
  have w60 := hts (.fieldLink RX5 60 "DrawnSlivers$Frame" "cans" "LDrawnSlivers$Cans;") (List.mem_of_getElem? (i := 6) rfl)
  have w64 := hts (.methodLink RX5 64 yX0_sizeOf) (List.mem_of_getElem? (i := 11) rfl)
  have wix1 := hts (.initialized "java/lang/IndexOutOfBoundsException") (List.mem_of_getElem? (i := 2) rfl)
  have wix2 := hts (.initialized "java/lang/IllegalArgumentException") (List.mem_of_getElem? (i := 4) rfl)
  have huX2 : ∀ w ∈ u_ws RX2 TX2 12, w.before _ s = true := fun w h => hts w (List.mem_cons_of_mem _ (List.mem_append_left _ (List.mem_append_left _ (List.mem_append_left _ (List.mem_append_right _ (h))))))
  have huX5 : ∀ w ∈ u_ws RX5 TX5 6, w.before _ s = true := fun w h => hts w (List.mem_cons_of_mem _ (List.mem_append_left _ (List.mem_append_left _ (List.mem_append_left _ (List.mem_append_left _ (List.mem_append_right _ (h)))))))
  subst hsz
  have hD := hD0.self (sz := s.heap.size)
  generalize hAe : va_A (wX5 a cI cF S) s.heap.size = A at hD hE ⊢
  have hA : ∀ q : Nat, s.heap.size ≤ q → A q := fun q h => by rw [← hAe]; exact Or.inr h
  have hS : va_S A s.heap s.heap [] := va_S.rf
  have hl := lv_entry ([.ref (a 0), .int x1, .int x2]) (n := 3) (Nat.le_of_ble_eq_true rfl)
  rw [lg_entry_eq]
  generalize (lg_sl ([.ref (a 0), .int x1, .int x2]) ++ List.replicate (3 - (lg_sl ([.ref (a 0), .int x1, .int x2])).length) Slot.unset).toArray = ls at hl ⊢
  have hl : lv_has ls 3 [(0, .ref (a 0)), (1, .int x1), (2, .int x2)] := hl
  rw [m_X5_can] at h
  refine lv_iload_n hx hb dX5_can_0 rfl (lv_at hl 1 rfl) ?_
  obtain ⟨v1, g2, h⟩ := o_b h
  refine k_ro (va_runS (As := [.int x1]) (rest := []) ⟨hx, hb, hml, hown, hts⟩ (c_X5_isCan l dC dI cI cF x1 v1 g2) (va_cwS 1 hts gX5_can_X5_isCan rfl rfl rfl (by decide +kernel) ⟨Nat.le_of_ble_eq_true rfl, Nat.le_of_ble_eq_true rfl⟩) (k_prePU) rfl rfl hl.1 rfl (lv_room (Nat.le_of_ble_eq_true rfl)) dX5_can_1 ⟨Nat.zero_le _, Nat.zero_le _⟩) (st1 := [.int v1]) rfl ?_
  refine lv_if_ne (tgt := 17) hx hb dX5_can_4 (by decide) (fun c3 => ?_) (fun c3 => ?_)
  rotate_left
  · have h := o_t h c3
    have hu := Sum.inl.inj (Option.some.inj h)
    obtain ⟨sa, hsa⟩ := hE.2.1 (46, "no such can") (by decide)
    exact vx_throwS (own := RX5) (cls := "java/lang/IndexOutOfBoundsException") (text := "no such can") (names := ["java/lang/RuntimeException", "java/lang/Exception"]) (ik := 44) (is := 46) (ic := 48) (sa := sa) (A := A) hx hb hfl hown (by decide +kernel) (by decide +kernel) w44 wix1 hsa (vx_hat (fun w h => hts w (List.mem_cons_of_mem _ (List.mem_append_left _ (List.mem_append_right _ (h))))) (B := xW) (by decide +kernel) (fun w h => va_Nw.use (xW_ot w h) (hE.2.2.1 w h))) (by decide +kernel) hE.1.1 hE.1.2 hS (by rw [hml]; exact hl.1) dX5_can_7 dX5_can_10 dX5_can_11 dX5_can_13 dX5_can_16 (fun z hz => (hnx z hz).elim) (Nat.le_of_ble_eq_true rfl) (Nat.le_of_ble_eq_true rfl) (Nat.le_of_ble_eq_true rfl) (Nat.le_of_ble_eq_true rfl) hlocks (fun t hv hz hq => ⟨⟨by rw [← hu]; rfl, k_Pkeep hP hq⟩, k_Fkeep hS hz hq⟩) hS.2.2 (Nat.le_refl _) (Nat.le_refl _)
  have h := o_f h c3
  refine lv_iload_n hx hb dX5_can_17 rfl (lv_at hl 2 rfl) ?_
  by_cases c_0 : x2 = 0
  · have h := o_t h c_0
    refine k_swIn (v := 0) (off := 46) (tgt := 64) hx hb c_0 dX5_can_18 (by decide) (by decide) (by decide +kernel) (by decide) ?_
    refine lv_aload_n hx hb dX5_can_64 rfl (lv_at hl 0 rfl) ?_
    refine va_get (D := (dC, dI)) (ci := 5) (v := .ref (a 1)) (C := RX5) (T := TX5) (N := 6) hx hb huX5 (fun _ h9 => h9) hown hK hP 0 rfl rfl 0 (by decide) w10 (fun _ h9 => h9) rfl dX5_can_65 ?_
    refine va_get (D := (dC, dI)) (ci := 2) (v := .ref (a 2)) (C := RX2) (T := TX2) (N := 12) hx hb huX2 (fun _ h9 => h9) hown hK hP 1 rfl rfl 0 (by decide) w60 (fun _ h9 => h9) rfl dX5_can_68 ?_
    refine lv_iload_n hx hb dX5_can_71 rfl (lv_at hl 1 rfl) ?_
    obtain ⟨v5, g6, h⟩ := o_b h
    refine k_ro (va_runV (As := [.int x1]) (rest := []) ⟨hx, hb, hml, hown, hts⟩ (c_X0_sizeOf l dC dI cI cF (fun i => a (i + 2)) (g_X2_cans (g_X5_frame S)) x1 v5 g6) (cwV 1 hts gX5_can_X0_sizeOf rfl rfl rfl (by decide +kernel) ⟨Nat.le_of_ble_eq_true rfl, Nat.le_of_ble_eq_true rfl⟩) (k_preL (q0 := 0) (ci := 0) hK hP (LX5_frame a cI cF S (s_X2_cans (g_X5_frame S) (g_X2_cans (g_X5_frame S))) (LX2_cans (fun i => a (i + 1)) cI cF (g_X5_frame S) (g_X2_cans (g_X5_frame S)) (LN_id (fX0 (fun i => a (i + 2)) cI cF (g_X2_cans (g_X5_frame S)) (g_X2_cans (g_X5_frame S)))))) rfl rfl rfl) rfl rfl hl.1 rfl (lv_room (Nat.le_of_ble_eq_true rfl)) dX5_can_72 ⟨Nat.zero_le _, Nat.zero_le _⟩) (st1 := [.int v5]) rfl ?_
    cases h
  have h := o_f h c_0
  by_cases c_1 : x2 = 1
  · have h := o_t h c_1
    refine k_swIn (v := 1) (off := 58) (tgt := 76) hx hb c_1 dX5_can_18 (by decide) (by decide) (by decide +kernel) (by decide) ?_
    refine lv_aload_n hx hb dX5_can_76 rfl (lv_at hl 0 rfl) ?_
    refine va_get (D := (dC, dI)) (ci := 5) (v := .ref (a 1)) (C := RX5) (T := TX5) (N := 6) hx hb huX5 (fun _ h9 => h9) hown hK hP 0 rfl rfl 0 (by decide) w10 (fun _ h9 => h9) rfl dX5_can_77 ?_
    refine va_get (D := (dC, dI)) (ci := 2) (v := .ref (a 2)) (C := RX2) (T := TX2) (N := 12) hx hb huX2 (fun _ h9 => h9) hown hK hP 1 rfl rfl 0 (by decide) w60 (fun _ h9 => h9) rfl dX5_can_80 ?_
    refine lv_iload_n hx hb dX5_can_83 rfl (lv_at hl 1 rfl) ?_
    obtain ⟨v8, g9, h⟩ := o_b h
    refine k_ro (va_runV (As := [.int x1]) (rest := []) ⟨hx, hb, hml, hown, hts⟩ (c_X0_sumOf l dC dI cI cF (fun i => a (i + 2)) (g_X2_cans (g_X5_frame S)) x1 v8 g9) (cwV 1 hts gX5_can_X0_sumOf rfl rfl rfl (by decide +kernel) ⟨Nat.le_of_ble_eq_true rfl, Nat.le_of_ble_eq_true rfl⟩) (k_preL (q0 := 0) (ci := 0) hK hP (LX5_frame a cI cF S (s_X2_cans (g_X5_frame S) (g_X2_cans (g_X5_frame S))) (LX2_cans (fun i => a (i + 1)) cI cF (g_X5_frame S) (g_X2_cans (g_X5_frame S)) (LN_id (fX0 (fun i => a (i + 2)) cI cF (g_X2_cans (g_X5_frame S)) (g_X2_cans (g_X5_frame S)))))) rfl rfl rfl) rfl rfl hl.1 rfl (lv_room (Nat.le_of_ble_eq_true rfl)) dX5_can_84 ⟨Nat.zero_le _, Nat.zero_le _⟩) (st1 := [.int v8]) rfl ?_
    cases h
  have h := o_f h c_1
  by_cases c_2 : x2 = 2
  · have h := o_t h c_2
    refine k_swIn (v := 2) (off := 70) (tgt := 88) hx hb c_2 dX5_can_18 (by decide) (by decide) (by decide +kernel) (by decide) ?_
    refine lv_aload_n hx hb dX5_can_88 rfl (lv_at hl 0 rfl) ?_
    refine va_get (D := (dC, dI)) (ci := 5) (v := .ref (a 1)) (C := RX5) (T := TX5) (N := 6) hx hb huX5 (fun _ h9 => h9) hown hK hP 0 rfl rfl 0 (by decide) w10 (fun _ h9 => h9) rfl dX5_can_89 ?_
    refine va_get (D := (dC, dI)) (ci := 2) (v := .ref (a 2)) (C := RX2) (T := TX2) (N := 12) hx hb huX2 (fun _ h9 => h9) hown hK hP 1 rfl rfl 0 (by decide) w60 (fun _ h9 => h9) rfl dX5_can_92 ?_
    refine lv_iload_n hx hb dX5_can_95 rfl (lv_at hl 1 rfl) ?_
    obtain ⟨v11, g12, h⟩ := o_b h
    refine k_ro (va_runV (As := [.int x1]) (rest := []) ⟨hx, hb, hml, hown, hts⟩ (c_X0_leastOf l dC dI cI cF (fun i => a (i + 2)) (g_X2_cans (g_X5_frame S)) x1 v11 g12) (cwV 1 hts gX5_can_X0_leastOf rfl rfl rfl (by decide +kernel) ⟨Nat.le_of_ble_eq_true rfl, Nat.le_of_ble_eq_true rfl⟩) (k_preL (q0 := 0) (ci := 0) hK hP (LX5_frame a cI cF S (s_X2_cans (g_X5_frame S) (g_X2_cans (g_X5_frame S))) (LX2_cans (fun i => a (i + 1)) cI cF (g_X5_frame S) (g_X2_cans (g_X5_frame S)) (LN_id (fX0 (fun i => a (i + 2)) cI cF (g_X2_cans (g_X5_frame S)) (g_X2_cans (g_X5_frame S)))))) rfl rfl rfl) rfl rfl hl.1 rfl (lv_room (Nat.le_of_ble_eq_true rfl)) dX5_can_96 ⟨Nat.zero_le _, Nat.zero_le _⟩) (st1 := [.int v11]) rfl ?_
    cases h
  have h := o_f h c_2
  by_cases c_3 : x2 = 3
  · have h := o_t h c_3
    refine k_swIn (v := 3) (off := 82) (tgt := 100) hx hb c_3 dX5_can_18 (by decide) (by decide) (by decide +kernel) (by decide) ?_
    refine lv_aload_n hx hb dX5_can_100 rfl (lv_at hl 0 rfl) ?_
    refine va_get (D := (dC, dI)) (ci := 5) (v := .ref (a 1)) (C := RX5) (T := TX5) (N := 6) hx hb huX5 (fun _ h9 => h9) hown hK hP 0 rfl rfl 0 (by decide) w10 (fun _ h9 => h9) rfl dX5_can_101 ?_
    refine va_get (D := (dC, dI)) (ci := 2) (v := .ref (a 2)) (C := RX2) (T := TX2) (N := 12) hx hb huX2 (fun _ h9 => h9) hown hK hP 1 rfl rfl 0 (by decide) w60 (fun _ h9 => h9) rfl dX5_can_104 ?_
    refine lv_iload_n hx hb dX5_can_107 rfl (lv_at hl 1 rfl) ?_
    obtain ⟨v14, g15, h⟩ := o_b h
    refine k_ro (va_runV (As := [.int x1]) (rest := []) ⟨hx, hb, hml, hown, hts⟩ (c_X0_greatestOf l dC dI cI cF (fun i => a (i + 2)) (g_X2_cans (g_X5_frame S)) x1 v14 g15) (cwV 1 hts gX5_can_X0_greatestOf rfl rfl rfl (by decide +kernel) ⟨Nat.le_of_ble_eq_true rfl, Nat.le_of_ble_eq_true rfl⟩) (k_preL (q0 := 0) (ci := 0) hK hP (LX5_frame a cI cF S (s_X2_cans (g_X5_frame S) (g_X2_cans (g_X5_frame S))) (LX2_cans (fun i => a (i + 1)) cI cF (g_X5_frame S) (g_X2_cans (g_X5_frame S)) (LN_id (fX0 (fun i => a (i + 2)) cI cF (g_X2_cans (g_X5_frame S)) (g_X2_cans (g_X5_frame S)))))) rfl rfl rfl) rfl rfl hl.1 rfl (lv_room (Nat.le_of_ble_eq_true rfl)) dX5_can_108 ⟨Nat.zero_le _, Nat.zero_le _⟩) (st1 := [.int v14]) rfl ?_
    cases h
  have h := o_f h c_3
  by_cases c_4 : x2 = 4
  · have h := o_t h c_4
    refine k_swIn (v := 4) (off := 94) (tgt := 112) hx hb c_4 dX5_can_18 (by decide) (by decide) (by decide +kernel) (by decide) ?_
    refine lv_aload_n hx hb dX5_can_112 rfl (lv_at hl 0 rfl) ?_
    refine va_get (D := (dC, dI)) (ci := 5) (v := .ref (a 1)) (C := RX5) (T := TX5) (N := 6) hx hb huX5 (fun _ h9 => h9) hown hK hP 0 rfl rfl 0 (by decide) w10 (fun _ h9 => h9) rfl dX5_can_113 ?_
    refine va_get (D := (dC, dI)) (ci := 2) (v := .ref (a 2)) (C := RX2) (T := TX2) (N := 12) hx hb huX2 (fun _ h9 => h9) hown hK hP 1 rfl rfl 0 (by decide) w60 (fun _ h9 => h9) rfl dX5_can_116 ?_
    refine lv_iload_n hx hb dX5_can_119 rfl (lv_at hl 1 rfl) ?_
    obtain ⟨v17, g18, h⟩ := o_b h
    refine k_ro (va_runV (As := [.int x1]) (rest := []) ⟨hx, hb, hml, hown, hts⟩ (c_X0_spreadOf l dC dI cI cF (fun i => a (i + 2)) (g_X2_cans (g_X5_frame S)) x1 v17 g18) (cwV 1 hts gX5_can_X0_spreadOf rfl rfl rfl (by decide +kernel) ⟨Nat.le_of_ble_eq_true rfl, Nat.le_of_ble_eq_true rfl⟩) (k_preL (q0 := 0) (ci := 0) hK hP (LX5_frame a cI cF S (s_X2_cans (g_X5_frame S) (g_X2_cans (g_X5_frame S))) (LX2_cans (fun i => a (i + 1)) cI cF (g_X5_frame S) (g_X2_cans (g_X5_frame S)) (LN_id (fX0 (fun i => a (i + 2)) cI cF (g_X2_cans (g_X5_frame S)) (g_X2_cans (g_X5_frame S)))))) rfl rfl rfl) rfl rfl hl.1 rfl (lv_room (Nat.le_of_ble_eq_true rfl)) dX5_can_120 ⟨Nat.zero_le _, Nat.zero_le _⟩) (st1 := [.int v17]) rfl ?_
    cases h
  have h := o_f h c_4
  by_cases c_5 : x2 = 5
  · have h := o_t h c_5
    refine k_swIn (v := 5) (off := 106) (tgt := 124) hx hb c_5 dX5_can_18 (by decide) (by decide) (by decide +kernel) (by decide) ?_
    refine lv_aload_n hx hb dX5_can_124 rfl (lv_at hl 0 rfl) ?_
    refine va_get (D := (dC, dI)) (ci := 5) (v := .ref (a 1)) (C := RX5) (T := TX5) (N := 6) hx hb huX5 (fun _ h9 => h9) hown hK hP 0 rfl rfl 0 (by decide) w10 (fun _ h9 => h9) rfl dX5_can_125 ?_
    refine va_get (D := (dC, dI)) (ci := 2) (v := .ref (a 2)) (C := RX2) (T := TX2) (N := 12) hx hb huX2 (fun _ h9 => h9) hown hK hP 1 rfl rfl 0 (by decide) w60 (fun _ h9 => h9) rfl dX5_can_128 ?_
    refine lv_iload_n hx hb dX5_can_131 rfl (lv_at hl 1 rfl) ?_
    obtain ⟨v20, g21, h⟩ := o_b h
    refine k_ro (va_runV (As := [.int x1]) (rest := []) ⟨hx, hb, hml, hown, hts⟩ (c_X0_stepsOf l dC dI cI cF (fun i => a (i + 2)) (g_X2_cans (g_X5_frame S)) x1 v20 g21) (cwV 1 hts gX5_can_X0_stepsOf rfl rfl rfl (by decide +kernel) ⟨Nat.le_of_ble_eq_true rfl, Nat.le_of_ble_eq_true rfl⟩) (k_preL (q0 := 0) (ci := 0) hK hP (LX5_frame a cI cF S (s_X2_cans (g_X5_frame S) (g_X2_cans (g_X5_frame S))) (LX2_cans (fun i => a (i + 1)) cI cF (g_X5_frame S) (g_X2_cans (g_X5_frame S)) (LN_id (fX0 (fun i => a (i + 2)) cI cF (g_X2_cans (g_X5_frame S)) (g_X2_cans (g_X5_frame S)))))) rfl rfl rfl) rfl rfl hl.1 rfl (lv_room (Nat.le_of_ble_eq_true rfl)) dX5_can_132 ⟨Nat.zero_le _, Nat.zero_le _⟩) (st1 := [.int v20]) rfl ?_
    cases h
  have h := o_f h c_5
  by_cases c_6 : x2 = 6
  · have h := o_t h c_6
    refine k_swIn (v := 6) (off := 118) (tgt := 136) hx hb c_6 dX5_can_18 (by decide) (by decide) (by decide +kernel) (by decide) ?_
    refine lv_aload_n hx hb dX5_can_136 rfl (lv_at hl 0 rfl) ?_
    refine va_get (D := (dC, dI)) (ci := 5) (v := .ref (a 1)) (C := RX5) (T := TX5) (N := 6) hx hb huX5 (fun _ h9 => h9) hown hK hP 0 rfl rfl 0 (by decide) w10 (fun _ h9 => h9) rfl dX5_can_137 ?_
    refine lv_iload_n hx hb dX5_can_140 rfl (lv_at hl 1 rfl) ?_
    obtain ⟨v23, g24, h⟩ := o_b h
    refine k_ro (va_runV (As := [.int x1]) (rest := []) ⟨hx, hb, hml, hown, hts⟩ (c_X2_isFed l dC dI cI cF (fun i => a (i + 1)) (g_X5_frame S) x1 v23 g24) (cwV 1 hts gX5_can_X2_isFed rfl rfl rfl (by decide +kernel) ⟨Nat.le_of_ble_eq_true rfl, Nat.le_of_ble_eq_true rfl⟩) (k_preL (q0 := 0) (ci := 2) hK hP (LX5_frame a cI cF S (g_X5_frame S) (LN_id (fX2 (fun i => a (i + 1)) cI cF (g_X5_frame S) (g_X5_frame S)))) rfl rfl rfl) rfl rfl hl.1 rfl (lv_room (Nat.le_of_ble_eq_true rfl)) dX5_can_141 ⟨Nat.zero_le _, Nat.zero_le _⟩) (st1 := [.int v23]) rfl ?_
    refine lv_if_eq (tgt := 151) hx hb dX5_can_144 (by decide) (fun c25 => ?_) (fun c25 => ?_)
    · have h := o_t h c25
      refine lv_iconst (v := (0 : Int32)) hx hb dX5_can_151 (by decide) ?_
      cases h
    have h := o_f h c25
    refine lv_iconst (v := (1 : Int32)) hx hb dX5_can_147 (by decide) ?_
    refine lv_goto (tgt := 152) hx hb dX5_can_148 (by decide) ?_
    cases h
  have h := o_f h c_6
  by_cases c_7 : x2 = 7
  · have h := o_t h c_7
    refine k_swIn (v := 7) (off := 135) (tgt := 153) hx hb c_7 dX5_can_18 (by decide) (by decide) (by decide +kernel) (by decide) ?_
    refine lv_aload_n hx hb dX5_can_153 rfl (lv_at hl 0 rfl) ?_
    refine va_get (D := (dC, dI)) (ci := 5) (v := .ref (a 1)) (C := RX5) (T := TX5) (N := 6) hx hb huX5 (fun _ h9 => h9) hown hK hP 0 rfl rfl 0 (by decide) w10 (fun _ h9 => h9) rfl dX5_can_154 ?_
    refine va_get (D := (dC, dI)) (ci := 2) (v := .ref (a 2)) (C := RX2) (T := TX2) (N := 12) hx hb huX2 (fun _ h9 => h9) hown hK hP 1 rfl rfl 0 (by decide) w60 (fun _ h9 => h9) rfl dX5_can_157 ?_
    refine lv_iload_n hx hb dX5_can_160 rfl (lv_at hl 1 rfl) ?_
    refine lv_iconst (v := (0 : Int32)) hx hb dX5_can_161 (by decide) ?_
    obtain ⟨v27, g28, h⟩ := o_b h
    refine k_ro (va_runV (As := [.int x1, .int (0 : Int32)]) (rest := []) ⟨hx, hb, hml, hown, hts⟩ (c_X0_weightOf l dC dI cI cF (fun i => a (i + 2)) (g_X2_cans (g_X5_frame S)) x1 (0 : Int32) v27 g28) (cwV 2 hts gX5_can_X0_weightOf rfl rfl rfl (by decide +kernel) ⟨Nat.le_of_ble_eq_true rfl, Nat.le_of_ble_eq_true rfl⟩) (k_preL (q0 := 0) (ci := 0) hK hP (LX5_frame a cI cF S (s_X2_cans (g_X5_frame S) (g_X2_cans (g_X5_frame S))) (LX2_cans (fun i => a (i + 1)) cI cF (g_X5_frame S) (g_X2_cans (g_X5_frame S)) (LN_id (fX0 (fun i => a (i + 2)) cI cF (g_X2_cans (g_X5_frame S)) (g_X2_cans (g_X5_frame S)))))) rfl rfl rfl) rfl rfl hl.1 rfl (lv_room (Nat.le_of_ble_eq_true rfl)) dX5_can_162 ⟨Nat.zero_le _, Nat.zero_le _⟩) (st1 := [.int v27]) rfl ?_
    cases h
  have h := o_f h c_7
  refine lv_tableOut (tgt := 166) hx hb dX5_can_18 (k_swOut 7 (by decide) _ (fun k hk => ?_)) (by decide) ?_
  · rcases (show k = 0 ∨ k = 1 ∨ k = 2 ∨ k = 3 ∨ k = 4 ∨ k = 5 ∨ k = 6 ∨ k = 7 by omega) with rfl | rfl | rfl | rfl | rfl | rfl | rfl | rfl <;> first | exact c_0 | exact c_1 | exact c_2 | exact c_3 | exact c_4 | exact c_5 | exact c_6 | exact c_7
  have hu := Sum.inl.inj (Option.some.inj h)
  obtain ⟨sa, hsa⟩ := hE.2.1 (207, "what is 0 to 7") (by decide)
  exact vx_throwS (own := RX5) (cls := "java/lang/IllegalArgumentException") (text := "what is 0 to 7") (names := ["java/lang/RuntimeException", "java/lang/Exception"]) (ik := 55) (is := 207) (ic := 59) (sa := sa) (A := A) hx hb hfl hown (by decide +kernel) (by decide +kernel) w55 wix2 hsa (vx_hat (fun w h => hts w (List.mem_cons_of_mem _ (List.mem_append_right _ (h)))) (B := xW) (by decide +kernel) (fun w h => va_Nw.use (xW_ot w h) (hE.2.2.1 w h))) (by decide +kernel) hE.1.1 hE.1.2 hS (by rw [hml]; exact hl.1) dX5_can_166 dX5_can_169 dX5_can_170 dX5_can_172 dX5_can_175 (fun z hz => (hnx z hz).elim) (Nat.le_of_ble_eq_true rfl) (Nat.le_of_ble_eq_true rfl) (Nat.le_of_ble_eq_true rfl) (Nat.le_of_ble_eq_true rfl) hlocks (fun t hv hz hq => ⟨⟨by rw [← hu]; rfl, k_Pkeep hP hq⟩, k_Fkeep hS hz hq⟩) hS.2.2 (Nat.le_refl _) (Nat.le_refl _)

def m_X5_metre (S : S_X5) (x1 : Int32) (x2 : Int32) : Option ((Nat) ⊕ (Int32)) := (m_X5_isCan x1).bind fun v1 => (if v1 = 0 then (some (.inl 1)) else (if 0 ≤ x2 then ((m_X0_weightOf (g_X2_cans (g_X5_frame S)) x1 x2).bind fun v5 => (some (.inr v5))) else (some (.inl 2))))
set_option maxHeartbeats 4000000 in
set_option maxRecDepth 100000 in
theorem c_X5_metre (l : Launch) (dC : Nat → ClassId) (dI : Nat → Nat → Nat) (cI cF : ClassId) (a : Nat → Nat) (S : S_X5) (x1 : Int32) (x2 : Int32) (u : Int32) (h : m_X5_metre S x1 x2 = some (.inr u)) : cRO l (dC, dI) cI cF yX5_metre wsX5_metre ({ frames := 2, cells := 0, slots := 0, locals := 44 } : Room) [.ref (a 0), .int x1, .int x2] (wX5 a cI cF S) (some (.int u)) := by
  refine Met.ofW (cc := cX5_metre) (maxL := 3) (ret := (some .int)) (by decide) rfl ?_
  intro p e s m args below meth c s₁ B hml hv
  obtain ⟨hargs, hP, hK⟩ := hv
  subst hargs
  have hx := B.exec
  have hb := B.bytes
  have hr := B.returns
  have hts := atoms_spec (ws := wsX5_metre) B.pre
  have hown : s.vm.findClass RX5 = some m.cls := findClass_of_methodNamed B.named
  have hlocks := B.notSynchronized
  have w10 := hts (.fieldLink RX5 10 "DrawnSlivers" "frame" "LDrawnSlivers$Frame;") (List.mem_of_getElem? (i := 5) rfl)
  have w203 := hts (.methodLink RX5 203 yX0_weightOf) (List.mem_of_getElem? (i := 11) rfl)
  have w40 := hts (.methodLink RX5 40 yX5_isCan) (List.mem_of_getElem? (i := 7) rfl)
  have w60 := hts (.fieldLink RX5 60 "DrawnSlivers$Frame" "cans" "LDrawnSlivers$Cans;") (List.mem_of_getElem? (i := 6) rfl)
  have huX2 : ∀ w ∈ u_ws RX2 TX2 12, w.before _ s = true := fun w h => hts w (List.mem_cons_of_mem _ (List.mem_append_left _ (List.mem_append_left _ (List.mem_append_left _ (List.mem_append_right _ (h))))))
  have huX5 : ∀ w ∈ u_ws RX5 TX5 6, w.before _ s = true := fun w h => hts w (List.mem_cons_of_mem _ (List.mem_append_left _ (List.mem_append_left _ (List.mem_append_left _ (List.mem_append_left _ (List.mem_append_right _ (h)))))))
  have hl := lv_entry ([.ref (a 0), .int x1, .int x2]) (n := 3) (Nat.le_of_ble_eq_true rfl)
  rw [lg_entry_eq]
  generalize (lg_sl ([.ref (a 0), .int x1, .int x2]) ++ List.replicate (3 - (lg_sl ([.ref (a 0), .int x1, .int x2])).length) Slot.unset).toArray = ls at hl ⊢
  have hl : lv_has ls 3 [(0, .ref (a 0)), (1, .int x1), (2, .int x2)] := hl
  rw [m_X5_metre] at h
  refine lv_iload_n hx hb dX5_metre_0 rfl (lv_at hl 1 rfl) ?_
  obtain ⟨v1, g2, h⟩ := o_b h
  refine k_ro (va_runS (As := [.int x1]) (rest := []) ⟨hx, hb, hml, hown, hts⟩ (c_X5_isCan l dC dI cI cF x1 v1 g2) (va_cwS 1 hts gX5_metre_X5_isCan rfl rfl rfl (by decide +kernel) ⟨Nat.le_of_ble_eq_true rfl, Nat.le_of_ble_eq_true rfl⟩) (k_prePU) rfl rfl hl.1 rfl (lv_room (Nat.le_of_ble_eq_true rfl)) dX5_metre_1 ⟨Nat.zero_le _, Nat.zero_le _⟩) (st1 := [.int v1]) rfl ?_
  refine lv_if_ne (tgt := 17) hx hb dX5_metre_4 (by decide) (fun c3 => ?_) (fun c3 => ?_)
  rotate_left
  · have h := o_t h c3
    cases h
  have h := o_f h c3
  refine lv_iload_n hx hb dX5_metre_17 rfl (lv_at hl 2 rfl) ?_
  refine lv_if_ge (tgt := 31) hx hb dX5_metre_18 (by decide) (fun c4 => ?_) (fun c4 => ?_)
  rotate_left
  · have h := o_f h c4
    cases h
  have h := o_t h c4
  refine lv_aload_n hx hb dX5_metre_31 rfl (lv_at hl 0 rfl) ?_
  refine va_get (D := (dC, dI)) (ci := 5) (v := .ref (a 1)) (C := RX5) (T := TX5) (N := 6) hx hb huX5 (fun _ h9 => h9) hown hK hP 0 rfl rfl 0 (by decide) w10 (fun _ h9 => h9) rfl dX5_metre_32 ?_
  refine va_get (D := (dC, dI)) (ci := 2) (v := .ref (a 2)) (C := RX2) (T := TX2) (N := 12) hx hb huX2 (fun _ h9 => h9) hown hK hP 1 rfl rfl 0 (by decide) w60 (fun _ h9 => h9) rfl dX5_metre_35 ?_
  refine lv_iload_n hx hb dX5_metre_38 rfl (lv_at hl 1 rfl) ?_
  refine lv_iload_n hx hb dX5_metre_39 rfl (lv_at hl 2 rfl) ?_
  obtain ⟨v5, g6, h⟩ := o_b h
  refine k_ro (va_runV (As := [.int x1, .int x2]) (rest := []) ⟨hx, hb, hml, hown, hts⟩ (c_X0_weightOf l dC dI cI cF (fun i => a (i + 2)) (g_X2_cans (g_X5_frame S)) x1 x2 v5 g6) (cwV 2 hts gX5_metre_X0_weightOf rfl rfl rfl (by decide +kernel) ⟨Nat.le_of_ble_eq_true rfl, Nat.le_of_ble_eq_true rfl⟩) (k_preL (q0 := 0) (ci := 0) hK hP (LX5_frame a cI cF S (s_X2_cans (g_X5_frame S) (g_X2_cans (g_X5_frame S))) (LX2_cans (fun i => a (i + 1)) cI cF (g_X5_frame S) (g_X2_cans (g_X5_frame S)) (LN_id (fX0 (fun i => a (i + 2)) cI cF (g_X2_cans (g_X5_frame S)) (g_X2_cans (g_X5_frame S)))))) rfl rfl rfl) rfl rfl hl.1 rfl (lv_room (Nat.le_of_ble_eq_true rfl)) dX5_metre_40 ⟨Nat.zero_le _, Nat.zero_le _⟩) (st1 := [.int v5]) rfl ?_
  have hu := Sum.inr.inj (Option.some.inj h)
  exact W.iret (v := v5) hx hb hr (fun t ht hW => ⟨congrArg (fun z => Outcome.returned (some (Value.int z))) hu, ht⟩) (fun q hq => absurd hq List.not_mem_nil) dX5_metre_43

set_option maxHeartbeats 4000000 in
set_option maxRecDepth 100000 in
theorem c_X5_metre_x (l : Launch) (hfl : l.stackTraces = false) (dC : Nat → ClassId) (dI : Nat → Nat → Nat) (cI cF : ClassId) (a : Nat → Nat) (S : S_X5) (x1 : Int32) (x2 : Int32) (u : Nat) (h : m_X5_metre S x1 x2 = some (.inl u)) : ∀ sz : Nat, vx_Met l yX5_metre wsX5_metre ({ frames := 6, cells := 1, slots := 6, locals := 100 } : Room) (va_Pc [.ref (a 0), .int x1, .int x2] (pRWe (dC, dI) cI cF (wX5 a cI cF S) sz)) (fun _ _ _ _ => False) (qX (dC, dI) (wX5 a cI cF S) (xnm u) (va_A (wX5 a cI cF S) sz)) 1 6 (va_A (wX5 a cI cF S) sz) := by
  intro sz
  refine vx_ofW (cc := cX5_metre) (maxL := 3) (ret := (some .int)) (by decide) rfl ?_
  intro p e s m args below meth c s₁ B hml hnx hv
  obtain ⟨hargs, ⟨hsz, hP, hK, hD0⟩, hE⟩ := hv
  subst hargs
  have hx := B.exec
  have hb := B.bytes
  have hr := B.returns
  have hts := atoms_spec (ws := wsX5_metre) B.pre
  have hown : s.vm.findClass RX5 = some m.cls := findClass_of_methodNamed B.named
  have hlocks := B.notSynchronized
  have w10 := hts (.fieldLink RX5 10 "DrawnSlivers" "frame" "LDrawnSlivers$Frame;") (List.mem_of_getElem? (i := 5) rfl)
  have w203 := hts (.methodLink RX5 203 yX0_weightOf) (List.mem_of_getElem? (i := 11) rfl)
  have w40 := hts (.methodLink RX5 40 yX5_isCan) (List.mem_of_getElem? (i := 7) rfl)
  have w44 := hts (.classLink RX5 44 "java/lang/IndexOutOfBoundsException") (List.mem_of_getElem? (i := 1) rfl)
  have w55 := hts (.classLink RX5 55 "java/lang/IllegalArgumentException") (List.mem_of_getElem? (i := 3) rfl)
  have w60 := hts (.fieldLink RX5 60 "DrawnSlivers$Frame" "cans" "LDrawnSlivers$Cans;") (List.mem_of_getElem? (i := 6) rfl)
  have wix1 := hts (.initialized "java/lang/IndexOutOfBoundsException") (List.mem_of_getElem? (i := 2) rfl)
  have wix2 := hts (.initialized "java/lang/IllegalArgumentException") (List.mem_of_getElem? (i := 4) rfl)
  have huX2 : ∀ w ∈ u_ws RX2 TX2 12, w.before _ s = true := fun w h => hts w (List.mem_cons_of_mem _ (List.mem_append_left _ (List.mem_append_left _ (List.mem_append_left _ (List.mem_append_right _ (h))))))
  have huX5 : ∀ w ∈ u_ws RX5 TX5 6, w.before _ s = true := fun w h => hts w (List.mem_cons_of_mem _ (List.mem_append_left _ (List.mem_append_left _ (List.mem_append_left _ (List.mem_append_left _ (List.mem_append_right _ (h)))))))
  subst hsz
  have hD := hD0.self (sz := s.heap.size)
  generalize hAe : va_A (wX5 a cI cF S) s.heap.size = A at hD hE ⊢
  have hA : ∀ q : Nat, s.heap.size ≤ q → A q := fun q h => by rw [← hAe]; exact Or.inr h
  have hS : va_S A s.heap s.heap [] := va_S.rf
  have hl := lv_entry ([.ref (a 0), .int x1, .int x2]) (n := 3) (Nat.le_of_ble_eq_true rfl)
  rw [lg_entry_eq]
  generalize (lg_sl ([.ref (a 0), .int x1, .int x2]) ++ List.replicate (3 - (lg_sl ([.ref (a 0), .int x1, .int x2])).length) Slot.unset).toArray = ls at hl ⊢
  have hl : lv_has ls 3 [(0, .ref (a 0)), (1, .int x1), (2, .int x2)] := hl
  rw [m_X5_metre] at h
  refine lv_iload_n hx hb dX5_metre_0 rfl (lv_at hl 1 rfl) ?_
  obtain ⟨v1, g2, h⟩ := o_b h
  refine k_ro (va_runS (As := [.int x1]) (rest := []) ⟨hx, hb, hml, hown, hts⟩ (c_X5_isCan l dC dI cI cF x1 v1 g2) (va_cwS 1 hts gX5_metre_X5_isCan rfl rfl rfl (by decide +kernel) ⟨Nat.le_of_ble_eq_true rfl, Nat.le_of_ble_eq_true rfl⟩) (k_prePU) rfl rfl hl.1 rfl (lv_room (Nat.le_of_ble_eq_true rfl)) dX5_metre_1 ⟨Nat.zero_le _, Nat.zero_le _⟩) (st1 := [.int v1]) rfl ?_
  refine lv_if_ne (tgt := 17) hx hb dX5_metre_4 (by decide) (fun c3 => ?_) (fun c3 => ?_)
  rotate_left
  · have h := o_t h c3
    have hu := Sum.inl.inj (Option.some.inj h)
    obtain ⟨sa, hsa⟩ := hE.2.1 (46, "no such can") (by decide)
    exact vx_throwS (own := RX5) (cls := "java/lang/IndexOutOfBoundsException") (text := "no such can") (names := ["java/lang/RuntimeException", "java/lang/Exception"]) (ik := 44) (is := 46) (ic := 48) (sa := sa) (A := A) hx hb hfl hown (by decide +kernel) (by decide +kernel) w44 wix1 hsa (vx_hat (fun w h => hts w (List.mem_cons_of_mem _ (List.mem_append_left _ (List.mem_append_right _ (h))))) (B := xW) (by decide +kernel) (fun w h => va_Nw.use (xW_ot w h) (hE.2.2.1 w h))) (by decide +kernel) hE.1.1 hE.1.2 hS (by rw [hml]; exact hl.1) dX5_metre_7 dX5_metre_10 dX5_metre_11 dX5_metre_13 dX5_metre_16 (fun z hz => (hnx z hz).elim) (Nat.le_of_ble_eq_true rfl) (Nat.le_of_ble_eq_true rfl) (Nat.le_of_ble_eq_true rfl) (Nat.le_of_ble_eq_true rfl) hlocks (fun t hv hz hq => ⟨⟨by rw [← hu]; rfl, k_Pkeep hP hq⟩, k_Fkeep hS hz hq⟩) hS.2.2 (Nat.le_refl _) (Nat.le_refl _)
  have h := o_f h c3
  refine lv_iload_n hx hb dX5_metre_17 rfl (lv_at hl 2 rfl) ?_
  refine lv_if_ge (tgt := 31) hx hb dX5_metre_18 (by decide) (fun c4 => ?_) (fun c4 => ?_)
  rotate_left
  · have h := o_f h c4
    have hu := Sum.inl.inj (Option.some.inj h)
    obtain ⟨sa, hsa⟩ := hE.2.1 (209, "metres are numbered from 0") (by decide)
    exact vx_throwS (own := RX5) (cls := "java/lang/IllegalArgumentException") (text := "metres are numbered from 0") (names := ["java/lang/RuntimeException", "java/lang/Exception"]) (ik := 55) (is := 209) (ic := 59) (sa := sa) (A := A) hx hb hfl hown (by decide +kernel) (by decide +kernel) w55 wix2 hsa (vx_hat (fun w h => hts w (List.mem_cons_of_mem _ (List.mem_append_right _ (h)))) (B := xW) (by decide +kernel) (fun w h => va_Nw.use (xW_ot w h) (hE.2.2.1 w h))) (by decide +kernel) hE.1.1 hE.1.2 hS (by rw [hml]; exact hl.1) dX5_metre_21 dX5_metre_24 dX5_metre_25 dX5_metre_27 dX5_metre_30 (fun z hz => (hnx z hz).elim) (Nat.le_of_ble_eq_true rfl) (Nat.le_of_ble_eq_true rfl) (Nat.le_of_ble_eq_true rfl) (Nat.le_of_ble_eq_true rfl) hlocks (fun t hv hz hq => ⟨⟨by rw [← hu]; rfl, k_Pkeep hP hq⟩, k_Fkeep hS hz hq⟩) hS.2.2 (Nat.le_refl _) (Nat.le_refl _)
  have h := o_t h c4
  refine lv_aload_n hx hb dX5_metre_31 rfl (lv_at hl 0 rfl) ?_
  refine va_get (D := (dC, dI)) (ci := 5) (v := .ref (a 1)) (C := RX5) (T := TX5) (N := 6) hx hb huX5 (fun _ h9 => h9) hown hK hP 0 rfl rfl 0 (by decide) w10 (fun _ h9 => h9) rfl dX5_metre_32 ?_
  refine va_get (D := (dC, dI)) (ci := 2) (v := .ref (a 2)) (C := RX2) (T := TX2) (N := 12) hx hb huX2 (fun _ h9 => h9) hown hK hP 1 rfl rfl 0 (by decide) w60 (fun _ h9 => h9) rfl dX5_metre_35 ?_
  refine lv_iload_n hx hb dX5_metre_38 rfl (lv_at hl 1 rfl) ?_
  refine lv_iload_n hx hb dX5_metre_39 rfl (lv_at hl 2 rfl) ?_
  obtain ⟨v5, g6, h⟩ := o_b h
  refine k_ro (va_runV (As := [.int x1, .int x2]) (rest := []) ⟨hx, hb, hml, hown, hts⟩ (c_X0_weightOf l dC dI cI cF (fun i => a (i + 2)) (g_X2_cans (g_X5_frame S)) x1 x2 v5 g6) (cwV 2 hts gX5_metre_X0_weightOf rfl rfl rfl (by decide +kernel) ⟨Nat.le_of_ble_eq_true rfl, Nat.le_of_ble_eq_true rfl⟩) (k_preL (q0 := 0) (ci := 0) hK hP (LX5_frame a cI cF S (s_X2_cans (g_X5_frame S) (g_X2_cans (g_X5_frame S))) (LX2_cans (fun i => a (i + 1)) cI cF (g_X5_frame S) (g_X2_cans (g_X5_frame S)) (LN_id (fX0 (fun i => a (i + 2)) cI cF (g_X2_cans (g_X5_frame S)) (g_X2_cans (g_X5_frame S)))))) rfl rfl rfl) rfl rfl hl.1 rfl (lv_room (Nat.le_of_ble_eq_true rfl)) dX5_metre_40 ⟨Nat.zero_le _, Nat.zero_le _⟩) (st1 := [.int v5]) rfl ?_
  cases h

def m_X5_setting (S : S_X5) (x1 : Int32) : Option ((Nat) ⊕ (Int32)) := (m_X5_isSetting x1).bind fun v1 => (if v1 = 0 then (some (.inl 1)) else ((m_X2_settingOf (g_X5_frame S) x1).bind fun v4 => (some (.inr v4))))
set_option maxHeartbeats 4000000 in
set_option maxRecDepth 100000 in
theorem c_X5_setting (l : Launch) (dC : Nat → ClassId) (dI : Nat → Nat → Nat) (cI cF : ClassId) (a : Nat → Nat) (S : S_X5) (x1 : Int32) (u : Int32) (h : m_X5_setting S x1 = some (.inr u)) : cRO l (dC, dI) cI cF yX5_setting wsX5_setting ({ frames := 1, cells := 0, slots := 0, locals := 21 } : Room) [.ref (a 0), .int x1] (wX5 a cI cF S) (some (.int u)) := by
  refine Met.ofW (cc := cX5_setting) (maxL := 2) (ret := (some .int)) (by decide) rfl ?_
  intro p e s m args below meth c s₁ B hml hv
  obtain ⟨hargs, hP, hK⟩ := hv
  subst hargs
  have hx := B.exec
  have hb := B.bytes
  have hr := B.returns
  have hts := atoms_spec (ws := wsX5_setting) B.pre
  have hown : s.vm.findClass RX5 = some m.cls := findClass_of_methodNamed B.named
  have hlocks := B.notSynchronized
  have w10 := hts (.fieldLink RX5 10 "DrawnSlivers" "frame" "LDrawnSlivers$Frame;") (List.mem_of_getElem? (i := 3) rfl)
  have w138 := hts (.methodLink RX5 138 yX5_isSetting) (List.mem_of_getElem? (i := 4) rfl)
  have w149 := hts (.methodLink RX5 149 yX2_settingOf) (List.mem_of_getElem? (i := 8) rfl)
  have huX5 : ∀ w ∈ u_ws RX5 TX5 6, w.before _ s = true := fun w h => hts w (List.mem_cons_of_mem _ (List.mem_append_left _ (List.mem_append_left _ (List.mem_append_right _ (h)))))
  have hl := lv_entry ([.ref (a 0), .int x1]) (n := 2) (Nat.le_of_ble_eq_true rfl)
  rw [lg_entry_eq]
  generalize (lg_sl ([.ref (a 0), .int x1]) ++ List.replicate (2 - (lg_sl ([.ref (a 0), .int x1])).length) Slot.unset).toArray = ls at hl ⊢
  have hl : lv_has ls 2 [(0, .ref (a 0)), (1, .int x1)] := hl
  rw [m_X5_setting] at h
  refine lv_iload_n hx hb dX5_setting_0 rfl (lv_at hl 1 rfl) ?_
  obtain ⟨v1, g2, h⟩ := o_b h
  refine k_ro (va_runS (As := [.int x1]) (rest := []) ⟨hx, hb, hml, hown, hts⟩ (c_X5_isSetting l dC dI cI cF x1 v1 g2) (va_cwS 1 hts gX5_setting_X5_isSetting rfl rfl rfl (by decide +kernel) ⟨Nat.le_of_ble_eq_true rfl, Nat.le_of_ble_eq_true rfl⟩) (k_prePU) rfl rfl hl.1 rfl (lv_room (Nat.le_of_ble_eq_true rfl)) dX5_setting_1 ⟨Nat.zero_le _, Nat.zero_le _⟩) (st1 := [.int v1]) rfl ?_
  refine lv_if_ne (tgt := 17) hx hb dX5_setting_4 (by decide) (fun c3 => ?_) (fun c3 => ?_)
  rotate_left
  · have h := o_t h c3
    cases h
  have h := o_f h c3
  refine lv_aload_n hx hb dX5_setting_17 rfl (lv_at hl 0 rfl) ?_
  refine va_get (D := (dC, dI)) (ci := 5) (v := .ref (a 1)) (C := RX5) (T := TX5) (N := 6) hx hb huX5 (fun _ h9 => h9) hown hK hP 0 rfl rfl 0 (by decide) w10 (fun _ h9 => h9) rfl dX5_setting_18 ?_
  refine lv_iload_n hx hb dX5_setting_21 rfl (lv_at hl 1 rfl) ?_
  obtain ⟨v4, g5, h⟩ := o_b h
  refine k_ro (va_runV (As := [.int x1]) (rest := []) ⟨hx, hb, hml, hown, hts⟩ (c_X2_settingOf l dC dI cI cF (fun i => a (i + 1)) (g_X5_frame S) x1 v4 g5) (cwV 1 hts gX5_setting_X2_settingOf rfl rfl rfl (by decide +kernel) ⟨Nat.le_of_ble_eq_true rfl, Nat.le_of_ble_eq_true rfl⟩) (k_preL (q0 := 0) (ci := 2) hK hP (LX5_frame a cI cF S (g_X5_frame S) (LN_id (fX2 (fun i => a (i + 1)) cI cF (g_X5_frame S) (g_X5_frame S)))) rfl rfl rfl) rfl rfl hl.1 rfl (lv_room (Nat.le_of_ble_eq_true rfl)) dX5_setting_22 ⟨Nat.zero_le _, Nat.zero_le _⟩) (st1 := [.int v4]) rfl ?_
  have hu := Sum.inr.inj (Option.some.inj h)
  exact W.iret (v := v4) hx hb hr (fun t ht hW => ⟨congrArg (fun z => Outcome.returned (some (Value.int z))) hu, ht⟩) (fun q hq => absurd hq List.not_mem_nil) dX5_setting_25

set_option maxHeartbeats 4000000 in
set_option maxRecDepth 100000 in
theorem c_X5_setting_x (l : Launch) (hfl : l.stackTraces = false) (dC : Nat → ClassId) (dI : Nat → Nat → Nat) (cI cF : ClassId) (a : Nat → Nat) (S : S_X5) (x1 : Int32) (u : Nat) (h : m_X5_setting S x1 = some (.inl u)) : ∀ sz : Nat, vx_Met l yX5_setting wsX5_setting ({ frames := 6, cells := 1, slots := 6, locals := 100 } : Room) (va_Pc [.ref (a 0), .int x1] (pRWe (dC, dI) cI cF (wX5 a cI cF S) sz)) (fun _ _ _ _ => False) (qX (dC, dI) (wX5 a cI cF S) (xnm u) (va_A (wX5 a cI cF S) sz)) 1 6 (va_A (wX5 a cI cF S) sz) := by
  intro sz
  refine vx_ofW (cc := cX5_setting) (maxL := 2) (ret := (some .int)) (by decide) rfl ?_
  intro p e s m args below meth c s₁ B hml hnx hv
  obtain ⟨hargs, ⟨hsz, hP, hK, hD0⟩, hE⟩ := hv
  subst hargs
  have hx := B.exec
  have hb := B.bytes
  have hr := B.returns
  have hts := atoms_spec (ws := wsX5_setting) B.pre
  have hown : s.vm.findClass RX5 = some m.cls := findClass_of_methodNamed B.named
  have hlocks := B.notSynchronized
  have w10 := hts (.fieldLink RX5 10 "DrawnSlivers" "frame" "LDrawnSlivers$Frame;") (List.mem_of_getElem? (i := 3) rfl)
  have w138 := hts (.methodLink RX5 138 yX5_isSetting) (List.mem_of_getElem? (i := 4) rfl)
  have w149 := hts (.methodLink RX5 149 yX2_settingOf) (List.mem_of_getElem? (i := 8) rfl)
  have w44 := hts (.classLink RX5 44 "java/lang/IndexOutOfBoundsException") (List.mem_of_getElem? (i := 1) rfl)
  have wix1 := hts (.initialized "java/lang/IndexOutOfBoundsException") (List.mem_of_getElem? (i := 2) rfl)
  have huX5 : ∀ w ∈ u_ws RX5 TX5 6, w.before _ s = true := fun w h => hts w (List.mem_cons_of_mem _ (List.mem_append_left _ (List.mem_append_left _ (List.mem_append_right _ (h)))))
  subst hsz
  have hD := hD0.self (sz := s.heap.size)
  generalize hAe : va_A (wX5 a cI cF S) s.heap.size = A at hD hE ⊢
  have hA : ∀ q : Nat, s.heap.size ≤ q → A q := fun q h => by rw [← hAe]; exact Or.inr h
  have hS : va_S A s.heap s.heap [] := va_S.rf
  have hl := lv_entry ([.ref (a 0), .int x1]) (n := 2) (Nat.le_of_ble_eq_true rfl)
  rw [lg_entry_eq]
  generalize (lg_sl ([.ref (a 0), .int x1]) ++ List.replicate (2 - (lg_sl ([.ref (a 0), .int x1])).length) Slot.unset).toArray = ls at hl ⊢
  have hl : lv_has ls 2 [(0, .ref (a 0)), (1, .int x1)] := hl
  rw [m_X5_setting] at h
  refine lv_iload_n hx hb dX5_setting_0 rfl (lv_at hl 1 rfl) ?_
  obtain ⟨v1, g2, h⟩ := o_b h
  refine k_ro (va_runS (As := [.int x1]) (rest := []) ⟨hx, hb, hml, hown, hts⟩ (c_X5_isSetting l dC dI cI cF x1 v1 g2) (va_cwS 1 hts gX5_setting_X5_isSetting rfl rfl rfl (by decide +kernel) ⟨Nat.le_of_ble_eq_true rfl, Nat.le_of_ble_eq_true rfl⟩) (k_prePU) rfl rfl hl.1 rfl (lv_room (Nat.le_of_ble_eq_true rfl)) dX5_setting_1 ⟨Nat.zero_le _, Nat.zero_le _⟩) (st1 := [.int v1]) rfl ?_
  refine lv_if_ne (tgt := 17) hx hb dX5_setting_4 (by decide) (fun c3 => ?_) (fun c3 => ?_)
  rotate_left
  · have h := o_t h c3
    have hu := Sum.inl.inj (Option.some.inj h)
    obtain ⟨sa, hsa⟩ := hE.2.1 (141, "no such setting") (by decide)
    exact vx_throwS (own := RX5) (cls := "java/lang/IndexOutOfBoundsException") (text := "no such setting") (names := ["java/lang/RuntimeException", "java/lang/Exception"]) (ik := 44) (is := 141) (ic := 48) (sa := sa) (A := A) hx hb hfl hown (by decide +kernel) (by decide +kernel) w44 wix1 hsa (vx_hat (fun w h => hts w (List.mem_cons_of_mem _ (List.mem_append_right _ (h)))) (B := xW) (by decide +kernel) (fun w h => va_Nw.use (xW_ot w h) (hE.2.2.1 w h))) (by decide +kernel) hE.1.1 hE.1.2 hS (by rw [hml]; exact hl.1) dX5_setting_7 dX5_setting_10 dX5_setting_11 dX5_setting_13 dX5_setting_16 (fun z hz => (hnx z hz).elim) (Nat.le_of_ble_eq_true rfl) (Nat.le_of_ble_eq_true rfl) (Nat.le_of_ble_eq_true rfl) (Nat.le_of_ble_eq_true rfl) hlocks (fun t hv hz hq => ⟨⟨by rw [← hu]; rfl, k_Pkeep hP hq⟩, k_Fkeep hS hz hq⟩) hS.2.2 (Nat.le_refl _) (Nat.le_refl _)
  have h := o_f h c3
  refine lv_aload_n hx hb dX5_setting_17 rfl (lv_at hl 0 rfl) ?_
  refine va_get (D := (dC, dI)) (ci := 5) (v := .ref (a 1)) (C := RX5) (T := TX5) (N := 6) hx hb huX5 (fun _ h9 => h9) hown hK hP 0 rfl rfl 0 (by decide) w10 (fun _ h9 => h9) rfl dX5_setting_18 ?_
  refine lv_iload_n hx hb dX5_setting_21 rfl (lv_at hl 1 rfl) ?_
  obtain ⟨v4, g5, h⟩ := o_b h
  refine k_ro (va_runV (As := [.int x1]) (rest := []) ⟨hx, hb, hml, hown, hts⟩ (c_X2_settingOf l dC dI cI cF (fun i => a (i + 1)) (g_X5_frame S) x1 v4 g5) (cwV 1 hts gX5_setting_X2_settingOf rfl rfl rfl (by decide +kernel) ⟨Nat.le_of_ble_eq_true rfl, Nat.le_of_ble_eq_true rfl⟩) (k_preL (q0 := 0) (ci := 2) hK hP (LX5_frame a cI cF S (g_X5_frame S) (LN_id (fX2 (fun i => a (i + 1)) cI cF (g_X5_frame S) (g_X5_frame S)))) rfl rfl rfl) rfl rfl hl.1 rfl (lv_room (Nat.le_of_ble_eq_true rfl)) dX5_setting_22 ⟨Nat.zero_le _, Nat.zero_le _⟩) (st1 := [.int v4]) rfl ?_
  cases h

def m_X5_ifRun (S : S_X5) (x1 : Int32) (x2 : Int32) : Option ((Nat × S_X5) ⊕ (Int32 × S_X5)) := (m_X5_isRunLength x1).bind fun v1 => (if v1 = 0 then (some (.inl (2, S))) else (if x2 < 0 then (some (.inl (2, S))) else (if x2 < (5 : Int32) then ((m_X2_copyFrom (g_X5_trial S) (g_X5_frame S)).bind fun v6 => ((m_X2_advance v6 x1).bind fun v8 => (nmL (v8.1) fun x3_10 => (if x2 = 0 then (some (.inr (x3_10, s_X5_trial S v8.2))) else if x2 = 1 then ((m_X0_spreadOf (g_X2_cans v8.2) (g_X2_taker v8.2)).bind fun v14 => (some (.inr (v14, s_X5_trial S v8.2)))) else if x2 = 2 then ((m_X0_stepsOf (g_X2_cans v8.2) (g_X2_taker v8.2)).bind fun v17 => (some (.inr (v17, s_X5_trial S v8.2)))) else if x2 = 3 then (some (.inr ((g_X2_waste v8.2) - (g_X2_waste (g_X5_frame S)), s_X5_trial S v8.2))) else ((m_X2_whyNot v8.2).bind fun v20 => (some (.inr (v20, s_X5_trial S v8.2)))))))) else (some (.inl (2, S))))))
set_option maxHeartbeats 4000000 in
set_option maxRecDepth 100000 in
theorem c_X5_ifRun (l : Launch) (dC : Nat → ClassId) (dI : Nat → Nat → Nat) (cI cF : ClassId) (a : Nat → Nat) (S : S_X5) (x1 : Int32) (x2 : Int32) (u : Int32 × S_X5) (h : m_X5_ifRun S x1 x2 = some (.inr u)) : cRW l (dC, dI) cI cF yX5_ifRun wsX5_ifRun ({ frames := 5, cells := 0, slots := 0, locals := 152 } : Room) [.ref (a 0), .int x1, .int x2] (wX5 a cI cF S) (wX5 a cI cF u.2) (some (.int u.1)) := by
  intro sz
  refine Met.ofW (cc := cX5_ifRun) (maxL := 4) (ret := (some .int)) (by decide) rfl ?_
  intro p e s m args below meth c s₁ B hml hv
  obtain ⟨hargs, hsz, hP, hK, hD0⟩ := hv
  subst hargs
  have hx := B.exec
  have hb := B.bytes
  have hr := B.returns
  have hts := atoms_spec (ws := wsX5_ifRun) B.pre
  have hown : s.vm.findClass RX5 = some m.cls := findClass_of_methodNamed B.named
  have hlocks := B.notSynchronized
  have w10 := hts (.fieldLink RX5 10 "DrawnSlivers" "frame" "LDrawnSlivers$Frame;") (List.mem_of_getElem? (i := 4) rfl)
  have w124 := hts (.fieldLink RX5 124 "DrawnSlivers$Frame" "taker" "I") (List.mem_of_getElem? (i := 6) rfl)
  have w127 := hts (.methodLink RX5 127 yX5_isRunLength) (List.mem_of_getElem? (i := 8) rfl)
  have w132 := hts (.methodLink RX5 132 yX2_advance) (List.mem_of_getElem? (i := 55) rfl)
  have w172 := hts (.methodLink RX5 172 yX2_copyFrom) (List.mem_of_getElem? (i := 12) rfl)
  have w19 := hts (.fieldLink RX5 19 "DrawnSlivers" "trial" "LDrawnSlivers$Frame;") (List.mem_of_getElem? (i := 3) rfl)
  have w194 := hts (.methodLink RX5 194 yX0_spreadOf) (List.mem_of_getElem? (i := 123) rfl)
  have w197 := hts (.methodLink RX5 197 yX0_stepsOf) (List.mem_of_getElem? (i := 136) rfl)
  have w233 := hts (.methodLink RX5 233 yX2_whyNot) (List.mem_of_getElem? (i := 143) rfl)
  have w60 := hts (.fieldLink RX5 60 "DrawnSlivers$Frame" "cans" "LDrawnSlivers$Cans;") (List.mem_of_getElem? (i := 5) rfl)
  have w99 := hts (.fieldLink RX5 99 "DrawnSlivers$Frame" "waste" "I") (List.mem_of_getElem? (i := 7) rfl)
  have huX2 : ∀ w ∈ u_ws RX2 TX2 12, w.before _ s = true := fun w h => hts w (List.mem_cons_of_mem _ (List.mem_append_left _ (List.mem_append_left _ (List.mem_append_left _ (List.mem_append_right _ (h))))))
  have huX5 : ∀ w ∈ u_ws RX5 TX5 6, w.before _ s = true := fun w h => hts w (List.mem_cons_of_mem _ (List.mem_append_left _ (List.mem_append_left _ (List.mem_append_left _ (List.mem_append_left _ (List.mem_append_right _ (h)))))))
  subst hsz
  have hD := hD0.self (sz := s.heap.size)
  generalize hAe : va_A (wX5 a cI cF S) s.heap.size = A at hD ⊢
  have hA : ∀ q : Nat, s.heap.size ≤ q → A q := fun q h => by rw [← hAe]; exact Or.inr h
  have hS : va_S A s.heap s.heap [] := va_S.rf
  have hl := lv_entry ([.ref (a 0), .int x1, .int x2]) (n := 4) (Nat.le_of_ble_eq_true rfl)
  rw [lg_entry_eq]
  generalize (lg_sl ([.ref (a 0), .int x1, .int x2]) ++ List.replicate (4 - (lg_sl ([.ref (a 0), .int x1, .int x2])).length) Slot.unset).toArray = ls at hl ⊢
  have hl : lv_has ls 4 [(0, .ref (a 0)), (1, .int x1), (2, .int x2)] := hl
  rw [m_X5_ifRun] at h
  refine lv_iload_n hx hb dX5_ifRun_0 rfl (lv_at hl 1 rfl) ?_
  obtain ⟨v1, g2, h⟩ := o_b h
  refine k_ro (va_runS (As := [.int x1]) (rest := []) ⟨hx, hb, hml, hown, hts⟩ (c_X5_isRunLength l dC dI cI cF x1 v1 g2) (va_cwS 1 hts gX5_ifRun_X5_isRunLength rfl rfl rfl (by decide +kernel) ⟨Nat.le_of_ble_eq_true rfl, Nat.le_of_ble_eq_true rfl⟩) (k_prePU) rfl rfl hl.1 rfl (lv_room (Nat.le_of_ble_eq_true rfl)) dX5_ifRun_1 ⟨Nat.zero_le _, Nat.zero_le _⟩) (st1 := [.int v1]) rfl ?_
  refine lv_if_eq (tgt := 16) hx hb dX5_ifRun_4 (by decide) (fun c3 => ?_) (fun c3 => ?_)
  · have h := o_t h c3
    cases h
  have h := o_f h c3
  refine lv_iload_n hx hb dX5_ifRun_7 rfl (lv_at hl 2 rfl) ?_
  refine lv_if_lt (tgt := 16) hx hb dX5_ifRun_8 (by decide) (fun c4 => ?_) (fun c4 => ?_)
  · have h := o_t h c4
    cases h
  have h := o_f h c4
  refine lv_iload_n hx hb dX5_ifRun_11 rfl (lv_at hl 2 rfl) ?_
  refine lv_iconst (v := (5 : Int32)) hx hb dX5_ifRun_12 (by decide) ?_
  refine lv_icmp_lt (tgt := 26) hx hb dX5_ifRun_13 (by decide) (fun c5 => ?_) (fun c5 => ?_)
  rotate_left
  · have h := o_f h c5
    cases h
  have h := o_t h c5
  refine lv_aload_n hx hb dX5_ifRun_26 rfl (lv_at hl 0 rfl) ?_
  refine va_get (D := (dC, dI)) (ci := 5) (v := .ref (a 15)) (C := RX5) (T := TX5) (N := 6) hx hb huX5 (fun _ h9 => h9) hown hK hP 0 rfl rfl 2 (by decide) w19 (fun _ h9 => h9) rfl dX5_ifRun_27 ?_
  refine lv_aload_n hx hb dX5_ifRun_30 rfl (lv_at hl 0 rfl) ?_
  refine va_get (D := (dC, dI)) (ci := 5) (v := .ref (a 1)) (C := RX5) (T := TX5) (N := 6) hx hb huX5 (fun _ h9 => h9) hown hK hP 0 rfl rfl 0 (by decide) w10 (fun _ h9 => h9) rfl dX5_ifRun_31 ?_
  obtain ⟨v6, g7, h⟩ := o_b h
  refine k_rwL (va_runV (As := [.ref (a 1)]) (rest := []) ⟨hx, hb, hml, hown, hts⟩ (c_X2_copyFrom l dC dI cI cF (fun i => a (i + 15)) (fun i => a (i + 1)) (g_X5_trial S) (g_X5_frame S) v6 g7 s.heap.size) (cwV 1 hts gX5_ifRun_X2_copyFrom rfl rfl rfl (by decide +kernel) ⟨Nat.le_of_ble_eq_true rfl, Nat.le_of_ble_eq_true rfl⟩) (k_preLw (q0 := 0) (ci := 2) hK hP hD (LN_sw (LX5_frame_trial a cI cF S (g_X5_frame S) v6)) rfl rfl rfl) rfl rfl hl.1 rfl (lv_room (Nat.le_of_ble_eq_true rfl)) dX5_ifRun_34 ⟨Nat.zero_le _, Nat.zero_le _⟩) (st1 := []) rfl hP hD hS hA (wn := wX5 a cI cF (s_X5_trial S v6)) (LN_sw (LX5_frame_trial a cI cF S (g_X5_frame S) v6)) (fun H locs hP hD hS => ?_)
  refine lv_aload_n hx hb dX5_ifRun_37 rfl (lv_at hl 0 rfl) ?_
  refine va_get (D := (dC, dI)) (ci := 5) (v := .ref (a 15)) (C := RX5) (T := TX5) (N := 6) hx hb huX5 (fun _ h9 => h9) hown hK hP 0 rfl rfl 2 (by decide) w19 (fun _ h9 => h9) rfl dX5_ifRun_38 ?_
  refine lv_iload_n hx hb dX5_ifRun_41 rfl (lv_at hl 1 rfl) ?_
  obtain ⟨v8, g9, h⟩ := o_b h
  refine k_rwL (va_runV (As := [.int x1]) (rest := []) ⟨hx, hb, hml, hown, hts⟩ (c_X2_advance l dC dI cI cF (fun i => a (i + 15)) v6 x1 v8 g9 H.size) (cwV 1 hts gX5_ifRun_X2_advance rfl rfl rfl (by decide +kernel) ⟨Nat.le_of_ble_eq_true rfl, Nat.le_of_ble_eq_true rfl⟩) (k_preLw (q0 := 0) (ci := 2) hK hP hD (LX5_trial a cI cF (s_X5_trial S v6) v8.2 (LN_id (fX2 (fun i => a (i + 15)) cI cF v6 v8.2))) rfl rfl rfl) rfl rfl hl.1 rfl (lv_room (Nat.le_of_ble_eq_true rfl)) dX5_ifRun_42 ⟨Nat.zero_le _, Nat.zero_le _⟩) (st1 := [.int v8.1]) rfl hP hD hS hA (wn := wX5 a cI cF (s_X5_trial S v8.2)) (LX5_trial a cI cF (s_X5_trial S v6) v8.2 (LN_id (fX2 (fun i => a (i + 15)) cI cF v6 v8.2))) (fun H locs hP hD hS => ?_)
  obtain ⟨x3_10, e11, h⟩ := o_n h
  refine lv_nmi e11 ?_
  refine lv_istore_n (lv' := [(3, .int x3_10), (0, .ref (a 0)), (1, .int x1), (2, .int x2)]) hx hb dX5_ifRun_45 rfl hl (by decide) rfl (fun ls hl => ?_)
  refine lv_iload_n hx hb dX5_ifRun_46 rfl (lv_at hl 3 rfl) ?_
  by_cases c_0 : x2 = 0
  · have h := o_t h c_0
    refine k_swIn (v := 0) (off := 29) (tgt := 76) hx hb c_0 dX5_ifRun_47 (by decide) (by decide) (by decide +kernel) (by decide) ?_
    refine lv_iload_n hx hb dX5_ifRun_76 rfl (lv_at hl 0 rfl) ?_
    have hu := Sum.inr.inj (Option.some.inj h)
    exact W.iret (v := x3_10) hx hb hr (fun t ht hW => ⟨⟨congrArg (fun z => Outcome.returned (some (Value.int z.1))) hu, by rw [ht, ← hu]; exact hP⟩, hS.F ht⟩) hS.2.2 dX5_ifRun_77
  have h := o_f h c_0
  by_cases c_1 : x2 = 1
  · have h := o_t h c_1
    refine k_swIn (v := 1) (off := 31) (tgt := 78) hx hb c_1 dX5_ifRun_47 (by decide) (by decide) (by decide +kernel) (by decide) ?_
    refine lv_aload_n hx hb dX5_ifRun_78 rfl (lv_at hl 1 rfl) ?_
    refine va_get (D := (dC, dI)) (ci := 5) (v := .ref (a 15)) (C := RX5) (T := TX5) (N := 6) hx hb huX5 (fun _ h9 => h9) hown hK hP 0 rfl rfl 2 (by decide) w19 (fun _ h9 => h9) rfl dX5_ifRun_79 ?_
    refine va_get (D := (dC, dI)) (ci := 2) (v := .ref (a 16)) (C := RX2) (T := TX2) (N := 12) hx hb huX2 (fun _ h9 => h9) hown hK hP 15 rfl rfl 0 (by decide) w60 (fun _ h9 => h9) rfl dX5_ifRun_82 ?_
    refine lv_aload_n hx hb dX5_ifRun_85 rfl (lv_at hl 1 rfl) ?_
    refine va_get (D := (dC, dI)) (ci := 5) (v := .ref (a 15)) (C := RX5) (T := TX5) (N := 6) hx hb huX5 (fun _ h9 => h9) hown hK hP 0 rfl rfl 2 (by decide) w19 (fun _ h9 => h9) rfl dX5_ifRun_86 ?_
    refine va_get (D := (dC, dI)) (ci := 2) (v := .int (g_X2_taker v8.2)) (C := RX2) (T := TX2) (N := 12) hx hb huX2 (fun _ h9 => h9) hown hK hP 15 rfl rfl 4 (by decide) w124 (fun _ h9 => h9) rfl dX5_ifRun_89 ?_
    obtain ⟨v14, g15, h⟩ := o_b h
    refine k_ro (va_runV (As := [.int (g_X2_taker v8.2)]) (rest := []) ⟨hx, hb, hml, hown, hts⟩ (c_X0_spreadOf l dC dI cI cF (fun i => a (i + 16)) (g_X2_cans v8.2) (g_X2_taker v8.2) v14 g15) (cwV 1 hts gX5_ifRun_X0_spreadOf rfl rfl rfl (by decide +kernel) ⟨Nat.le_of_ble_eq_true rfl, Nat.le_of_ble_eq_true rfl⟩) (k_preL (q0 := 0) (ci := 0) hK hP (LX5_trial a cI cF (s_X5_trial S v8.2) (s_X2_cans v8.2 (g_X2_cans v8.2)) (LX2_cans (fun i => a (i + 15)) cI cF v8.2 (g_X2_cans v8.2) (LN_id (fX0 (fun i => a (i + 16)) cI cF (g_X2_cans v8.2) (g_X2_cans v8.2))))) rfl rfl rfl) rfl rfl hl.1 rfl (lv_room (Nat.le_of_ble_eq_true rfl)) dX5_ifRun_92 ⟨Nat.zero_le _, Nat.zero_le _⟩) (st1 := [.int v14]) rfl ?_
    have hu := Sum.inr.inj (Option.some.inj h)
    exact W.iret (v := v14) hx hb hr (fun t ht hW => ⟨⟨congrArg (fun z => Outcome.returned (some (Value.int z.1))) hu, by rw [ht, ← hu]; exact hP⟩, hS.F ht⟩) hS.2.2 dX5_ifRun_95
  have h := o_f h c_1
  by_cases c_2 : x2 = 2
  · have h := o_t h c_2
    refine k_swIn (v := 2) (off := 49) (tgt := 96) hx hb c_2 dX5_ifRun_47 (by decide) (by decide) (by decide +kernel) (by decide) ?_
    refine lv_aload_n hx hb dX5_ifRun_96 rfl (lv_at hl 1 rfl) ?_
    refine va_get (D := (dC, dI)) (ci := 5) (v := .ref (a 15)) (C := RX5) (T := TX5) (N := 6) hx hb huX5 (fun _ h9 => h9) hown hK hP 0 rfl rfl 2 (by decide) w19 (fun _ h9 => h9) rfl dX5_ifRun_97 ?_
    refine va_get (D := (dC, dI)) (ci := 2) (v := .ref (a 16)) (C := RX2) (T := TX2) (N := 12) hx hb huX2 (fun _ h9 => h9) hown hK hP 15 rfl rfl 0 (by decide) w60 (fun _ h9 => h9) rfl dX5_ifRun_100 ?_
    refine lv_aload_n hx hb dX5_ifRun_103 rfl (lv_at hl 1 rfl) ?_
    refine va_get (D := (dC, dI)) (ci := 5) (v := .ref (a 15)) (C := RX5) (T := TX5) (N := 6) hx hb huX5 (fun _ h9 => h9) hown hK hP 0 rfl rfl 2 (by decide) w19 (fun _ h9 => h9) rfl dX5_ifRun_104 ?_
    refine va_get (D := (dC, dI)) (ci := 2) (v := .int (g_X2_taker v8.2)) (C := RX2) (T := TX2) (N := 12) hx hb huX2 (fun _ h9 => h9) hown hK hP 15 rfl rfl 4 (by decide) w124 (fun _ h9 => h9) rfl dX5_ifRun_107 ?_
    obtain ⟨v17, g18, h⟩ := o_b h
    refine k_ro (va_runV (As := [.int (g_X2_taker v8.2)]) (rest := []) ⟨hx, hb, hml, hown, hts⟩ (c_X0_stepsOf l dC dI cI cF (fun i => a (i + 16)) (g_X2_cans v8.2) (g_X2_taker v8.2) v17 g18) (cwV 1 hts gX5_ifRun_X0_stepsOf rfl rfl rfl (by decide +kernel) ⟨Nat.le_of_ble_eq_true rfl, Nat.le_of_ble_eq_true rfl⟩) (k_preL (q0 := 0) (ci := 0) hK hP (LX5_trial a cI cF (s_X5_trial S v8.2) (s_X2_cans v8.2 (g_X2_cans v8.2)) (LX2_cans (fun i => a (i + 15)) cI cF v8.2 (g_X2_cans v8.2) (LN_id (fX0 (fun i => a (i + 16)) cI cF (g_X2_cans v8.2) (g_X2_cans v8.2))))) rfl rfl rfl) rfl rfl hl.1 rfl (lv_room (Nat.le_of_ble_eq_true rfl)) dX5_ifRun_110 ⟨Nat.zero_le _, Nat.zero_le _⟩) (st1 := [.int v17]) rfl ?_
    have hu := Sum.inr.inj (Option.some.inj h)
    exact W.iret (v := v17) hx hb hr (fun t ht hW => ⟨⟨congrArg (fun z => Outcome.returned (some (Value.int z.1))) hu, by rw [ht, ← hu]; exact hP⟩, hS.F ht⟩) hS.2.2 dX5_ifRun_113
  have h := o_f h c_2
  by_cases c_3 : x2 = 3
  · have h := o_t h c_3
    refine k_swIn (v := 3) (off := 67) (tgt := 114) hx hb c_3 dX5_ifRun_47 (by decide) (by decide) (by decide +kernel) (by decide) ?_
    refine lv_aload_n hx hb dX5_ifRun_114 rfl (lv_at hl 1 rfl) ?_
    refine va_get (D := (dC, dI)) (ci := 5) (v := .ref (a 15)) (C := RX5) (T := TX5) (N := 6) hx hb huX5 (fun _ h9 => h9) hown hK hP 0 rfl rfl 2 (by decide) w19 (fun _ h9 => h9) rfl dX5_ifRun_115 ?_
    refine va_get (D := (dC, dI)) (ci := 2) (v := .int (g_X2_waste v8.2)) (C := RX2) (T := TX2) (N := 12) hx hb huX2 (fun _ h9 => h9) hown hK hP 15 rfl rfl 9 (by decide) w99 (fun _ h9 => h9) rfl dX5_ifRun_118 ?_
    refine lv_aload_n hx hb dX5_ifRun_121 rfl (lv_at hl 1 rfl) ?_
    refine va_get (D := (dC, dI)) (ci := 5) (v := .ref (a 1)) (C := RX5) (T := TX5) (N := 6) hx hb huX5 (fun _ h9 => h9) hown hK hP 0 rfl rfl 0 (by decide) w10 (fun _ h9 => h9) rfl dX5_ifRun_122 ?_
    refine va_get (D := (dC, dI)) (ci := 2) (v := .int (g_X2_waste (g_X5_frame S))) (C := RX2) (T := TX2) (N := 12) hx hb huX2 (fun _ h9 => h9) hown hK hP 1 rfl rfl 9 (by decide) w99 (fun _ h9 => h9) rfl dX5_ifRun_125 ?_
    refine lv_isub hx hb dX5_ifRun_128 ?_
    have hu := Sum.inr.inj (Option.some.inj h)
    exact W.iret (v := (g_X2_waste v8.2) - (g_X2_waste (g_X5_frame S))) hx hb hr (fun t ht hW => ⟨⟨congrArg (fun z => Outcome.returned (some (Value.int z.1))) hu, by rw [ht, ← hu]; exact hP⟩, hS.F ht⟩) hS.2.2 dX5_ifRun_129
  have h := o_f h c_3
  refine lv_tableOut (tgt := 130) hx hb dX5_ifRun_47 (k_swOut 3 (by decide) _ (fun k hk => ?_)) (by decide) ?_
  · rcases (show k = 0 ∨ k = 1 ∨ k = 2 ∨ k = 3 by omega) with rfl | rfl | rfl | rfl <;> first | exact c_0 | exact c_1 | exact c_2 | exact c_3
  refine lv_aload_n hx hb dX5_ifRun_130 rfl (lv_at hl 1 rfl) ?_
  refine va_get (D := (dC, dI)) (ci := 5) (v := .ref (a 15)) (C := RX5) (T := TX5) (N := 6) hx hb huX5 (fun _ h9 => h9) hown hK hP 0 rfl rfl 2 (by decide) w19 (fun _ h9 => h9) rfl dX5_ifRun_131 ?_
  obtain ⟨v20, g21, h⟩ := o_b h
  refine k_ro (va_runV (As := []) (rest := []) ⟨hx, hb, hml, hown, hts⟩ (c_X2_whyNot l dC dI cI cF (fun i => a (i + 15)) v8.2 v20 g21) (cwV 0 hts gX5_ifRun_X2_whyNot rfl rfl rfl (by decide +kernel) ⟨Nat.le_of_ble_eq_true rfl, Nat.le_of_ble_eq_true rfl⟩) (k_preL (q0 := 0) (ci := 2) hK hP (LX5_trial a cI cF (s_X5_trial S v8.2) v8.2 (LN_id (fX2 (fun i => a (i + 15)) cI cF v8.2 v8.2))) rfl rfl rfl) rfl rfl hl.1 rfl (lv_room (Nat.le_of_ble_eq_true rfl)) dX5_ifRun_134 ⟨Nat.zero_le _, Nat.zero_le _⟩) (st1 := [.int v20]) rfl ?_
  have hu := Sum.inr.inj (Option.some.inj h)
  exact W.iret (v := v20) hx hb hr (fun t ht hW => ⟨⟨congrArg (fun z => Outcome.returned (some (Value.int z.1))) hu, by rw [ht, ← hu]; exact hP⟩, hS.F ht⟩) hS.2.2 dX5_ifRun_137

set_option maxHeartbeats 4000000 in
set_option maxRecDepth 100000 in
theorem c_X5_ifRun_x (l : Launch) (hfl : l.stackTraces = false) (dC : Nat → ClassId) (dI : Nat → Nat → Nat) (cI cF : ClassId) (a : Nat → Nat) (S : S_X5) (x1 : Int32) (x2 : Int32) (u : Nat × S_X5) (h : m_X5_ifRun S x1 x2 = some (.inl u)) : ∀ sz : Nat, vx_Met l yX5_ifRun wsX5_ifRun ({ frames := 6, cells := 1, slots := 6, locals := 152 } : Room) (va_Pc [.ref (a 0), .int x1, .int x2] (pRWe (dC, dI) cI cF (wX5 a cI cF S) sz)) (fun _ _ _ _ => False) (qX (dC, dI) (wX5 a cI cF u.2) (xnm u.1) (va_A (wX5 a cI cF S) sz)) 1 6 (va_A (wX5 a cI cF S) sz) := by
  intro sz
  refine vx_ofW (cc := cX5_ifRun) (maxL := 4) (ret := (some .int)) (by decide) rfl ?_
  intro p e s m args below meth c s₁ B hml hnx hv
  obtain ⟨hargs, ⟨hsz, hP, hK, hD0⟩, hE⟩ := hv
  subst hargs
  have hx := B.exec
  have hb := B.bytes
  have hr := B.returns
  have hts := atoms_spec (ws := wsX5_ifRun) B.pre
  have hown : s.vm.findClass RX5 = some m.cls := findClass_of_methodNamed B.named
  have hlocks := B.notSynchronized
  have w10 := hts (.fieldLink RX5 10 "DrawnSlivers" "frame" "LDrawnSlivers$Frame;") (List.mem_of_getElem? (i := 4) rfl)
  have w124 := hts (.fieldLink RX5 124 "DrawnSlivers$Frame" "taker" "I") (List.mem_of_getElem? (i := 6) rfl)
  have w127 := hts (.methodLink RX5 127 yX5_isRunLength) (List.mem_of_getElem? (i := 8) rfl)
  have w132 := hts (.methodLink RX5 132 yX2_advance) (List.mem_of_getElem? (i := 55) rfl)
  have w172 := hts (.methodLink RX5 172 yX2_copyFrom) (List.mem_of_getElem? (i := 12) rfl)
  have w19 := hts (.fieldLink RX5 19 "DrawnSlivers" "trial" "LDrawnSlivers$Frame;") (List.mem_of_getElem? (i := 3) rfl)
  have w194 := hts (.methodLink RX5 194 yX0_spreadOf) (List.mem_of_getElem? (i := 123) rfl)
  have w197 := hts (.methodLink RX5 197 yX0_stepsOf) (List.mem_of_getElem? (i := 136) rfl)
  have w233 := hts (.methodLink RX5 233 yX2_whyNot) (List.mem_of_getElem? (i := 143) rfl)
  have w55 := hts (.classLink RX5 55 "java/lang/IllegalArgumentException") (List.mem_of_getElem? (i := 1) rfl)
  have w60 := hts (.fieldLink RX5 60 "DrawnSlivers$Frame" "cans" "LDrawnSlivers$Cans;") (List.mem_of_getElem? (i := 5) rfl)
  have w99 := hts (.fieldLink RX5 99 "DrawnSlivers$Frame" "waste" "I") (List.mem_of_getElem? (i := 7) rfl)
  have wix2 := hts (.initialized "java/lang/IllegalArgumentException") (List.mem_of_getElem? (i := 2) rfl)
  have huX2 : ∀ w ∈ u_ws RX2 TX2 12, w.before _ s = true := fun w h => hts w (List.mem_cons_of_mem _ (List.mem_append_left _ (List.mem_append_left _ (List.mem_append_left _ (List.mem_append_right _ (h))))))
  have huX5 : ∀ w ∈ u_ws RX5 TX5 6, w.before _ s = true := fun w h => hts w (List.mem_cons_of_mem _ (List.mem_append_left _ (List.mem_append_left _ (List.mem_append_left _ (List.mem_append_left _ (List.mem_append_right _ (h)))))))
  subst hsz
  have hD := hD0.self (sz := s.heap.size)
  generalize hAe : va_A (wX5 a cI cF S) s.heap.size = A at hD hE ⊢
  have hA : ∀ q : Nat, s.heap.size ≤ q → A q := fun q h => by rw [← hAe]; exact Or.inr h
  have hS : va_S A s.heap s.heap [] := va_S.rf
  have hl := lv_entry ([.ref (a 0), .int x1, .int x2]) (n := 4) (Nat.le_of_ble_eq_true rfl)
  rw [lg_entry_eq]
  generalize (lg_sl ([.ref (a 0), .int x1, .int x2]) ++ List.replicate (4 - (lg_sl ([.ref (a 0), .int x1, .int x2])).length) Slot.unset).toArray = ls at hl ⊢
  have hl : lv_has ls 4 [(0, .ref (a 0)), (1, .int x1), (2, .int x2)] := hl
  rw [m_X5_ifRun] at h
  refine lv_iload_n hx hb dX5_ifRun_0 rfl (lv_at hl 1 rfl) ?_
  obtain ⟨v1, g2, h⟩ := o_b h
  refine k_ro (va_runS (As := [.int x1]) (rest := []) ⟨hx, hb, hml, hown, hts⟩ (c_X5_isRunLength l dC dI cI cF x1 v1 g2) (va_cwS 1 hts gX5_ifRun_X5_isRunLength rfl rfl rfl (by decide +kernel) ⟨Nat.le_of_ble_eq_true rfl, Nat.le_of_ble_eq_true rfl⟩) (k_prePU) rfl rfl hl.1 rfl (lv_room (Nat.le_of_ble_eq_true rfl)) dX5_ifRun_1 ⟨Nat.zero_le _, Nat.zero_le _⟩) (st1 := [.int v1]) rfl ?_
  refine lv_if_eq (tgt := 16) hx hb dX5_ifRun_4 (by decide) (fun c3 => ?_) (fun c3 => ?_)
  · have h := o_t h c3
    have hu := Sum.inl.inj (Option.some.inj h)
    obtain ⟨sa, hsa⟩ := hE.2.1 (236, "steps are 1 to 40, what is 0 to 4") (by decide)
    exact vx_throwS (own := RX5) (cls := "java/lang/IllegalArgumentException") (text := "steps are 1 to 40, what is 0 to 4") (names := ["java/lang/RuntimeException", "java/lang/Exception"]) (ik := 55) (is := 236) (ic := 59) (sa := sa) (A := A) hx hb hfl hown (by decide +kernel) (by decide +kernel) w55 wix2 hsa (vx_hat (fun w h => hts w (List.mem_cons_of_mem _ (List.mem_append_right _ (h)))) (B := xW) (by decide +kernel) (fun w h => va_Nw.use (xW_ot w h) (hE.2.2.1 w h))) (by decide +kernel) hE.1.1 hE.1.2 hS (by rw [hml]; exact hl.1) dX5_ifRun_16 dX5_ifRun_19 dX5_ifRun_20 dX5_ifRun_22 dX5_ifRun_25 (fun z hz => (hnx z hz).elim) (Nat.le_of_ble_eq_true rfl) (Nat.le_of_ble_eq_true rfl) (Nat.le_of_ble_eq_true rfl) (Nat.le_of_ble_eq_true rfl) hlocks (fun t hv hz hq => ⟨⟨by rw [← hu]; rfl, by rw [← hu]; exact k_Pkeep hP hq⟩, k_Fkeep hS hz hq⟩) hS.2.2 (Nat.le_refl _) (Nat.le_refl _)
  have h := o_f h c3
  refine lv_iload_n hx hb dX5_ifRun_7 rfl (lv_at hl 2 rfl) ?_
  refine lv_if_lt (tgt := 16) hx hb dX5_ifRun_8 (by decide) (fun c4 => ?_) (fun c4 => ?_)
  · have h := o_t h c4
    have hu := Sum.inl.inj (Option.some.inj h)
    obtain ⟨sa, hsa⟩ := hE.2.1 (236, "steps are 1 to 40, what is 0 to 4") (by decide)
    exact vx_throwS (own := RX5) (cls := "java/lang/IllegalArgumentException") (text := "steps are 1 to 40, what is 0 to 4") (names := ["java/lang/RuntimeException", "java/lang/Exception"]) (ik := 55) (is := 236) (ic := 59) (sa := sa) (A := A) hx hb hfl hown (by decide +kernel) (by decide +kernel) w55 wix2 hsa (vx_hat (fun w h => hts w (List.mem_cons_of_mem _ (List.mem_append_right _ (h)))) (B := xW) (by decide +kernel) (fun w h => va_Nw.use (xW_ot w h) (hE.2.2.1 w h))) (by decide +kernel) hE.1.1 hE.1.2 hS (by rw [hml]; exact hl.1) dX5_ifRun_16 dX5_ifRun_19 dX5_ifRun_20 dX5_ifRun_22 dX5_ifRun_25 (fun z hz => (hnx z hz).elim) (Nat.le_of_ble_eq_true rfl) (Nat.le_of_ble_eq_true rfl) (Nat.le_of_ble_eq_true rfl) (Nat.le_of_ble_eq_true rfl) hlocks (fun t hv hz hq => ⟨⟨by rw [← hu]; rfl, by rw [← hu]; exact k_Pkeep hP hq⟩, k_Fkeep hS hz hq⟩) hS.2.2 (Nat.le_refl _) (Nat.le_refl _)
  have h := o_f h c4
  refine lv_iload_n hx hb dX5_ifRun_11 rfl (lv_at hl 2 rfl) ?_
  refine lv_iconst (v := (5 : Int32)) hx hb dX5_ifRun_12 (by decide) ?_
  refine lv_icmp_lt (tgt := 26) hx hb dX5_ifRun_13 (by decide) (fun c5 => ?_) (fun c5 => ?_)
  rotate_left
  · have h := o_f h c5
    have hu := Sum.inl.inj (Option.some.inj h)
    obtain ⟨sa, hsa⟩ := hE.2.1 (236, "steps are 1 to 40, what is 0 to 4") (by decide)
    exact vx_throwS (own := RX5) (cls := "java/lang/IllegalArgumentException") (text := "steps are 1 to 40, what is 0 to 4") (names := ["java/lang/RuntimeException", "java/lang/Exception"]) (ik := 55) (is := 236) (ic := 59) (sa := sa) (A := A) hx hb hfl hown (by decide +kernel) (by decide +kernel) w55 wix2 hsa (vx_hat (fun w h => hts w (List.mem_cons_of_mem _ (List.mem_append_right _ (h)))) (B := xW) (by decide +kernel) (fun w h => va_Nw.use (xW_ot w h) (hE.2.2.1 w h))) (by decide +kernel) hE.1.1 hE.1.2 hS (by rw [hml]; exact hl.1) dX5_ifRun_16 dX5_ifRun_19 dX5_ifRun_20 dX5_ifRun_22 dX5_ifRun_25 (fun z hz => (hnx z hz).elim) (Nat.le_of_ble_eq_true rfl) (Nat.le_of_ble_eq_true rfl) (Nat.le_of_ble_eq_true rfl) (Nat.le_of_ble_eq_true rfl) hlocks (fun t hv hz hq => ⟨⟨by rw [← hu]; rfl, by rw [← hu]; exact k_Pkeep hP hq⟩, k_Fkeep hS hz hq⟩) hS.2.2 (Nat.le_refl _) (Nat.le_refl _)
  have h := o_t h c5
  refine lv_aload_n hx hb dX5_ifRun_26 rfl (lv_at hl 0 rfl) ?_
  refine va_get (D := (dC, dI)) (ci := 5) (v := .ref (a 15)) (C := RX5) (T := TX5) (N := 6) hx hb huX5 (fun _ h9 => h9) hown hK hP 0 rfl rfl 2 (by decide) w19 (fun _ h9 => h9) rfl dX5_ifRun_27 ?_
  refine lv_aload_n hx hb dX5_ifRun_30 rfl (lv_at hl 0 rfl) ?_
  refine va_get (D := (dC, dI)) (ci := 5) (v := .ref (a 1)) (C := RX5) (T := TX5) (N := 6) hx hb huX5 (fun _ h9 => h9) hown hK hP 0 rfl rfl 0 (by decide) w10 (fun _ h9 => h9) rfl dX5_ifRun_31 ?_
  obtain ⟨v6, g7, h⟩ := o_b h
  refine k_rwL (va_runV (As := [.ref (a 1)]) (rest := []) ⟨hx, hb, hml, hown, hts⟩ (c_X2_copyFrom l dC dI cI cF (fun i => a (i + 15)) (fun i => a (i + 1)) (g_X5_trial S) (g_X5_frame S) v6 g7 s.heap.size) (cwV 1 hts gX5_ifRun_X2_copyFrom rfl rfl rfl (by decide +kernel) ⟨Nat.le_of_ble_eq_true rfl, Nat.le_of_ble_eq_true rfl⟩) (k_preLw (q0 := 0) (ci := 2) hK hP hD (LN_sw (LX5_frame_trial a cI cF S (g_X5_frame S) v6)) rfl rfl rfl) rfl rfl hl.1 rfl (lv_room (Nat.le_of_ble_eq_true rfl)) dX5_ifRun_34 ⟨Nat.zero_le _, Nat.zero_le _⟩) (st1 := []) rfl hP hD hS hA (wn := wX5 a cI cF (s_X5_trial S v6)) (LN_sw (LX5_frame_trial a cI cF S (g_X5_frame S) v6)) (fun H locs hP hD hS => ?_)
  refine lv_aload_n hx hb dX5_ifRun_37 rfl (lv_at hl 0 rfl) ?_
  refine va_get (D := (dC, dI)) (ci := 5) (v := .ref (a 15)) (C := RX5) (T := TX5) (N := 6) hx hb huX5 (fun _ h9 => h9) hown hK hP 0 rfl rfl 2 (by decide) w19 (fun _ h9 => h9) rfl dX5_ifRun_38 ?_
  refine lv_iload_n hx hb dX5_ifRun_41 rfl (lv_at hl 1 rfl) ?_
  obtain ⟨v8, g9, h⟩ := o_b h
  refine k_rwL (va_runV (As := [.int x1]) (rest := []) ⟨hx, hb, hml, hown, hts⟩ (c_X2_advance l dC dI cI cF (fun i => a (i + 15)) v6 x1 v8 g9 H.size) (cwV 1 hts gX5_ifRun_X2_advance rfl rfl rfl (by decide +kernel) ⟨Nat.le_of_ble_eq_true rfl, Nat.le_of_ble_eq_true rfl⟩) (k_preLw (q0 := 0) (ci := 2) hK hP hD (LX5_trial a cI cF (s_X5_trial S v6) v8.2 (LN_id (fX2 (fun i => a (i + 15)) cI cF v6 v8.2))) rfl rfl rfl) rfl rfl hl.1 rfl (lv_room (Nat.le_of_ble_eq_true rfl)) dX5_ifRun_42 ⟨Nat.zero_le _, Nat.zero_le _⟩) (st1 := [.int v8.1]) rfl hP hD hS hA (wn := wX5 a cI cF (s_X5_trial S v8.2)) (LX5_trial a cI cF (s_X5_trial S v6) v8.2 (LN_id (fX2 (fun i => a (i + 15)) cI cF v6 v8.2))) (fun H locs hP hD hS => ?_)
  obtain ⟨x3_10, e11, h⟩ := o_n h
  refine lv_nmi e11 ?_
  refine lv_istore_n (lv' := [(3, .int x3_10), (0, .ref (a 0)), (1, .int x1), (2, .int x2)]) hx hb dX5_ifRun_45 rfl hl (by decide) rfl (fun ls hl => ?_)
  refine lv_iload_n hx hb dX5_ifRun_46 rfl (lv_at hl 3 rfl) ?_
  by_cases c_0 : x2 = 0
  · have h := o_t h c_0
    refine k_swIn (v := 0) (off := 29) (tgt := 76) hx hb c_0 dX5_ifRun_47 (by decide) (by decide) (by decide +kernel) (by decide) ?_
    refine lv_iload_n hx hb dX5_ifRun_76 rfl (lv_at hl 0 rfl) ?_
    cases h
  have h := o_f h c_0
  by_cases c_1 : x2 = 1
  · have h := o_t h c_1
    refine k_swIn (v := 1) (off := 31) (tgt := 78) hx hb c_1 dX5_ifRun_47 (by decide) (by decide) (by decide +kernel) (by decide) ?_
    refine lv_aload_n hx hb dX5_ifRun_78 rfl (lv_at hl 1 rfl) ?_
    refine va_get (D := (dC, dI)) (ci := 5) (v := .ref (a 15)) (C := RX5) (T := TX5) (N := 6) hx hb huX5 (fun _ h9 => h9) hown hK hP 0 rfl rfl 2 (by decide) w19 (fun _ h9 => h9) rfl dX5_ifRun_79 ?_
    refine va_get (D := (dC, dI)) (ci := 2) (v := .ref (a 16)) (C := RX2) (T := TX2) (N := 12) hx hb huX2 (fun _ h9 => h9) hown hK hP 15 rfl rfl 0 (by decide) w60 (fun _ h9 => h9) rfl dX5_ifRun_82 ?_
    refine lv_aload_n hx hb dX5_ifRun_85 rfl (lv_at hl 1 rfl) ?_
    refine va_get (D := (dC, dI)) (ci := 5) (v := .ref (a 15)) (C := RX5) (T := TX5) (N := 6) hx hb huX5 (fun _ h9 => h9) hown hK hP 0 rfl rfl 2 (by decide) w19 (fun _ h9 => h9) rfl dX5_ifRun_86 ?_
    refine va_get (D := (dC, dI)) (ci := 2) (v := .int (g_X2_taker v8.2)) (C := RX2) (T := TX2) (N := 12) hx hb huX2 (fun _ h9 => h9) hown hK hP 15 rfl rfl 4 (by decide) w124 (fun _ h9 => h9) rfl dX5_ifRun_89 ?_
    obtain ⟨v14, g15, h⟩ := o_b h
    refine k_ro (va_runV (As := [.int (g_X2_taker v8.2)]) (rest := []) ⟨hx, hb, hml, hown, hts⟩ (c_X0_spreadOf l dC dI cI cF (fun i => a (i + 16)) (g_X2_cans v8.2) (g_X2_taker v8.2) v14 g15) (cwV 1 hts gX5_ifRun_X0_spreadOf rfl rfl rfl (by decide +kernel) ⟨Nat.le_of_ble_eq_true rfl, Nat.le_of_ble_eq_true rfl⟩) (k_preL (q0 := 0) (ci := 0) hK hP (LX5_trial a cI cF (s_X5_trial S v8.2) (s_X2_cans v8.2 (g_X2_cans v8.2)) (LX2_cans (fun i => a (i + 15)) cI cF v8.2 (g_X2_cans v8.2) (LN_id (fX0 (fun i => a (i + 16)) cI cF (g_X2_cans v8.2) (g_X2_cans v8.2))))) rfl rfl rfl) rfl rfl hl.1 rfl (lv_room (Nat.le_of_ble_eq_true rfl)) dX5_ifRun_92 ⟨Nat.zero_le _, Nat.zero_le _⟩) (st1 := [.int v14]) rfl ?_
    cases h
  have h := o_f h c_1
  by_cases c_2 : x2 = 2
  · have h := o_t h c_2
    refine k_swIn (v := 2) (off := 49) (tgt := 96) hx hb c_2 dX5_ifRun_47 (by decide) (by decide) (by decide +kernel) (by decide) ?_
    refine lv_aload_n hx hb dX5_ifRun_96 rfl (lv_at hl 1 rfl) ?_
    refine va_get (D := (dC, dI)) (ci := 5) (v := .ref (a 15)) (C := RX5) (T := TX5) (N := 6) hx hb huX5 (fun _ h9 => h9) hown hK hP 0 rfl rfl 2 (by decide) w19 (fun _ h9 => h9) rfl dX5_ifRun_97 ?_
    refine va_get (D := (dC, dI)) (ci := 2) (v := .ref (a 16)) (C := RX2) (T := TX2) (N := 12) hx hb huX2 (fun _ h9 => h9) hown hK hP 15 rfl rfl 0 (by decide) w60 (fun _ h9 => h9) rfl dX5_ifRun_100 ?_
    refine lv_aload_n hx hb dX5_ifRun_103 rfl (lv_at hl 1 rfl) ?_
    refine va_get (D := (dC, dI)) (ci := 5) (v := .ref (a 15)) (C := RX5) (T := TX5) (N := 6) hx hb huX5 (fun _ h9 => h9) hown hK hP 0 rfl rfl 2 (by decide) w19 (fun _ h9 => h9) rfl dX5_ifRun_104 ?_
    refine va_get (D := (dC, dI)) (ci := 2) (v := .int (g_X2_taker v8.2)) (C := RX2) (T := TX2) (N := 12) hx hb huX2 (fun _ h9 => h9) hown hK hP 15 rfl rfl 4 (by decide) w124 (fun _ h9 => h9) rfl dX5_ifRun_107 ?_
    obtain ⟨v17, g18, h⟩ := o_b h
    refine k_ro (va_runV (As := [.int (g_X2_taker v8.2)]) (rest := []) ⟨hx, hb, hml, hown, hts⟩ (c_X0_stepsOf l dC dI cI cF (fun i => a (i + 16)) (g_X2_cans v8.2) (g_X2_taker v8.2) v17 g18) (cwV 1 hts gX5_ifRun_X0_stepsOf rfl rfl rfl (by decide +kernel) ⟨Nat.le_of_ble_eq_true rfl, Nat.le_of_ble_eq_true rfl⟩) (k_preL (q0 := 0) (ci := 0) hK hP (LX5_trial a cI cF (s_X5_trial S v8.2) (s_X2_cans v8.2 (g_X2_cans v8.2)) (LX2_cans (fun i => a (i + 15)) cI cF v8.2 (g_X2_cans v8.2) (LN_id (fX0 (fun i => a (i + 16)) cI cF (g_X2_cans v8.2) (g_X2_cans v8.2))))) rfl rfl rfl) rfl rfl hl.1 rfl (lv_room (Nat.le_of_ble_eq_true rfl)) dX5_ifRun_110 ⟨Nat.zero_le _, Nat.zero_le _⟩) (st1 := [.int v17]) rfl ?_
    cases h
  have h := o_f h c_2
  by_cases c_3 : x2 = 3
  · have h := o_t h c_3
    refine k_swIn (v := 3) (off := 67) (tgt := 114) hx hb c_3 dX5_ifRun_47 (by decide) (by decide) (by decide +kernel) (by decide) ?_
    refine lv_aload_n hx hb dX5_ifRun_114 rfl (lv_at hl 1 rfl) ?_
    refine va_get (D := (dC, dI)) (ci := 5) (v := .ref (a 15)) (C := RX5) (T := TX5) (N := 6) hx hb huX5 (fun _ h9 => h9) hown hK hP 0 rfl rfl 2 (by decide) w19 (fun _ h9 => h9) rfl dX5_ifRun_115 ?_
    refine va_get (D := (dC, dI)) (ci := 2) (v := .int (g_X2_waste v8.2)) (C := RX2) (T := TX2) (N := 12) hx hb huX2 (fun _ h9 => h9) hown hK hP 15 rfl rfl 9 (by decide) w99 (fun _ h9 => h9) rfl dX5_ifRun_118 ?_
    refine lv_aload_n hx hb dX5_ifRun_121 rfl (lv_at hl 1 rfl) ?_
    refine va_get (D := (dC, dI)) (ci := 5) (v := .ref (a 1)) (C := RX5) (T := TX5) (N := 6) hx hb huX5 (fun _ h9 => h9) hown hK hP 0 rfl rfl 0 (by decide) w10 (fun _ h9 => h9) rfl dX5_ifRun_122 ?_
    refine va_get (D := (dC, dI)) (ci := 2) (v := .int (g_X2_waste (g_X5_frame S))) (C := RX2) (T := TX2) (N := 12) hx hb huX2 (fun _ h9 => h9) hown hK hP 1 rfl rfl 9 (by decide) w99 (fun _ h9 => h9) rfl dX5_ifRun_125 ?_
    refine lv_isub hx hb dX5_ifRun_128 ?_
    cases h
  have h := o_f h c_3
  refine lv_tableOut (tgt := 130) hx hb dX5_ifRun_47 (k_swOut 3 (by decide) _ (fun k hk => ?_)) (by decide) ?_
  · rcases (show k = 0 ∨ k = 1 ∨ k = 2 ∨ k = 3 by omega) with rfl | rfl | rfl | rfl <;> first | exact c_0 | exact c_1 | exact c_2 | exact c_3
  refine lv_aload_n hx hb dX5_ifRun_130 rfl (lv_at hl 1 rfl) ?_
  refine va_get (D := (dC, dI)) (ci := 5) (v := .ref (a 15)) (C := RX5) (T := TX5) (N := 6) hx hb huX5 (fun _ h9 => h9) hown hK hP 0 rfl rfl 2 (by decide) w19 (fun _ h9 => h9) rfl dX5_ifRun_131 ?_
  obtain ⟨v20, g21, h⟩ := o_b h
  refine k_ro (va_runV (As := []) (rest := []) ⟨hx, hb, hml, hown, hts⟩ (c_X2_whyNot l dC dI cI cF (fun i => a (i + 15)) v8.2 v20 g21) (cwV 0 hts gX5_ifRun_X2_whyNot rfl rfl rfl (by decide +kernel) ⟨Nat.le_of_ble_eq_true rfl, Nat.le_of_ble_eq_true rfl⟩) (k_preL (q0 := 0) (ci := 2) hK hP (LX5_trial a cI cF (s_X5_trial S v8.2) v8.2 (LN_id (fX2 (fun i => a (i + 15)) cI cF v8.2 v8.2))) rfl rfl rfl) rfl rfl hl.1 rfl (lv_room (Nat.le_of_ble_eq_true rfl)) dX5_ifRun_134 ⟨Nat.zero_le _, Nat.zero_le _⟩) (st1 := [.int v20]) rfl ?_
  cases h

