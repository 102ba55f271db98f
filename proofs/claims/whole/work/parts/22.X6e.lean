-- X6_canNumber X6_can X6_metre X6_remembered X6_feeler X6_all X6_counted X6_count X6_setting X6_why
def m_X6_canNumber_L13 (S : S_X6) (y1 : Int32) (y2 : Int32) (t0 : Int32) : Option (Int32) := if y2 = 0 then ((m_X6_metres S y1).bind fun v5 => (some v5)) else if y2 = 1 then ((m_X6_sum S y1).bind fun v8 => (some v8)) else if y2 = 2 then ((m_X6_least S y1).bind fun v11 => (some v11)) else if y2 = 3 then ((m_X6_greatest S y1).bind fun v14 => (some v14)) else if y2 = 4 then (if t0 = 0 then ((m_X6_greatest S y1).bind fun v18 => ((m_X6_least S y1).bind fun v20 => (some (v18 - v20)))) else (some (0 : Int32))) else if y2 = 5 then ((m_X6_steps S y1).bind fun v23 => (some v23)) else if y2 = 6 then ((m_X6_isFed S y1).bind fun v26 => (if v26 = 0 then (some (0 : Int32)) else (some (1 : Int32)))) else (if t0 = 0 then ((m_X6_weight S y1 (0 : Int32)).bind fun v30 => (some v30)) else (some (-1 : Int32)))
def m_X6_canNumber (S : S_X6) (x1 : Int32) (x2 : Int32) : Option (Int32) := (m_X6_metres S x1).bind fun v1 => (if v1 = 0 then (m_X6_canNumber_L13 S x1 x2 (1 : Int32)) else (m_X6_canNumber_L13 S x1 x2 (0 : Int32)))
set_option maxHeartbeats 4000000 in
set_option maxRecDepth 100000 in
theorem c_X6_canNumber (l : Launch) (dC : Nat → ClassId) (dI : Nat → Nat → Nat) (cI cF : ClassId) (a : Nat → Nat) (S : S_X6) (x1 : Int32) (x2 : Int32) (u : Int32) (h : m_X6_canNumber S x1 x2 = some u) : cRO l (dC, dI) cI cF yX6_canNumber wsX6_canNumber ({ frames := 2, cells := 0, slots := 0, locals := 46 } : Room) [.ref (a 0), .int x1, .int x2] (wX6 a cI cF S) (some (.int u)) := by
  refine Met.ofW (cc := cX6_canNumber) (maxL := 4) (ret := (some .int)) (by decide) rfl ?_
  intro p e s m args below meth c s₁ B hml hv
  obtain ⟨hargs, hP, hK⟩ := hv
  subst hargs
  have hx := B.exec
  have hb := B.bytes
  have hr := B.returns
  have hts := atoms_spec (ws := wsX6_canNumber) B.pre
  have hown : s.vm.findClass RX6 = some m.cls := findClass_of_methodNamed B.named
  have hlocks := B.notSynchronized
  have w107 := hts (.methodLink RX6 107 yX6_sum) (List.mem_of_getElem? (i := 7) rfl)
  have w119 := hts (.methodLink RX6 119 yX6_least) (List.mem_of_getElem? (i := 15) rfl)
  have w122 := hts (.methodLink RX6 122 yX6_greatest) (List.mem_of_getElem? (i := 19) rfl)
  have w125 := hts (.methodLink RX6 125 yX6_steps) (List.mem_of_getElem? (i := 23) rfl)
  have w36 := hts (.methodLink RX6 36 yX6_metres) (List.mem_of_getElem? (i := 1) rfl)
  have w40 := hts (.methodLink RX6 40 yX6_weight) (List.mem_of_getElem? (i := 11) rfl)
  have w44 := hts (.methodLink RX6 44 yX6_isFed) (List.mem_of_getElem? (i := 27) rfl)
  have L13 : ∀ (y1 : Int32) (y2 : Int32) (t0 : Int32), m_X6_canNumber_L13 S y1 y2 t0 = some u → ∀ (ls : Array Slot), lv_has ls 4 [(0, .ref (a 0)), (1, .int y1), (2, .int y2)] → W p l e (headSpec wsX6_canNumber ({ frames := 2, cells := 0, slots := 0, locals := 46 } : Room)).room s m ([.ref (a 0), .int x1, .int x2] : List Value).toArray below meth c s.heap [] 0 0 (MQ below (qRO (some (.int u))) ([.ref (a 0), .int x1, .int x2] : List Value).toArray s 0 0 (fun _ => False)) (F0 m 13 ls [.int t0]) := by
    intro  y1 y2 t0 h ls hl
    rw [m_X6_canNumber_L13] at h
    refine lv_istore_n (lv' := [(3, .int t0), (0, .ref (a 0)), (1, .int y1), (2, .int y2)]) hx hb dX6_canNumber_13 rfl hl (by decide) rfl (fun ls hl => ?_)
    refine lv_iload_n hx hb dX6_canNumber_14 rfl (lv_at hl 3 rfl) ?_
    by_cases c_0 : y2 = 0
    · have h := o_t h c_0
      refine k_swIn (v := 0) (off := 41) (tgt := 56) hx hb c_0 dX6_canNumber_15 (by decide) (by decide) (by decide +kernel) (by decide) ?_
      refine lv_aload_n hx hb dX6_canNumber_56 rfl (lv_at hl 1 rfl) ?_
      refine lv_iload_n hx hb dX6_canNumber_57 rfl (lv_at hl 2 rfl) ?_
      obtain ⟨v5, g6, h⟩ := o_b h
      refine k_ro (va_runV (As := [.int y1]) (rest := []) ⟨hx, hb, hml, hown, hts⟩ (c_X6_metres l dC dI cI cF a S y1 v5 g6) (cwV 1 hts gX6_canNumber_X6_metres rfl rfl rfl (by decide +kernel) ⟨Nat.le_of_ble_eq_true rfl, Nat.le_of_ble_eq_true rfl⟩) (k_preV (q0 := 0) (ci := 6) hK (hP.sub (ws' := wX6 a cI cF S) [0, 1, 2, 3, 4, 5] rfl) rfl rfl rfl) rfl rfl hl.1 rfl (lv_room (Nat.le_of_ble_eq_true rfl)) dX6_canNumber_58 ⟨Nat.zero_le _, Nat.zero_le _⟩) (st1 := [.int v5]) rfl ?_
      have hu := Option.some.inj h
      exact W.iret (v := v5) hx hb hr (fun t ht hW => ⟨congrArg (fun z => Outcome.returned (some (Value.int z))) hu, ht⟩) (fun q hq => absurd hq List.not_mem_nil) dX6_canNumber_61
    have h := o_f h c_0
    by_cases c_1 : y2 = 1
    · have h := o_t h c_1
      refine k_swIn (v := 1) (off := 47) (tgt := 62) hx hb c_1 dX6_canNumber_15 (by decide) (by decide) (by decide +kernel) (by decide) ?_
      refine lv_aload_n hx hb dX6_canNumber_62 rfl (lv_at hl 1 rfl) ?_
      refine lv_iload_n hx hb dX6_canNumber_63 rfl (lv_at hl 2 rfl) ?_
      obtain ⟨v8, g9, h⟩ := o_b h
      refine k_ro (va_runV (As := [.int y1]) (rest := []) ⟨hx, hb, hml, hown, hts⟩ (c_X6_sum l dC dI cI cF a S y1 v8 g9) (cwV 1 hts gX6_canNumber_X6_sum rfl rfl rfl (by decide +kernel) ⟨Nat.le_of_ble_eq_true rfl, Nat.le_of_ble_eq_true rfl⟩) (k_preV (q0 := 0) (ci := 6) hK (hP.sub (ws' := wX6 a cI cF S) [0, 1, 2, 3, 4, 5] rfl) rfl rfl rfl) rfl rfl hl.1 rfl (lv_room (Nat.le_of_ble_eq_true rfl)) dX6_canNumber_64 ⟨Nat.zero_le _, Nat.zero_le _⟩) (st1 := [.int v8]) rfl ?_
      have hu := Option.some.inj h
      exact W.iret (v := v8) hx hb hr (fun t ht hW => ⟨congrArg (fun z => Outcome.returned (some (Value.int z))) hu, ht⟩) (fun q hq => absurd hq List.not_mem_nil) dX6_canNumber_67
    have h := o_f h c_1
    by_cases c_2 : y2 = 2
    · have h := o_t h c_2
      refine k_swIn (v := 2) (off := 53) (tgt := 68) hx hb c_2 dX6_canNumber_15 (by decide) (by decide) (by decide +kernel) (by decide) ?_
      refine lv_aload_n hx hb dX6_canNumber_68 rfl (lv_at hl 1 rfl) ?_
      refine lv_iload_n hx hb dX6_canNumber_69 rfl (lv_at hl 2 rfl) ?_
      obtain ⟨v11, g12, h⟩ := o_b h
      refine k_ro (va_runV (As := [.int y1]) (rest := []) ⟨hx, hb, hml, hown, hts⟩ (c_X6_least l dC dI cI cF a S y1 v11 g12) (cwV 1 hts gX6_canNumber_X6_least rfl rfl rfl (by decide +kernel) ⟨Nat.le_of_ble_eq_true rfl, Nat.le_of_ble_eq_true rfl⟩) (k_preV (q0 := 0) (ci := 6) hK (hP.sub (ws' := wX6 a cI cF S) [0, 1, 2, 3, 4, 5] rfl) rfl rfl rfl) rfl rfl hl.1 rfl (lv_room (Nat.le_of_ble_eq_true rfl)) dX6_canNumber_70 ⟨Nat.zero_le _, Nat.zero_le _⟩) (st1 := [.int v11]) rfl ?_
      have hu := Option.some.inj h
      exact W.iret (v := v11) hx hb hr (fun t ht hW => ⟨congrArg (fun z => Outcome.returned (some (Value.int z))) hu, ht⟩) (fun q hq => absurd hq List.not_mem_nil) dX6_canNumber_73
    have h := o_f h c_2
    by_cases c_3 : y2 = 3
    · have h := o_t h c_3
      refine k_swIn (v := 3) (off := 59) (tgt := 74) hx hb c_3 dX6_canNumber_15 (by decide) (by decide) (by decide +kernel) (by decide) ?_
      refine lv_aload_n hx hb dX6_canNumber_74 rfl (lv_at hl 1 rfl) ?_
      refine lv_iload_n hx hb dX6_canNumber_75 rfl (lv_at hl 2 rfl) ?_
      obtain ⟨v14, g15, h⟩ := o_b h
      refine k_ro (va_runV (As := [.int y1]) (rest := []) ⟨hx, hb, hml, hown, hts⟩ (c_X6_greatest l dC dI cI cF a S y1 v14 g15) (cwV 1 hts gX6_canNumber_X6_greatest rfl rfl rfl (by decide +kernel) ⟨Nat.le_of_ble_eq_true rfl, Nat.le_of_ble_eq_true rfl⟩) (k_preV (q0 := 0) (ci := 6) hK (hP.sub (ws' := wX6 a cI cF S) [0, 1, 2, 3, 4, 5] rfl) rfl rfl rfl) rfl rfl hl.1 rfl (lv_room (Nat.le_of_ble_eq_true rfl)) dX6_canNumber_76 ⟨Nat.zero_le _, Nat.zero_le _⟩) (st1 := [.int v14]) rfl ?_
      have hu := Option.some.inj h
      exact W.iret (v := v14) hx hb hr (fun t ht hW => ⟨congrArg (fun z => Outcome.returned (some (Value.int z))) hu, ht⟩) (fun q hq => absurd hq List.not_mem_nil) dX6_canNumber_79
    have h := o_f h c_3
    by_cases c_4 : y2 = 4
    · have h := o_t h c_4
      refine k_swIn (v := 4) (off := 65) (tgt := 80) hx hb c_4 dX6_canNumber_15 (by decide) (by decide) (by decide +kernel) (by decide) ?_
      refine lv_iload_n hx hb dX6_canNumber_80 rfl (lv_at hl 0 rfl) ?_
      refine lv_if_eq (tgt := 88) hx hb dX6_canNumber_81 (by decide) (fun c17 => ?_) (fun c17 => ?_)
      rotate_left
      · have h := o_f h c17
        refine lv_iconst (v := (0 : Int32)) hx hb dX6_canNumber_84 (by decide) ?_
        refine lv_goto (tgt := 99) hx hb dX6_canNumber_85 (by decide) ?_
        have hu := Option.some.inj h
        exact W.iret (v := (0 : Int32)) hx hb hr (fun t ht hW => ⟨congrArg (fun z => Outcome.returned (some (Value.int z))) hu, ht⟩) (fun q hq => absurd hq List.not_mem_nil) dX6_canNumber_99
      have h := o_t h c17
      refine lv_aload_n hx hb dX6_canNumber_88 rfl (lv_at hl 1 rfl) ?_
      refine lv_iload_n hx hb dX6_canNumber_89 rfl (lv_at hl 2 rfl) ?_
      obtain ⟨v18, g19, h⟩ := o_b h
      refine k_ro (va_runV (As := [.int y1]) (rest := []) ⟨hx, hb, hml, hown, hts⟩ (c_X6_greatest l dC dI cI cF a S y1 v18 g19) (cwV 1 hts gX6_canNumber_X6_greatest rfl rfl rfl (by decide +kernel) ⟨Nat.le_of_ble_eq_true rfl, Nat.le_of_ble_eq_true rfl⟩) (k_preV (q0 := 0) (ci := 6) hK (hP.sub (ws' := wX6 a cI cF S) [0, 1, 2, 3, 4, 5] rfl) rfl rfl rfl) rfl rfl hl.1 rfl (lv_room (Nat.le_of_ble_eq_true rfl)) dX6_canNumber_90 ⟨Nat.zero_le _, Nat.zero_le _⟩) (st1 := [.int v18]) rfl ?_
      refine lv_aload_n hx hb dX6_canNumber_93 rfl (lv_at hl 1 rfl) ?_
      refine lv_iload_n hx hb dX6_canNumber_94 rfl (lv_at hl 2 rfl) ?_
      obtain ⟨v20, g21, h⟩ := o_b h
      refine k_ro (va_runV (As := [.int y1]) (rest := [.int v18]) ⟨hx, hb, hml, hown, hts⟩ (c_X6_least l dC dI cI cF a S y1 v20 g21) (cwV 1 hts gX6_canNumber_X6_least rfl rfl rfl (by decide +kernel) ⟨Nat.le_of_ble_eq_true rfl, Nat.le_of_ble_eq_true rfl⟩) (k_preV (q0 := 0) (ci := 6) hK (hP.sub (ws' := wX6 a cI cF S) [0, 1, 2, 3, 4, 5] rfl) rfl rfl rfl) rfl rfl hl.1 rfl (lv_room (Nat.le_of_ble_eq_true rfl)) dX6_canNumber_95 ⟨Nat.zero_le _, Nat.zero_le _⟩) (st1 := [.int v20, .int v18]) rfl ?_
      refine lv_isub hx hb dX6_canNumber_98 ?_
      have hu := Option.some.inj h
      exact W.iret (v := v18 - v20) hx hb hr (fun t ht hW => ⟨congrArg (fun z => Outcome.returned (some (Value.int z))) hu, ht⟩) (fun q hq => absurd hq List.not_mem_nil) dX6_canNumber_99
    have h := o_f h c_4
    by_cases c_5 : y2 = 5
    · have h := o_t h c_5
      refine k_swIn (v := 5) (off := 85) (tgt := 100) hx hb c_5 dX6_canNumber_15 (by decide) (by decide) (by decide +kernel) (by decide) ?_
      refine lv_aload_n hx hb dX6_canNumber_100 rfl (lv_at hl 1 rfl) ?_
      refine lv_iload_n hx hb dX6_canNumber_101 rfl (lv_at hl 2 rfl) ?_
      obtain ⟨v23, g24, h⟩ := o_b h
      refine k_ro (va_runV (As := [.int y1]) (rest := []) ⟨hx, hb, hml, hown, hts⟩ (c_X6_steps l dC dI cI cF a S y1 v23 g24) (cwV 1 hts gX6_canNumber_X6_steps rfl rfl rfl (by decide +kernel) ⟨Nat.le_of_ble_eq_true rfl, Nat.le_of_ble_eq_true rfl⟩) (k_preV (q0 := 0) (ci := 6) hK (hP.sub (ws' := wX6 a cI cF S) [0, 1, 2, 3, 4, 5] rfl) rfl rfl rfl) rfl rfl hl.1 rfl (lv_room (Nat.le_of_ble_eq_true rfl)) dX6_canNumber_102 ⟨Nat.zero_le _, Nat.zero_le _⟩) (st1 := [.int v23]) rfl ?_
      have hu := Option.some.inj h
      exact W.iret (v := v23) hx hb hr (fun t ht hW => ⟨congrArg (fun z => Outcome.returned (some (Value.int z))) hu, ht⟩) (fun q hq => absurd hq List.not_mem_nil) dX6_canNumber_105
    have h := o_f h c_5
    by_cases c_6 : y2 = 6
    · have h := o_t h c_6
      refine k_swIn (v := 6) (off := 91) (tgt := 106) hx hb c_6 dX6_canNumber_15 (by decide) (by decide) (by decide +kernel) (by decide) ?_
      refine lv_aload_n hx hb dX6_canNumber_106 rfl (lv_at hl 1 rfl) ?_
      refine lv_iload_n hx hb dX6_canNumber_107 rfl (lv_at hl 2 rfl) ?_
      obtain ⟨v26, g27, h⟩ := o_b h
      refine k_ro (va_runV (As := [.int y1]) (rest := []) ⟨hx, hb, hml, hown, hts⟩ (c_X6_isFed l dC dI cI cF a S y1 v26 g27) (cwV 1 hts gX6_canNumber_X6_isFed rfl rfl rfl (by decide +kernel) ⟨Nat.le_of_ble_eq_true rfl, Nat.le_of_ble_eq_true rfl⟩) (k_preV (q0 := 0) (ci := 6) hK (hP.sub (ws' := wX6 a cI cF S) [0, 1, 2, 3, 4, 5] rfl) rfl rfl rfl) rfl rfl hl.1 rfl (lv_room (Nat.le_of_ble_eq_true rfl)) dX6_canNumber_108 ⟨Nat.zero_le _, Nat.zero_le _⟩) (st1 := [.int v26]) rfl ?_
      refine lv_if_eq (tgt := 118) hx hb dX6_canNumber_111 (by decide) (fun c28 => ?_) (fun c28 => ?_)
      · have h := o_t h c28
        refine lv_iconst (v := (0 : Int32)) hx hb dX6_canNumber_118 (by decide) ?_
        have hu := Option.some.inj h
        exact W.iret (v := (0 : Int32)) hx hb hr (fun t ht hW => ⟨congrArg (fun z => Outcome.returned (some (Value.int z))) hu, ht⟩) (fun q hq => absurd hq List.not_mem_nil) dX6_canNumber_119
      have h := o_f h c28
      refine lv_iconst (v := (1 : Int32)) hx hb dX6_canNumber_114 (by decide) ?_
      refine lv_goto (tgt := 119) hx hb dX6_canNumber_115 (by decide) ?_
      have hu := Option.some.inj h
      exact W.iret (v := (1 : Int32)) hx hb hr (fun t ht hW => ⟨congrArg (fun z => Outcome.returned (some (Value.int z))) hu, ht⟩) (fun q hq => absurd hq List.not_mem_nil) dX6_canNumber_119
    have h := o_f h c_6
    refine lv_tableOut (tgt := 120) hx hb dX6_canNumber_15 (k_swOut 6 (by decide) _ (fun k hk => ?_)) (by decide) ?_
    · rcases (show k = 0 ∨ k = 1 ∨ k = 2 ∨ k = 3 ∨ k = 4 ∨ k = 5 ∨ k = 6 by omega) with rfl | rfl | rfl | rfl | rfl | rfl | rfl <;> first | exact c_0 | exact c_1 | exact c_2 | exact c_3 | exact c_4 | exact c_5 | exact c_6
    refine lv_iload_n hx hb dX6_canNumber_120 rfl (lv_at hl 0 rfl) ?_
    refine lv_if_eq (tgt := 128) hx hb dX6_canNumber_121 (by decide) (fun c29 => ?_) (fun c29 => ?_)
    rotate_left
    · have h := o_f h c29
      refine lv_iconst (v := (-1 : Int32)) hx hb dX6_canNumber_124 (by decide) ?_
      refine lv_goto (tgt := 134) hx hb dX6_canNumber_125 (by decide) ?_
      have hu := Option.some.inj h
      exact W.iret (v := (-1 : Int32)) hx hb hr (fun t ht hW => ⟨congrArg (fun z => Outcome.returned (some (Value.int z))) hu, ht⟩) (fun q hq => absurd hq List.not_mem_nil) dX6_canNumber_134
    have h := o_t h c29
    refine lv_aload_n hx hb dX6_canNumber_128 rfl (lv_at hl 1 rfl) ?_
    refine lv_iload_n hx hb dX6_canNumber_129 rfl (lv_at hl 2 rfl) ?_
    refine lv_iconst (v := (0 : Int32)) hx hb dX6_canNumber_130 (by decide) ?_
    obtain ⟨v30, g31, h⟩ := o_b h
    refine k_ro (va_runV (As := [.int y1, .int (0 : Int32)]) (rest := []) ⟨hx, hb, hml, hown, hts⟩ (c_X6_weight l dC dI cI cF a S y1 (0 : Int32) v30 g31) (cwV 2 hts gX6_canNumber_X6_weight rfl rfl rfl (by decide +kernel) ⟨Nat.le_of_ble_eq_true rfl, Nat.le_of_ble_eq_true rfl⟩) (k_preV (q0 := 0) (ci := 6) hK (hP.sub (ws' := wX6 a cI cF S) [0, 1, 2, 3, 4, 5] rfl) rfl rfl rfl) rfl rfl hl.1 rfl (lv_room (Nat.le_of_ble_eq_true rfl)) dX6_canNumber_131 ⟨Nat.zero_le _, Nat.zero_le _⟩) (st1 := [.int v30]) rfl ?_
    have hu := Option.some.inj h
    exact W.iret (v := v30) hx hb hr (fun t ht hW => ⟨congrArg (fun z => Outcome.returned (some (Value.int z))) hu, ht⟩) (fun q hq => absurd hq List.not_mem_nil) dX6_canNumber_134
  have hl := lv_entry ([.ref (a 0), .int x1, .int x2]) (n := 4) (Nat.le_of_ble_eq_true rfl)
  rw [lg_entry_eq]
  generalize (lg_sl ([.ref (a 0), .int x1, .int x2]) ++ List.replicate (4 - (lg_sl ([.ref (a 0), .int x1, .int x2])).length) Slot.unset).toArray = ls at hl ⊢
  have hl : lv_has ls 4 [(0, .ref (a 0)), (1, .int x1), (2, .int x2)] := hl
  rw [m_X6_canNumber] at h
  refine lv_aload_n hx hb dX6_canNumber_0 rfl (lv_at hl 0 rfl) ?_
  refine lv_iload_n hx hb dX6_canNumber_1 rfl (lv_at hl 1 rfl) ?_
  obtain ⟨v1, g2, h⟩ := o_b h
  refine k_ro (va_runV (As := [.int x1]) (rest := []) ⟨hx, hb, hml, hown, hts⟩ (c_X6_metres l dC dI cI cF a S x1 v1 g2) (cwV 1 hts gX6_canNumber_X6_metres rfl rfl rfl (by decide +kernel) ⟨Nat.le_of_ble_eq_true rfl, Nat.le_of_ble_eq_true rfl⟩) (k_preV (q0 := 0) (ci := 6) hK (hP.sub (ws' := wX6 a cI cF S) [0, 1, 2, 3, 4, 5] rfl) rfl rfl rfl) rfl rfl hl.1 rfl (lv_room (Nat.le_of_ble_eq_true rfl)) dX6_canNumber_2 ⟨Nat.zero_le _, Nat.zero_le _⟩) (st1 := [.int v1]) rfl ?_
  refine lv_if_ne (tgt := 12) hx hb dX6_canNumber_5 (by decide) (fun c3 => ?_) (fun c3 => ?_)
  · have h := o_f h c3
    refine lv_iconst (v := (0 : Int32)) hx hb dX6_canNumber_12 (by decide) ?_
    exact L13 _ _ _ h _ (lv_sub hl [0, 1, 2] rfl)
  have h := o_t h c3
  refine lv_iconst (v := (1 : Int32)) hx hb dX6_canNumber_8 (by decide) ?_
  refine lv_goto (tgt := 13) hx hb dX6_canNumber_9 (by decide) ?_
  exact L13 _ _ _ h _ (lv_sub hl [0, 1, 2] rfl)

def m_X6_can (S : S_X6) (x1 : Int32) (x2 : Int32) : Option (Int32 × S_X6) := (m_X6_isCan x1).bind fun v1 => (if v1 = 0 then ((m_X6_throwing (s_X6_thrown S (0 : Int32)) (1 : Int32)).bind fun v11 => (some (v11.1, v11.2))) else ((m_X6_in x2 (0 : Int32) (7 : Int32)).bind fun v4 => (if v4 = 0 then ((m_X6_throwing (s_X6_thrown S (0 : Int32)) (2 : Int32)).bind fun v7 => (some (v7.1, v7.2))) else ((m_X6_canNumber (s_X6_thrown S (0 : Int32)) x1 x2).bind fun v9 => (some (v9, s_X6_thrown S (0 : Int32)))))))
set_option maxHeartbeats 4000000 in
set_option maxRecDepth 100000 in
theorem c_X6_can (l : Launch) (dC : Nat → ClassId) (dI : Nat → Nat → Nat) (cI cF : ClassId) (a : Nat → Nat) (S : S_X6) (x1 : Int32) (x2 : Int32) (u : Int32 × S_X6) (h : m_X6_can S x1 x2 = some u) : cRW l (dC, dI) cI cF yX6_can wsX6_can ({ frames := 3, cells := 0, slots := 0, locals := 69 } : Room) [.ref (a 0), .int x1, .int x2] (wX6 a cI cF S) (wX6 a cI cF u.2) (some (.int u.1)) := by
  intro sz
  refine Met.ofW (cc := cX6_can) (maxL := 3) (ret := (some .int)) (by decide) rfl ?_
  intro p e s m args below meth c s₁ B hml hv
  obtain ⟨hargs, hsz, hP, hK, hD0⟩ := hv
  subst hargs
  have hx := B.exec
  have hb := B.bytes
  have hr := B.returns
  have hts := atoms_spec (ws := wsX6_can) B.pre
  have hown : s.vm.findClass RX6 = some m.cls := findClass_of_methodNamed B.named
  have hlocks := B.notSynchronized
  have w128 := hts (.methodLink RX6 128 yX6_canNumber) (List.mem_of_getElem? (i := 13) rfl)
  have w25 := hts (.fieldLink RX6 25 "DrawnSliversModel" "thrown" "I") (List.mem_of_getElem? (i := 1) rfl)
  have w32 := hts (.methodLink RX6 32 yX6_in) (List.mem_of_getElem? (i := 6) rfl)
  have w95 := hts (.methodLink RX6 95 yX6_isCan) (List.mem_of_getElem? (i := 2) rfl)
  have w98 := hts (.methodLink RX6 98 yX6_throwing) (List.mem_of_getElem? (i := 9) rfl)
  have huX6 : ∀ w ∈ u_ws RX6 TX6 11, w.before _ s = true := fun w h => hts w (List.mem_cons_of_mem _ (List.mem_append_right _ (h)))
  subst hsz
  have hD := hD0.self (sz := s.heap.size)
  generalize hAe : va_A (wX6 a cI cF S) s.heap.size = A at hD ⊢
  have hA : ∀ q : Nat, s.heap.size ≤ q → A q := fun q h => by rw [← hAe]; exact Or.inr h
  have hS : va_S A s.heap s.heap [] := va_S.rf
  have hl := lv_entry ([.ref (a 0), .int x1, .int x2]) (n := 3) (Nat.le_of_ble_eq_true rfl)
  rw [lg_entry_eq]
  generalize (lg_sl ([.ref (a 0), .int x1, .int x2]) ++ List.replicate (3 - (lg_sl ([.ref (a 0), .int x1, .int x2])).length) Slot.unset).toArray = ls at hl ⊢
  have hl : lv_has ls 3 [(0, .ref (a 0)), (1, .int x1), (2, .int x2)] := hl
  rw [m_X6_can] at h
  refine lv_aload_n hx hb dX6_can_0 rfl (lv_at hl 0 rfl) ?_
  refine lv_iconst (v := (0 : Int32)) hx hb dX6_can_1 (by decide) ?_
  refine va_put (D := (dC, dI)) (ci := 6) (v := .int (0 : Int32)) (ty := .int) (C := RX6) (T := TX6) (N := 11) hx hb huX6 (fun _ h9 => h9) tyX6 tyX6_ok nmX6 hown hK hP hD hS 0 rfl rfl 8 (by decide) w25 (fun _ h9 => h9) rfl (by decide +kernel) rfl rfl (Nat.le_of_ble_eq_true rfl) dX6_can_2 (fun H locs hP hD hS => ?_)
  have hP : va_P (dC, dI) vwCl (wX6 a cI cF (s_X6_thrown S (0 : Int32))) H := hP
  have hD : va_D A (wX6 a cI cF (s_X6_thrown S (0 : Int32))) := hD
  refine lv_iload_n hx hb dX6_can_5 rfl (lv_at hl 1 rfl) ?_
  obtain ⟨v1, g2, h⟩ := o_b h
  refine k_ro (va_runS (As := [.int x1]) (rest := []) ⟨hx, hb, hml, hown, hts⟩ (c_X6_isCan l dC dI cI cF x1 v1 g2) (va_cwS 1 hts gX6_can_X6_isCan rfl rfl rfl (by decide +kernel) ⟨Nat.le_of_ble_eq_true rfl, Nat.le_of_ble_eq_true rfl⟩) (k_prePU) rfl rfl hl.1 rfl (lv_room (Nat.le_of_ble_eq_true rfl)) dX6_can_6 ⟨Nat.zero_le _, Nat.zero_le _⟩) (st1 := [.int v1]) rfl ?_
  refine lv_if_ne (tgt := 18) hx hb dX6_can_9 (by decide) (fun c3 => ?_) (fun c3 => ?_)
  rotate_left
  · have h := o_t h c3
    refine lv_aload_n hx hb dX6_can_12 rfl (lv_at hl 0 rfl) ?_
    refine lv_iconst (v := (1 : Int32)) hx hb dX6_can_13 (by decide) ?_
    obtain ⟨v11, g12, h⟩ := o_b h
    refine k_rw (va_runV (As := [.int (1 : Int32)]) (rest := []) ⟨hx, hb, hml, hown, hts⟩ (c_X6_throwing l dC dI cI cF a (s_X6_thrown S (0 : Int32)) (1 : Int32) v11 g12 H.size) (cwV 1 hts gX6_can_X6_throwing rfl rfl rfl (by decide +kernel) ⟨Nat.le_of_ble_eq_true rfl, Nat.le_of_ble_eq_true rfl⟩) (k_preVw (q0 := 0) (ci := 6) hK hP hD [0, 1, 2, 3, 4, 5] rfl rfl rfl rfl rfl) rfl rfl hl.1 rfl (lv_room (Nat.le_of_ble_eq_true rfl)) dX6_can_14 ⟨Nat.zero_le _, Nat.zero_le _⟩) (st1 := [.int v11.1]) rfl hP hD hS hA [0, 1, 2, 3, 4, 5] rfl rfl (wn := wX6 a cI cF v11.2) rfl rfl rfl (fun H locs hP hD hS => ?_)
    have hu := Option.some.inj h
    exact W.iret (v := v11.1) hx hb hr (fun t ht hW => ⟨⟨congrArg (fun z => Outcome.returned (some (Value.int z.1))) hu, by rw [ht, ← hu]; exact hP⟩, hS.F ht⟩) hS.2.2 dX6_can_17
  have h := o_f h c3
  refine lv_iload_n hx hb dX6_can_18 rfl (lv_at hl 2 rfl) ?_
  refine lv_iconst (v := (0 : Int32)) hx hb dX6_can_19 (by decide) ?_
  refine lv_bipush (v := (7 : Int32)) hx hb dX6_can_20 (by decide) ?_
  obtain ⟨v4, g5, h⟩ := o_b h
  refine k_ro (va_runS (As := [.int x2, .int (0 : Int32), .int (7 : Int32)]) (rest := []) ⟨hx, hb, hml, hown, hts⟩ (c_X6_in l dC dI cI cF x2 (0 : Int32) (7 : Int32) v4 g5) (va_cwS 3 hts gX6_can_X6_in rfl rfl rfl (by decide +kernel) ⟨Nat.le_of_ble_eq_true rfl, Nat.le_of_ble_eq_true rfl⟩) (k_prePU) rfl rfl hl.1 rfl (lv_room (Nat.le_of_ble_eq_true rfl)) dX6_can_22 ⟨Nat.zero_le _, Nat.zero_le _⟩) (st1 := [.int v4]) rfl ?_
  refine lv_if_eq (tgt := 37) hx hb dX6_can_25 (by decide) (fun c6 => ?_) (fun c6 => ?_)
  · have h := o_t h c6
    refine lv_aload_n hx hb dX6_can_37 rfl (lv_at hl 0 rfl) ?_
    refine lv_iconst (v := (2 : Int32)) hx hb dX6_can_38 (by decide) ?_
    obtain ⟨v7, g8, h⟩ := o_b h
    refine k_rw (va_runV (As := [.int (2 : Int32)]) (rest := []) ⟨hx, hb, hml, hown, hts⟩ (c_X6_throwing l dC dI cI cF a (s_X6_thrown S (0 : Int32)) (2 : Int32) v7 g8 H.size) (cwV 1 hts gX6_can_X6_throwing rfl rfl rfl (by decide +kernel) ⟨Nat.le_of_ble_eq_true rfl, Nat.le_of_ble_eq_true rfl⟩) (k_preVw (q0 := 0) (ci := 6) hK hP hD [0, 1, 2, 3, 4, 5] rfl rfl rfl rfl rfl) rfl rfl hl.1 rfl (lv_room (Nat.le_of_ble_eq_true rfl)) dX6_can_39 ⟨Nat.zero_le _, Nat.zero_le _⟩) (st1 := [.int v7.1]) rfl hP hD hS hA [0, 1, 2, 3, 4, 5] rfl rfl (wn := wX6 a cI cF v7.2) rfl rfl rfl (fun H locs hP hD hS => ?_)
    have hu := Option.some.inj h
    exact W.iret (v := v7.1) hx hb hr (fun t ht hW => ⟨⟨congrArg (fun z => Outcome.returned (some (Value.int z.1))) hu, by rw [ht, ← hu]; exact hP⟩, hS.F ht⟩) hS.2.2 dX6_can_42
  have h := o_f h c6
  refine lv_aload_n hx hb dX6_can_28 rfl (lv_at hl 0 rfl) ?_
  refine lv_iload_n hx hb dX6_can_29 rfl (lv_at hl 1 rfl) ?_
  refine lv_iload_n hx hb dX6_can_30 rfl (lv_at hl 2 rfl) ?_
  obtain ⟨v9, g10, h⟩ := o_b h
  refine k_ro (va_runV (As := [.int x1, .int x2]) (rest := []) ⟨hx, hb, hml, hown, hts⟩ (c_X6_canNumber l dC dI cI cF a (s_X6_thrown S (0 : Int32)) x1 x2 v9 g10) (cwV 2 hts gX6_can_X6_canNumber rfl rfl rfl (by decide +kernel) ⟨Nat.le_of_ble_eq_true rfl, Nat.le_of_ble_eq_true rfl⟩) (k_preV (q0 := 0) (ci := 6) hK (hP.sub (ws' := wX6 a cI cF (s_X6_thrown S (0 : Int32))) [0, 1, 2, 3, 4, 5] rfl) rfl rfl rfl) rfl rfl hl.1 rfl (lv_room (Nat.le_of_ble_eq_true rfl)) dX6_can_31 ⟨Nat.zero_le _, Nat.zero_le _⟩) (st1 := [.int v9]) rfl ?_
  refine lv_goto (tgt := 42) hx hb dX6_can_34 (by decide) ?_
  have hu := Option.some.inj h
  exact W.iret (v := v9) hx hb hr (fun t ht hW => ⟨⟨congrArg (fun z => Outcome.returned (some (Value.int z.1))) hu, by rw [ht, ← hu]; exact hP⟩, hS.F ht⟩) hS.2.2 dX6_can_42

def m_X6_metre (S : S_X6) (x1 : Int32) (x2 : Int32) : Option (Int32 × S_X6) := (m_X6_isCan x1).bind fun v1 => (if v1 = 0 then ((m_X6_throwing (s_X6_thrown S (0 : Int32)) (1 : Int32)).bind fun v12 => (some (v12.1, v12.2))) else (if 0 ≤ x2 then ((m_X6_metres (s_X6_thrown S (0 : Int32)) x1).bind fun v5 => (if v5 ≤ x2 then (some ((-1 : Int32), s_X6_thrown S (0 : Int32))) else ((m_X6_weight (s_X6_thrown S (0 : Int32)) x1 x2).bind fun v8 => (some (v8, s_X6_thrown S (0 : Int32)))))) else ((m_X6_throwing (s_X6_thrown S (0 : Int32)) (2 : Int32)).bind fun v10 => (some (v10.1, v10.2)))))
set_option maxHeartbeats 4000000 in
set_option maxRecDepth 100000 in
theorem c_X6_metre (l : Launch) (dC : Nat → ClassId) (dI : Nat → Nat → Nat) (cI cF : ClassId) (a : Nat → Nat) (S : S_X6) (x1 : Int32) (x2 : Int32) (u : Int32 × S_X6) (h : m_X6_metre S x1 x2 = some u) : cRW l (dC, dI) cI cF yX6_metre wsX6_metre ({ frames := 2, cells := 0, slots := 0, locals := 42 } : Room) [.ref (a 0), .int x1, .int x2] (wX6 a cI cF S) (wX6 a cI cF u.2) (some (.int u.1)) := by
  intro sz
  refine Met.ofW (cc := cX6_metre) (maxL := 3) (ret := (some .int)) (by decide) rfl ?_
  intro p e s m args below meth c s₁ B hml hv
  obtain ⟨hargs, hsz, hP, hK, hD0⟩ := hv
  subst hargs
  have hx := B.exec
  have hb := B.bytes
  have hr := B.returns
  have hts := atoms_spec (ws := wsX6_metre) B.pre
  have hown : s.vm.findClass RX6 = some m.cls := findClass_of_methodNamed B.named
  have hlocks := B.notSynchronized
  have w25 := hts (.fieldLink RX6 25 "DrawnSliversModel" "thrown" "I") (List.mem_of_getElem? (i := 1) rfl)
  have w36 := hts (.methodLink RX6 36 yX6_metres) (List.mem_of_getElem? (i := 13) rfl)
  have w40 := hts (.methodLink RX6 40 yX6_weight) (List.mem_of_getElem? (i := 18) rfl)
  have w95 := hts (.methodLink RX6 95 yX6_isCan) (List.mem_of_getElem? (i := 2) rfl)
  have w98 := hts (.methodLink RX6 98 yX6_throwing) (List.mem_of_getElem? (i := 9) rfl)
  have huX6 : ∀ w ∈ u_ws RX6 TX6 11, w.before _ s = true := fun w h => hts w (List.mem_cons_of_mem _ (List.mem_append_right _ (h)))
  subst hsz
  have hD := hD0.self (sz := s.heap.size)
  generalize hAe : va_A (wX6 a cI cF S) s.heap.size = A at hD ⊢
  have hA : ∀ q : Nat, s.heap.size ≤ q → A q := fun q h => by rw [← hAe]; exact Or.inr h
  have hS : va_S A s.heap s.heap [] := va_S.rf
  have hl := lv_entry ([.ref (a 0), .int x1, .int x2]) (n := 3) (Nat.le_of_ble_eq_true rfl)
  rw [lg_entry_eq]
  generalize (lg_sl ([.ref (a 0), .int x1, .int x2]) ++ List.replicate (3 - (lg_sl ([.ref (a 0), .int x1, .int x2])).length) Slot.unset).toArray = ls at hl ⊢
  have hl : lv_has ls 3 [(0, .ref (a 0)), (1, .int x1), (2, .int x2)] := hl
  rw [m_X6_metre] at h
  refine lv_aload_n hx hb dX6_metre_0 rfl (lv_at hl 0 rfl) ?_
  refine lv_iconst (v := (0 : Int32)) hx hb dX6_metre_1 (by decide) ?_
  refine va_put (D := (dC, dI)) (ci := 6) (v := .int (0 : Int32)) (ty := .int) (C := RX6) (T := TX6) (N := 11) hx hb huX6 (fun _ h9 => h9) tyX6 tyX6_ok nmX6 hown hK hP hD hS 0 rfl rfl 8 (by decide) w25 (fun _ h9 => h9) rfl (by decide +kernel) rfl rfl (Nat.le_of_ble_eq_true rfl) dX6_metre_2 (fun H locs hP hD hS => ?_)
  have hP : va_P (dC, dI) vwCl (wX6 a cI cF (s_X6_thrown S (0 : Int32))) H := hP
  have hD : va_D A (wX6 a cI cF (s_X6_thrown S (0 : Int32))) := hD
  refine lv_iload_n hx hb dX6_metre_5 rfl (lv_at hl 1 rfl) ?_
  obtain ⟨v1, g2, h⟩ := o_b h
  refine k_ro (va_runS (As := [.int x1]) (rest := []) ⟨hx, hb, hml, hown, hts⟩ (c_X6_isCan l dC dI cI cF x1 v1 g2) (va_cwS 1 hts gX6_metre_X6_isCan rfl rfl rfl (by decide +kernel) ⟨Nat.le_of_ble_eq_true rfl, Nat.le_of_ble_eq_true rfl⟩) (k_prePU) rfl rfl hl.1 rfl (lv_room (Nat.le_of_ble_eq_true rfl)) dX6_metre_6 ⟨Nat.zero_le _, Nat.zero_le _⟩) (st1 := [.int v1]) rfl ?_
  refine lv_if_ne (tgt := 18) hx hb dX6_metre_9 (by decide) (fun c3 => ?_) (fun c3 => ?_)
  rotate_left
  · have h := o_t h c3
    refine lv_aload_n hx hb dX6_metre_12 rfl (lv_at hl 0 rfl) ?_
    refine lv_iconst (v := (1 : Int32)) hx hb dX6_metre_13 (by decide) ?_
    obtain ⟨v12, g13, h⟩ := o_b h
    refine k_rw (va_runV (As := [.int (1 : Int32)]) (rest := []) ⟨hx, hb, hml, hown, hts⟩ (c_X6_throwing l dC dI cI cF a (s_X6_thrown S (0 : Int32)) (1 : Int32) v12 g13 H.size) (cwV 1 hts gX6_metre_X6_throwing rfl rfl rfl (by decide +kernel) ⟨Nat.le_of_ble_eq_true rfl, Nat.le_of_ble_eq_true rfl⟩) (k_preVw (q0 := 0) (ci := 6) hK hP hD [0, 1, 2, 3, 4, 5] rfl rfl rfl rfl rfl) rfl rfl hl.1 rfl (lv_room (Nat.le_of_ble_eq_true rfl)) dX6_metre_14 ⟨Nat.zero_le _, Nat.zero_le _⟩) (st1 := [.int v12.1]) rfl hP hD hS hA [0, 1, 2, 3, 4, 5] rfl rfl (wn := wX6 a cI cF v12.2) rfl rfl rfl (fun H locs hP hD hS => ?_)
    have hu := Option.some.inj h
    exact W.iret (v := v12.1) hx hb hr (fun t ht hW => ⟨⟨congrArg (fun z => Outcome.returned (some (Value.int z.1))) hu, by rw [ht, ← hu]; exact hP⟩, hS.F ht⟩) hS.2.2 dX6_metre_17
  have h := o_f h c3
  refine lv_iload_n hx hb dX6_metre_18 rfl (lv_at hl 2 rfl) ?_
  refine lv_if_ge (tgt := 28) hx hb dX6_metre_19 (by decide) (fun c4 => ?_) (fun c4 => ?_)
  rotate_left
  · have h := o_f h c4
    refine lv_aload_n hx hb dX6_metre_22 rfl (lv_at hl 0 rfl) ?_
    refine lv_iconst (v := (2 : Int32)) hx hb dX6_metre_23 (by decide) ?_
    obtain ⟨v10, g11, h⟩ := o_b h
    refine k_rw (va_runV (As := [.int (2 : Int32)]) (rest := []) ⟨hx, hb, hml, hown, hts⟩ (c_X6_throwing l dC dI cI cF a (s_X6_thrown S (0 : Int32)) (2 : Int32) v10 g11 H.size) (cwV 1 hts gX6_metre_X6_throwing rfl rfl rfl (by decide +kernel) ⟨Nat.le_of_ble_eq_true rfl, Nat.le_of_ble_eq_true rfl⟩) (k_preVw (q0 := 0) (ci := 6) hK hP hD [0, 1, 2, 3, 4, 5] rfl rfl rfl rfl rfl) rfl rfl hl.1 rfl (lv_room (Nat.le_of_ble_eq_true rfl)) dX6_metre_24 ⟨Nat.zero_le _, Nat.zero_le _⟩) (st1 := [.int v10.1]) rfl hP hD hS hA [0, 1, 2, 3, 4, 5] rfl rfl (wn := wX6 a cI cF v10.2) rfl rfl rfl (fun H locs hP hD hS => ?_)
    have hu := Option.some.inj h
    exact W.iret (v := v10.1) hx hb hr (fun t ht hW => ⟨⟨congrArg (fun z => Outcome.returned (some (Value.int z.1))) hu, by rw [ht, ← hu]; exact hP⟩, hS.F ht⟩) hS.2.2 dX6_metre_27
  have h := o_t h c4
  refine lv_iload_n hx hb dX6_metre_28 rfl (lv_at hl 2 rfl) ?_
  refine lv_aload_n hx hb dX6_metre_29 rfl (lv_at hl 0 rfl) ?_
  refine lv_iload_n hx hb dX6_metre_30 rfl (lv_at hl 1 rfl) ?_
  obtain ⟨v5, g6, h⟩ := o_b h
  refine k_ro (va_runV (As := [.int x1]) (rest := [.int x2]) ⟨hx, hb, hml, hown, hts⟩ (c_X6_metres l dC dI cI cF a (s_X6_thrown S (0 : Int32)) x1 v5 g6) (cwV 1 hts gX6_metre_X6_metres rfl rfl rfl (by decide +kernel) ⟨Nat.le_of_ble_eq_true rfl, Nat.le_of_ble_eq_true rfl⟩) (k_preV (q0 := 0) (ci := 6) hK (hP.sub (ws' := wX6 a cI cF (s_X6_thrown S (0 : Int32))) [0, 1, 2, 3, 4, 5] rfl) rfl rfl rfl) rfl rfl hl.1 rfl (lv_room (Nat.le_of_ble_eq_true rfl)) dX6_metre_31 ⟨Nat.zero_le _, Nat.zero_le _⟩) (st1 := [.int v5, .int x2]) rfl ?_
  refine lv_icmp_ge (tgt := 46) hx hb dX6_metre_34 (by decide) (fun c7 => ?_) (fun c7 => ?_)
  · have h := o_t h c7
    refine lv_iconst (v := (-1 : Int32)) hx hb dX6_metre_46 (by decide) ?_
    have hu := Option.some.inj h
    exact W.iret (v := (-1 : Int32)) hx hb hr (fun t ht hW => ⟨⟨congrArg (fun z => Outcome.returned (some (Value.int z.1))) hu, by rw [ht, ← hu]; exact hP⟩, hS.F ht⟩) hS.2.2 dX6_metre_47
  have h := o_f h c7
  refine lv_aload_n hx hb dX6_metre_37 rfl (lv_at hl 0 rfl) ?_
  refine lv_iload_n hx hb dX6_metre_38 rfl (lv_at hl 1 rfl) ?_
  refine lv_iload_n hx hb dX6_metre_39 rfl (lv_at hl 2 rfl) ?_
  obtain ⟨v8, g9, h⟩ := o_b h
  refine k_ro (va_runV (As := [.int x1, .int x2]) (rest := []) ⟨hx, hb, hml, hown, hts⟩ (c_X6_weight l dC dI cI cF a (s_X6_thrown S (0 : Int32)) x1 x2 v8 g9) (cwV 2 hts gX6_metre_X6_weight rfl rfl rfl (by decide +kernel) ⟨Nat.le_of_ble_eq_true rfl, Nat.le_of_ble_eq_true rfl⟩) (k_preV (q0 := 0) (ci := 6) hK (hP.sub (ws' := wX6 a cI cF (s_X6_thrown S (0 : Int32))) [0, 1, 2, 3, 4, 5] rfl) rfl rfl rfl) rfl rfl hl.1 rfl (lv_room (Nat.le_of_ble_eq_true rfl)) dX6_metre_40 ⟨Nat.zero_le _, Nat.zero_le _⟩) (st1 := [.int v8]) rfl ?_
  refine lv_goto (tgt := 47) hx hb dX6_metre_43 (by decide) ?_
  have hu := Option.some.inj h
  exact W.iret (v := v8) hx hb hr (fun t ht hW => ⟨⟨congrArg (fun z => Outcome.returned (some (Value.int z.1))) hu, by rw [ht, ← hu]; exact hP⟩, hS.F ht⟩) hS.2.2 dX6_metre_47

def m_X6_remembered (S : S_X6) (x1 : Int32) : Option (Int32) := if ((g_X6_s S) (332 : Int32).toNatClampNeg) ≤ x1 then (some (-1 : Int32)) else (if ((333 : Int32) + x1) < 0 ∨ 350 ≤ ((333 : Int32) + x1).toNatClampNeg then none else (some ((g_X6_s S) ((333 : Int32) + x1).toNatClampNeg)))
set_option maxHeartbeats 4000000 in
set_option maxRecDepth 100000 in
theorem c_X6_remembered (l : Launch) (dC : Nat → ClassId) (dI : Nat → Nat → Nat) (cI cF : ClassId) (a : Nat → Nat) (S : S_X6) (x1 : Int32) (u : Int32) (h : m_X6_remembered S x1 = some u) : cRO l (dC, dI) cI cF yX6_remembered wsX6_remembered ({ frames := 0, cells := 0, slots := 0, locals := 0 } : Room) [.ref (a 0), .int x1] (wX6 a cI cF S) (some (.int u)) := by
  refine Met.ofW (cc := cX6_remembered) (maxL := 2) (ret := (some .int)) (by decide) rfl ?_
  intro p e s m args below meth c s₁ B hml hv
  obtain ⟨hargs, hP, hK⟩ := hv
  subst hargs
  have hx := B.exec
  have hb := B.bytes
  have hr := B.returns
  have hts := atoms_spec (ws := wsX6_remembered) B.pre
  have hown : s.vm.findClass RX6 = some m.cls := findClass_of_methodNamed B.named
  have hlocks := B.notSynchronized
  have w7 := hts (.fieldLink RX6 7 "DrawnSliversModel" "s" "[I") (List.mem_of_getElem? (i := 1) rfl)
  have huX6 : ∀ w ∈ u_ws RX6 TX6 11, w.before _ s = true := fun w h => hts w (List.mem_cons_of_mem _ (List.mem_append_right _ (h)))
  have hl := lv_entry ([.ref (a 0), .int x1]) (n := 2) (Nat.le_of_ble_eq_true rfl)
  rw [lg_entry_eq]
  generalize (lg_sl ([.ref (a 0), .int x1]) ++ List.replicate (2 - (lg_sl ([.ref (a 0), .int x1])).length) Slot.unset).toArray = ls at hl ⊢
  have hl : lv_has ls 2 [(0, .ref (a 0)), (1, .int x1)] := hl
  rw [m_X6_remembered] at h
  refine lv_iload_n hx hb dX6_remembered_0 rfl (lv_at hl 1 rfl) ?_
  refine lv_aload_n hx hb dX6_remembered_1 rfl (lv_at hl 0 rfl) ?_
  refine va_get (D := (dC, dI)) (ci := 6) (v := .ref (a 1)) (C := RX6) (T := TX6) (N := 11) hx hb huX6 (fun _ h9 => h9) hown hK hP 0 rfl rfl 0 (by decide) w7 (fun _ h9 => h9) rfl dX6_remembered_2 ?_
  refine lv_sipush (v := (332 : Int32)) hx hb dX6_remembered_5 (by decide) ?_
  refine va_iald hx hb hK hP 1 0 rfl rfl (by unfold vp_in; decide) dX6_remembered_8 ?_
  refine lv_icmp_ge (tgt := 25) hx hb dX6_remembered_9 (by decide) (fun c1 => ?_) (fun c1 => ?_)
  · have h := o_t h c1
    refine lv_iconst (v := (-1 : Int32)) hx hb dX6_remembered_25 (by decide) ?_
    have hu := Option.some.inj h
    exact W.iret (v := (-1 : Int32)) hx hb hr (fun t ht hW => ⟨congrArg (fun z => Outcome.returned (some (Value.int z))) hu, ht⟩) (fun q hq => absurd hq List.not_mem_nil) dX6_remembered_26
  have h := o_f h c1
  refine lv_aload_n hx hb dX6_remembered_12 rfl (lv_at hl 0 rfl) ?_
  refine va_get (D := (dC, dI)) (ci := 6) (v := .ref (a 1)) (C := RX6) (T := TX6) (N := 11) hx hb huX6 (fun _ h9 => h9) hown hK hP 0 rfl rfl 0 (by decide) w7 (fun _ h9 => h9) rfl dX6_remembered_13 ?_
  refine lv_sipush (v := (333 : Int32)) hx hb dX6_remembered_16 (by decide) ?_
  refine lv_iload_n hx hb dX6_remembered_19 rfl (lv_at hl 1 rfl) ?_
  refine lv_iadd hx hb dX6_remembered_20 ?_
  obtain ⟨i2, h⟩ := o_in h
  refine va_iald hx hb hK hP 1 0 rfl rfl i2 dX6_remembered_21 ?_
  refine lv_goto (tgt := 26) hx hb dX6_remembered_22 (by decide) ?_
  have hu := Option.some.inj h
  exact W.iret (v := (g_X6_s S) ((333 : Int32) + x1).toNatClampNeg) hx hb hr (fun t ht hW => ⟨congrArg (fun z => Outcome.returned (some (Value.int z))) hu, ht⟩) (fun q hq => absurd hq List.not_mem_nil) dX6_remembered_26

def m_X6_feeler (S : S_X6) (x1 : Int32) : Option (Int32 × S_X6) := (m_X6_in x1 (0 : Int32) (6 : Int32)).bind fun v1 => (if v1 = 0 then ((m_X6_throwing (s_X6_thrown S (0 : Int32)) (1 : Int32)).bind fun v4 => (some (v4.1, v4.2))) else ((m_X6_remembered (s_X6_thrown S (0 : Int32)) x1).bind fun v6 => (some (v6, s_X6_thrown S (0 : Int32)))))
set_option maxHeartbeats 4000000 in
set_option maxRecDepth 100000 in
theorem c_X6_feeler (l : Launch) (dC : Nat → ClassId) (dI : Nat → Nat → Nat) (cI cF : ClassId) (a : Nat → Nat) (S : S_X6) (x1 : Int32) (u : Int32 × S_X6) (h : m_X6_feeler S x1 = some u) : cRW l (dC, dI) cI cF yX6_feeler wsX6_feeler ({ frames := 1, cells := 0, slots := 0, locals := 22 } : Room) [.ref (a 0), .int x1] (wX6 a cI cF S) (wX6 a cI cF u.2) (some (.int u.1)) := by
  intro sz
  refine Met.ofW (cc := cX6_feeler) (maxL := 2) (ret := (some .int)) (by decide) rfl ?_
  intro p e s m args below meth c s₁ B hml hv
  obtain ⟨hargs, hsz, hP, hK, hD0⟩ := hv
  subst hargs
  have hx := B.exec
  have hb := B.bytes
  have hr := B.returns
  have hts := atoms_spec (ws := wsX6_feeler) B.pre
  have hown : s.vm.findClass RX6 = some m.cls := findClass_of_methodNamed B.named
  have hlocks := B.notSynchronized
  have w131 := hts (.methodLink RX6 131 yX6_remembered) (List.mem_of_getElem? (i := 6) rfl)
  have w25 := hts (.fieldLink RX6 25 "DrawnSliversModel" "thrown" "I") (List.mem_of_getElem? (i := 1) rfl)
  have w32 := hts (.methodLink RX6 32 yX6_in) (List.mem_of_getElem? (i := 2) rfl)
  have w98 := hts (.methodLink RX6 98 yX6_throwing) (List.mem_of_getElem? (i := 11) rfl)
  have huX6 : ∀ w ∈ u_ws RX6 TX6 11, w.before _ s = true := fun w h => hts w (List.mem_cons_of_mem _ (List.mem_append_right _ (h)))
  subst hsz
  have hD := hD0.self (sz := s.heap.size)
  generalize hAe : va_A (wX6 a cI cF S) s.heap.size = A at hD ⊢
  have hA : ∀ q : Nat, s.heap.size ≤ q → A q := fun q h => by rw [← hAe]; exact Or.inr h
  have hS : va_S A s.heap s.heap [] := va_S.rf
  have hl := lv_entry ([.ref (a 0), .int x1]) (n := 2) (Nat.le_of_ble_eq_true rfl)
  rw [lg_entry_eq]
  generalize (lg_sl ([.ref (a 0), .int x1]) ++ List.replicate (2 - (lg_sl ([.ref (a 0), .int x1])).length) Slot.unset).toArray = ls at hl ⊢
  have hl : lv_has ls 2 [(0, .ref (a 0)), (1, .int x1)] := hl
  rw [m_X6_feeler] at h
  refine lv_aload_n hx hb dX6_feeler_0 rfl (lv_at hl 0 rfl) ?_
  refine lv_iconst (v := (0 : Int32)) hx hb dX6_feeler_1 (by decide) ?_
  refine va_put (D := (dC, dI)) (ci := 6) (v := .int (0 : Int32)) (ty := .int) (C := RX6) (T := TX6) (N := 11) hx hb huX6 (fun _ h9 => h9) tyX6 tyX6_ok nmX6 hown hK hP hD hS 0 rfl rfl 8 (by decide) w25 (fun _ h9 => h9) rfl (by decide +kernel) rfl rfl (Nat.le_of_ble_eq_true rfl) dX6_feeler_2 (fun H locs hP hD hS => ?_)
  have hP : va_P (dC, dI) vwCl (wX6 a cI cF (s_X6_thrown S (0 : Int32))) H := hP
  have hD : va_D A (wX6 a cI cF (s_X6_thrown S (0 : Int32))) := hD
  refine lv_iload_n hx hb dX6_feeler_5 rfl (lv_at hl 1 rfl) ?_
  refine lv_iconst (v := (0 : Int32)) hx hb dX6_feeler_6 (by decide) ?_
  refine lv_bipush (v := (6 : Int32)) hx hb dX6_feeler_7 (by decide) ?_
  obtain ⟨v1, g2, h⟩ := o_b h
  refine k_ro (va_runS (As := [.int x1, .int (0 : Int32), .int (6 : Int32)]) (rest := []) ⟨hx, hb, hml, hown, hts⟩ (c_X6_in l dC dI cI cF x1 (0 : Int32) (6 : Int32) v1 g2) (va_cwS 3 hts gX6_feeler_X6_in rfl rfl rfl (by decide +kernel) ⟨Nat.le_of_ble_eq_true rfl, Nat.le_of_ble_eq_true rfl⟩) (k_prePU) rfl rfl hl.1 rfl (lv_room (Nat.le_of_ble_eq_true rfl)) dX6_feeler_9 ⟨Nat.zero_le _, Nat.zero_le _⟩) (st1 := [.int v1]) rfl ?_
  refine lv_if_eq (tgt := 23) hx hb dX6_feeler_12 (by decide) (fun c3 => ?_) (fun c3 => ?_)
  · have h := o_t h c3
    refine lv_aload_n hx hb dX6_feeler_23 rfl (lv_at hl 0 rfl) ?_
    refine lv_iconst (v := (1 : Int32)) hx hb dX6_feeler_24 (by decide) ?_
    obtain ⟨v4, g5, h⟩ := o_b h
    refine k_rw (va_runV (As := [.int (1 : Int32)]) (rest := []) ⟨hx, hb, hml, hown, hts⟩ (c_X6_throwing l dC dI cI cF a (s_X6_thrown S (0 : Int32)) (1 : Int32) v4 g5 H.size) (cwV 1 hts gX6_feeler_X6_throwing rfl rfl rfl (by decide +kernel) ⟨Nat.le_of_ble_eq_true rfl, Nat.le_of_ble_eq_true rfl⟩) (k_preVw (q0 := 0) (ci := 6) hK hP hD [0, 1, 2, 3, 4, 5] rfl rfl rfl rfl rfl) rfl rfl hl.1 rfl (lv_room (Nat.le_of_ble_eq_true rfl)) dX6_feeler_25 ⟨Nat.zero_le _, Nat.zero_le _⟩) (st1 := [.int v4.1]) rfl hP hD hS hA [0, 1, 2, 3, 4, 5] rfl rfl (wn := wX6 a cI cF v4.2) rfl rfl rfl (fun H locs hP hD hS => ?_)
    have hu := Option.some.inj h
    exact W.iret (v := v4.1) hx hb hr (fun t ht hW => ⟨⟨congrArg (fun z => Outcome.returned (some (Value.int z.1))) hu, by rw [ht, ← hu]; exact hP⟩, hS.F ht⟩) hS.2.2 dX6_feeler_28
  have h := o_f h c3
  refine lv_aload_n hx hb dX6_feeler_15 rfl (lv_at hl 0 rfl) ?_
  refine lv_iload_n hx hb dX6_feeler_16 rfl (lv_at hl 1 rfl) ?_
  obtain ⟨v6, g7, h⟩ := o_b h
  refine k_ro (va_runV (As := [.int x1]) (rest := []) ⟨hx, hb, hml, hown, hts⟩ (c_X6_remembered l dC dI cI cF a (s_X6_thrown S (0 : Int32)) x1 v6 g7) (cwV 1 hts gX6_feeler_X6_remembered rfl rfl rfl (by decide +kernel) ⟨Nat.le_of_ble_eq_true rfl, Nat.le_of_ble_eq_true rfl⟩) (k_preV (q0 := 0) (ci := 6) hK (hP.sub (ws' := wX6 a cI cF (s_X6_thrown S (0 : Int32))) [0, 1, 2, 3, 4, 5] rfl) rfl rfl rfl) rfl rfl hl.1 rfl (lv_room (Nat.le_of_ble_eq_true rfl)) dX6_feeler_17 ⟨Nat.zero_le _, Nat.zero_le _⟩) (st1 := [.int v6]) rfl ?_
  refine lv_goto (tgt := 28) hx hb dX6_feeler_20 (by decide) ?_
  have hu := Option.some.inj h
  exact W.iret (v := v6) hx hb hr (fun t ht hW => ⟨⟨congrArg (fun z => Outcome.returned (some (Value.int z.1))) hu, by rw [ht, ← hu]; exact hP⟩, hS.F ht⟩) hS.2.2 dX6_feeler_28

def m_X6_all_L4 (S : S_X6) : Nat → Int32 → Int32 → Option (Int32)
  | 0, _, _ => none
  | n + 1, y1, y2 => if (8 : Int32) ≤ y2 then (some y1) else ((m_X6_sum S y2).bind fun v2 => (nmL (y1 + v2) fun x1_4 => (nmL (y2 + 1) fun x2_6 => ((m_X6_all_L4 S n) x1_4 x2_6))))
def m_X6_all (S : S_X6) : Option (Int32) := m_X6_all_L4 S 4000 (0 : Int32) (0 : Int32)
set_option maxHeartbeats 4000000 in
set_option maxRecDepth 100000 in
theorem c_X6_all (l : Launch) (dC : Nat → ClassId) (dI : Nat → Nat → Nat) (cI cF : ClassId) (a : Nat → Nat) (S : S_X6) (u : Int32) (h : m_X6_all S = some u) : cRO l (dC, dI) cI cF yX6_all wsX6_all ({ frames := 2, cells := 0, slots := 0, locals := 45 } : Room) [.ref (a 0)] (wX6 a cI cF S) (some (.int u)) := by
  refine Met.ofW (cc := cX6_all) (maxL := 3) (ret := (some .int)) (by decide) rfl ?_
  intro p e s m args below meth c s₁ B hml hv
  obtain ⟨hargs, hP, hK⟩ := hv
  subst hargs
  have hx := B.exec
  have hb := B.bytes
  have hr := B.returns
  have hts := atoms_spec (ws := wsX6_all) B.pre
  have hown : s.vm.findClass RX6 = some m.cls := findClass_of_methodNamed B.named
  have hlocks := B.notSynchronized
  have w107 := hts (.methodLink RX6 107 yX6_sum) (List.mem_of_getElem? (i := 1) rfl)
  have L4 : ∀ (n : Nat), ∀ (y1 : Int32) (y2 : Int32), m_X6_all_L4 S n y1 y2 = some u → ∀ (ls : Array Slot), lv_has ls 3 [(0, .ref (a 0)), (1, .int y1), (2, .int y2)] → W p l e (headSpec wsX6_all ({ frames := 2, cells := 0, slots := 0, locals := 45 } : Room)).room s m ([.ref (a 0)] : List Value).toArray below meth c s.heap [] 0 0 (MQ below (qRO (some (.int u))) ([.ref (a 0)] : List Value).toArray s 0 0 (fun _ => False)) (F0 m 4 ls []) := by
    intro  n
    induction n with
    | zero =>
      intro y1 y2 h
      exact (o_0 h).elim
    | succ n ih4 =>
      intro y1 y2 h ls hl
      rw [m_X6_all_L4] at h
      refine lv_iload_n hx hb dX6_all_4 rfl (lv_at hl 2 rfl) ?_
      refine lv_bipush (v := (8 : Int32)) hx hb dX6_all_5 (by decide) ?_
      refine lv_icmp_ge (tgt := 24) hx hb dX6_all_7 (by decide) (fun c1 => ?_) (fun c1 => ?_)
      · have h := o_t h c1
        refine lv_iload_n hx hb dX6_all_24 rfl (lv_at hl 1 rfl) ?_
        have hu := Option.some.inj h
        exact W.iret (v := y1) hx hb hr (fun t ht hW => ⟨congrArg (fun z => Outcome.returned (some (Value.int z))) hu, ht⟩) (fun q hq => absurd hq List.not_mem_nil) dX6_all_25
      have h := o_f h c1
      refine lv_iload_n hx hb dX6_all_10 rfl (lv_at hl 1 rfl) ?_
      refine lv_aload_n hx hb dX6_all_11 rfl (lv_at hl 0 rfl) ?_
      refine lv_iload_n hx hb dX6_all_12 rfl (lv_at hl 2 rfl) ?_
      obtain ⟨v2, g3, h⟩ := o_b h
      refine k_ro (va_runV (As := [.int y2]) (rest := [.int y1]) ⟨hx, hb, hml, hown, hts⟩ (c_X6_sum l dC dI cI cF a S y2 v2 g3) (cwV 1 hts gX6_all_X6_sum rfl rfl rfl (by decide +kernel) ⟨Nat.le_of_ble_eq_true rfl, Nat.le_of_ble_eq_true rfl⟩) (k_preV (q0 := 0) (ci := 6) hK (hP.sub (ws' := wX6 a cI cF S) [0, 1, 2, 3, 4, 5] rfl) rfl rfl rfl) rfl rfl hl.1 rfl (lv_room (Nat.le_of_ble_eq_true rfl)) dX6_all_13 ⟨Nat.zero_le _, Nat.zero_le _⟩) (st1 := [.int v2, .int y1]) rfl ?_
      refine lv_iadd hx hb dX6_all_16 ?_
      obtain ⟨x1_4, e5, h⟩ := o_n h
      refine lv_nmi e5 ?_
      refine lv_istore_n (lv' := [(1, .int x1_4), (0, .ref (a 0)), (2, .int y2)]) hx hb dX6_all_17 rfl hl (by decide) rfl (fun ls hl => ?_)
      obtain ⟨x2_6, e7, h⟩ := o_n h
      refine lv_iinc (v := x2_6) (lv' := [(2, .int x2_6), (1, .int x1_4), (0, .ref (a 0))]) hx hb dX6_all_18 hl (k := 2) rfl (by rw [e7]; rfl) (by decide) rfl (fun ls hl => ?_)
      refine lv_goto (tgt := 4) hx hb dX6_all_21 (by decide) ?_
      exact ih4 _ _ h _ (lv_sub hl [2, 1, 0] rfl)
  have hl := lv_entry ([.ref (a 0)]) (n := 3) (Nat.le_of_ble_eq_true rfl)
  rw [lg_entry_eq]
  generalize (lg_sl ([.ref (a 0)]) ++ List.replicate (3 - (lg_sl ([.ref (a 0)])).length) Slot.unset).toArray = ls at hl ⊢
  have hl : lv_has ls 3 [(0, .ref (a 0))] := hl
  rw [m_X6_all] at h
  refine lv_iconst (v := (0 : Int32)) hx hb dX6_all_0 (by decide) ?_
  refine lv_istore_n (lv' := [(1, .int (0 : Int32)), (0, .ref (a 0))]) hx hb dX6_all_1 rfl hl (by decide) rfl (fun ls hl => ?_)
  refine lv_iconst (v := (0 : Int32)) hx hb dX6_all_2 (by decide) ?_
  refine lv_istore_n (lv' := [(2, .int (0 : Int32)), (1, .int (0 : Int32)), (0, .ref (a 0))]) hx hb dX6_all_3 rfl hl (by decide) rfl (fun ls hl => ?_)
  exact L4 _ _ _ h _ (lv_sub hl [2, 1, 0] rfl)

def m_X6_counted (S : S_X6) (x1 : Int32) : Option (Int32) := if x1 = 0 then (some ((g_X6_s S) (345 : Int32).toNatClampNeg)) else if x1 = 1 then (if (((328 : Int32) + x1) - (1 : Int32)) < 0 ∨ 350 ≤ (((328 : Int32) + x1) - (1 : Int32)).toNatClampNeg then none else (some ((g_X6_s S) (((328 : Int32) + x1) - (1 : Int32)).toNatClampNeg))) else if x1 = 2 then (if (((328 : Int32) + x1) - (1 : Int32)) < 0 ∨ 350 ≤ (((328 : Int32) + x1) - (1 : Int32)).toNatClampNeg then none else (some ((g_X6_s S) (((328 : Int32) + x1) - (1 : Int32)).toNatClampNeg))) else if x1 = 3 then (if (((328 : Int32) + x1) - (1 : Int32)) < 0 ∨ 350 ≤ (((328 : Int32) + x1) - (1 : Int32)).toNatClampNeg then none else (some ((g_X6_s S) (((328 : Int32) + x1) - (1 : Int32)).toNatClampNeg))) else if x1 = 4 then (if (((328 : Int32) + x1) - (1 : Int32)) < 0 ∨ 350 ≤ (((328 : Int32) + x1) - (1 : Int32)).toNatClampNeg then none else (some ((g_X6_s S) (((328 : Int32) + x1) - (1 : Int32)).toNatClampNeg))) else if x1 = 5 then (if (((346 : Int32) + x1) - (5 : Int32)) < 0 ∨ 350 ≤ (((346 : Int32) + x1) - (5 : Int32)).toNatClampNeg then none else (some ((g_X6_s S) (((346 : Int32) + x1) - (5 : Int32)).toNatClampNeg))) else if x1 = 6 then (if (((346 : Int32) + x1) - (5 : Int32)) < 0 ∨ 350 ≤ (((346 : Int32) + x1) - (5 : Int32)).toNatClampNeg then none else (some ((g_X6_s S) (((346 : Int32) + x1) - (5 : Int32)).toNatClampNeg))) else if x1 = 7 then (if (((346 : Int32) + x1) - (5 : Int32)) < 0 ∨ 350 ≤ (((346 : Int32) + x1) - (5 : Int32)).toNatClampNeg then none else (some ((g_X6_s S) (((346 : Int32) + x1) - (5 : Int32)).toNatClampNeg))) else if x1 = 8 then ((m_X6_all S).bind fun v17 => (some v17)) else if x1 = 9 then (some (((g_X6_s S) (348 : Int32).toNatClampNeg) - ((g_X6_s S) (347 : Int32).toNatClampNeg))) else if x1 = 10 then (some ((g_X6_s S) (349 : Int32).toNatClampNeg)) else (some (g_X6_known S))
set_option maxHeartbeats 4000000 in
set_option maxRecDepth 100000 in
theorem c_X6_counted (l : Launch) (dC : Nat → ClassId) (dI : Nat → Nat → Nat) (cI cF : ClassId) (a : Nat → Nat) (S : S_X6) (x1 : Int32) (u : Int32) (h : m_X6_counted S x1 = some u) : cRO l (dC, dI) cI cF yX6_counted wsX6_counted ({ frames := 3, cells := 0, slots := 0, locals := 67 } : Room) [.ref (a 0), .int x1] (wX6 a cI cF S) (some (.int u)) := by
  refine Met.ofW (cc := cX6_counted) (maxL := 2) (ret := (some .int)) (by decide) rfl ?_
  intro p e s m args below meth c s₁ B hml hv
  obtain ⟨hargs, hP, hK⟩ := hv
  subst hargs
  have hx := B.exec
  have hb := B.bytes
  have hr := B.returns
  have hts := atoms_spec (ws := wsX6_counted) B.pre
  have hown : s.vm.findClass RX6 = some m.cls := findClass_of_methodNamed B.named
  have hlocks := B.notSynchronized
  have w134 := hts (.methodLink RX6 134 yX6_all) (List.mem_of_getElem? (i := 3) rfl)
  have w29 := hts (.fieldLink RX6 29 "DrawnSliversModel" "known" "I") (List.mem_of_getElem? (i := 2) rfl)
  have w7 := hts (.fieldLink RX6 7 "DrawnSliversModel" "s" "[I") (List.mem_of_getElem? (i := 1) rfl)
  have huX6 : ∀ w ∈ u_ws RX6 TX6 11, w.before _ s = true := fun w h => hts w (List.mem_cons_of_mem _ (List.mem_append_right _ (h)))
  have hl := lv_entry ([.ref (a 0), .int x1]) (n := 2) (Nat.le_of_ble_eq_true rfl)
  rw [lg_entry_eq]
  generalize (lg_sl ([.ref (a 0), .int x1]) ++ List.replicate (2 - (lg_sl ([.ref (a 0), .int x1])).length) Slot.unset).toArray = ls at hl ⊢
  have hl : lv_has ls 2 [(0, .ref (a 0)), (1, .int x1)] := hl
  rw [m_X6_counted] at h
  refine lv_iload_n hx hb dX6_counted_0 rfl (lv_at hl 1 rfl) ?_
  by_cases c_0 : x1 = 0
  · have h := o_t h c_0
    refine k_swIn (v := 0) (off := 59) (tgt := 60) hx hb c_0 dX6_counted_1 (by decide) (by decide) (by decide +kernel) (by decide) ?_
    refine lv_aload_n hx hb dX6_counted_60 rfl (lv_at hl 0 rfl) ?_
    refine va_get (D := (dC, dI)) (ci := 6) (v := .ref (a 1)) (C := RX6) (T := TX6) (N := 11) hx hb huX6 (fun _ h9 => h9) hown hK hP 0 rfl rfl 0 (by decide) w7 (fun _ h9 => h9) rfl dX6_counted_61 ?_
    refine lv_sipush (v := (345 : Int32)) hx hb dX6_counted_64 (by decide) ?_
    refine va_iald hx hb hK hP 1 0 rfl rfl (by unfold vp_in; decide) dX6_counted_67 ?_
    have hu := Option.some.inj h
    exact W.iret (v := (g_X6_s S) (345 : Int32).toNatClampNeg) hx hb hr (fun t ht hW => ⟨congrArg (fun z => Outcome.returned (some (Value.int z))) hu, ht⟩) (fun q hq => absurd hq List.not_mem_nil) dX6_counted_68
  have h := o_f h c_0
  by_cases c_1 : x1 = 1
  · have h := o_t h c_1
    refine k_swIn (v := 1) (off := 68) (tgt := 69) hx hb c_1 dX6_counted_1 (by decide) (by decide) (by decide +kernel) (by decide) ?_
    refine lv_aload_n hx hb dX6_counted_69 rfl (lv_at hl 0 rfl) ?_
    refine va_get (D := (dC, dI)) (ci := 6) (v := .ref (a 1)) (C := RX6) (T := TX6) (N := 11) hx hb huX6 (fun _ h9 => h9) hown hK hP 0 rfl rfl 0 (by decide) w7 (fun _ h9 => h9) rfl dX6_counted_70 ?_
    refine lv_sipush (v := (328 : Int32)) hx hb dX6_counted_73 (by decide) ?_
    refine lv_iload_n hx hb dX6_counted_76 rfl (lv_at hl 1 rfl) ?_
    refine lv_iadd hx hb dX6_counted_77 ?_
    refine lv_iconst (v := (1 : Int32)) hx hb dX6_counted_78 (by decide) ?_
    refine lv_isub hx hb dX6_counted_79 ?_
    obtain ⟨i3, h⟩ := o_in h
    refine va_iald hx hb hK hP 1 0 rfl rfl i3 dX6_counted_80 ?_
    have hu := Option.some.inj h
    exact W.iret (v := (g_X6_s S) (((328 : Int32) + x1) - (1 : Int32)).toNatClampNeg) hx hb hr (fun t ht hW => ⟨congrArg (fun z => Outcome.returned (some (Value.int z))) hu, ht⟩) (fun q hq => absurd hq List.not_mem_nil) dX6_counted_81
  have h := o_f h c_1
  by_cases c_2 : x1 = 2
  · have h := o_t h c_2
    refine k_swIn (v := 2) (off := 68) (tgt := 69) hx hb c_2 dX6_counted_1 (by decide) (by decide) (by decide +kernel) (by decide) ?_
    refine lv_aload_n hx hb dX6_counted_69 rfl (lv_at hl 0 rfl) ?_
    refine va_get (D := (dC, dI)) (ci := 6) (v := .ref (a 1)) (C := RX6) (T := TX6) (N := 11) hx hb huX6 (fun _ h9 => h9) hown hK hP 0 rfl rfl 0 (by decide) w7 (fun _ h9 => h9) rfl dX6_counted_70 ?_
    refine lv_sipush (v := (328 : Int32)) hx hb dX6_counted_73 (by decide) ?_
    refine lv_iload_n hx hb dX6_counted_76 rfl (lv_at hl 1 rfl) ?_
    refine lv_iadd hx hb dX6_counted_77 ?_
    refine lv_iconst (v := (1 : Int32)) hx hb dX6_counted_78 (by decide) ?_
    refine lv_isub hx hb dX6_counted_79 ?_
    obtain ⟨i5, h⟩ := o_in h
    refine va_iald hx hb hK hP 1 0 rfl rfl i5 dX6_counted_80 ?_
    have hu := Option.some.inj h
    exact W.iret (v := (g_X6_s S) (((328 : Int32) + x1) - (1 : Int32)).toNatClampNeg) hx hb hr (fun t ht hW => ⟨congrArg (fun z => Outcome.returned (some (Value.int z))) hu, ht⟩) (fun q hq => absurd hq List.not_mem_nil) dX6_counted_81
  have h := o_f h c_2
  by_cases c_3 : x1 = 3
  · have h := o_t h c_3
    refine k_swIn (v := 3) (off := 68) (tgt := 69) hx hb c_3 dX6_counted_1 (by decide) (by decide) (by decide +kernel) (by decide) ?_
    refine lv_aload_n hx hb dX6_counted_69 rfl (lv_at hl 0 rfl) ?_
    refine va_get (D := (dC, dI)) (ci := 6) (v := .ref (a 1)) (C := RX6) (T := TX6) (N := 11) hx hb huX6 (fun _ h9 => h9) hown hK hP 0 rfl rfl 0 (by decide) w7 (fun _ h9 => h9) rfl dX6_counted_70 ?_
    refine lv_sipush (v := (328 : Int32)) hx hb dX6_counted_73 (by decide) ?_
    refine lv_iload_n hx hb dX6_counted_76 rfl (lv_at hl 1 rfl) ?_
    refine lv_iadd hx hb dX6_counted_77 ?_
    refine lv_iconst (v := (1 : Int32)) hx hb dX6_counted_78 (by decide) ?_
    refine lv_isub hx hb dX6_counted_79 ?_
    obtain ⟨i7, h⟩ := o_in h
    refine va_iald hx hb hK hP 1 0 rfl rfl i7 dX6_counted_80 ?_
    have hu := Option.some.inj h
    exact W.iret (v := (g_X6_s S) (((328 : Int32) + x1) - (1 : Int32)).toNatClampNeg) hx hb hr (fun t ht hW => ⟨congrArg (fun z => Outcome.returned (some (Value.int z))) hu, ht⟩) (fun q hq => absurd hq List.not_mem_nil) dX6_counted_81
  have h := o_f h c_3
  by_cases c_4 : x1 = 4
  · have h := o_t h c_4
    refine k_swIn (v := 4) (off := 68) (tgt := 69) hx hb c_4 dX6_counted_1 (by decide) (by decide) (by decide +kernel) (by decide) ?_
    refine lv_aload_n hx hb dX6_counted_69 rfl (lv_at hl 0 rfl) ?_
    refine va_get (D := (dC, dI)) (ci := 6) (v := .ref (a 1)) (C := RX6) (T := TX6) (N := 11) hx hb huX6 (fun _ h9 => h9) hown hK hP 0 rfl rfl 0 (by decide) w7 (fun _ h9 => h9) rfl dX6_counted_70 ?_
    refine lv_sipush (v := (328 : Int32)) hx hb dX6_counted_73 (by decide) ?_
    refine lv_iload_n hx hb dX6_counted_76 rfl (lv_at hl 1 rfl) ?_
    refine lv_iadd hx hb dX6_counted_77 ?_
    refine lv_iconst (v := (1 : Int32)) hx hb dX6_counted_78 (by decide) ?_
    refine lv_isub hx hb dX6_counted_79 ?_
    obtain ⟨i9, h⟩ := o_in h
    refine va_iald hx hb hK hP 1 0 rfl rfl i9 dX6_counted_80 ?_
    have hu := Option.some.inj h
    exact W.iret (v := (g_X6_s S) (((328 : Int32) + x1) - (1 : Int32)).toNatClampNeg) hx hb hr (fun t ht hW => ⟨congrArg (fun z => Outcome.returned (some (Value.int z))) hu, ht⟩) (fun q hq => absurd hq List.not_mem_nil) dX6_counted_81
  have h := o_f h c_4
  by_cases c_5 : x1 = 5
  · have h := o_t h c_5
    refine k_swIn (v := 5) (off := 81) (tgt := 82) hx hb c_5 dX6_counted_1 (by decide) (by decide) (by decide +kernel) (by decide) ?_
    refine lv_aload_n hx hb dX6_counted_82 rfl (lv_at hl 0 rfl) ?_
    refine va_get (D := (dC, dI)) (ci := 6) (v := .ref (a 1)) (C := RX6) (T := TX6) (N := 11) hx hb huX6 (fun _ h9 => h9) hown hK hP 0 rfl rfl 0 (by decide) w7 (fun _ h9 => h9) rfl dX6_counted_83 ?_
    refine lv_sipush (v := (346 : Int32)) hx hb dX6_counted_86 (by decide) ?_
    refine lv_iload_n hx hb dX6_counted_89 rfl (lv_at hl 1 rfl) ?_
    refine lv_iadd hx hb dX6_counted_90 ?_
    refine lv_iconst (v := (5 : Int32)) hx hb dX6_counted_91 (by decide) ?_
    refine lv_isub hx hb dX6_counted_92 ?_
    obtain ⟨i11, h⟩ := o_in h
    refine va_iald hx hb hK hP 1 0 rfl rfl i11 dX6_counted_93 ?_
    have hu := Option.some.inj h
    exact W.iret (v := (g_X6_s S) (((346 : Int32) + x1) - (5 : Int32)).toNatClampNeg) hx hb hr (fun t ht hW => ⟨congrArg (fun z => Outcome.returned (some (Value.int z))) hu, ht⟩) (fun q hq => absurd hq List.not_mem_nil) dX6_counted_94
  have h := o_f h c_5
  by_cases c_6 : x1 = 6
  · have h := o_t h c_6
    refine k_swIn (v := 6) (off := 81) (tgt := 82) hx hb c_6 dX6_counted_1 (by decide) (by decide) (by decide +kernel) (by decide) ?_
    refine lv_aload_n hx hb dX6_counted_82 rfl (lv_at hl 0 rfl) ?_
    refine va_get (D := (dC, dI)) (ci := 6) (v := .ref (a 1)) (C := RX6) (T := TX6) (N := 11) hx hb huX6 (fun _ h9 => h9) hown hK hP 0 rfl rfl 0 (by decide) w7 (fun _ h9 => h9) rfl dX6_counted_83 ?_
    refine lv_sipush (v := (346 : Int32)) hx hb dX6_counted_86 (by decide) ?_
    refine lv_iload_n hx hb dX6_counted_89 rfl (lv_at hl 1 rfl) ?_
    refine lv_iadd hx hb dX6_counted_90 ?_
    refine lv_iconst (v := (5 : Int32)) hx hb dX6_counted_91 (by decide) ?_
    refine lv_isub hx hb dX6_counted_92 ?_
    obtain ⟨i13, h⟩ := o_in h
    refine va_iald hx hb hK hP 1 0 rfl rfl i13 dX6_counted_93 ?_
    have hu := Option.some.inj h
    exact W.iret (v := (g_X6_s S) (((346 : Int32) + x1) - (5 : Int32)).toNatClampNeg) hx hb hr (fun t ht hW => ⟨congrArg (fun z => Outcome.returned (some (Value.int z))) hu, ht⟩) (fun q hq => absurd hq List.not_mem_nil) dX6_counted_94
  have h := o_f h c_6
  by_cases c_7 : x1 = 7
  · have h := o_t h c_7
    refine k_swIn (v := 7) (off := 81) (tgt := 82) hx hb c_7 dX6_counted_1 (by decide) (by decide) (by decide +kernel) (by decide) ?_
    refine lv_aload_n hx hb dX6_counted_82 rfl (lv_at hl 0 rfl) ?_
    refine va_get (D := (dC, dI)) (ci := 6) (v := .ref (a 1)) (C := RX6) (T := TX6) (N := 11) hx hb huX6 (fun _ h9 => h9) hown hK hP 0 rfl rfl 0 (by decide) w7 (fun _ h9 => h9) rfl dX6_counted_83 ?_
    refine lv_sipush (v := (346 : Int32)) hx hb dX6_counted_86 (by decide) ?_
    refine lv_iload_n hx hb dX6_counted_89 rfl (lv_at hl 1 rfl) ?_
    refine lv_iadd hx hb dX6_counted_90 ?_
    refine lv_iconst (v := (5 : Int32)) hx hb dX6_counted_91 (by decide) ?_
    refine lv_isub hx hb dX6_counted_92 ?_
    obtain ⟨i15, h⟩ := o_in h
    refine va_iald hx hb hK hP 1 0 rfl rfl i15 dX6_counted_93 ?_
    have hu := Option.some.inj h
    exact W.iret (v := (g_X6_s S) (((346 : Int32) + x1) - (5 : Int32)).toNatClampNeg) hx hb hr (fun t ht hW => ⟨congrArg (fun z => Outcome.returned (some (Value.int z))) hu, ht⟩) (fun q hq => absurd hq List.not_mem_nil) dX6_counted_94
  have h := o_f h c_7
  by_cases c_8 : x1 = 8
  · have h := o_t h c_8
    refine k_swIn (v := 8) (off := 94) (tgt := 95) hx hb c_8 dX6_counted_1 (by decide) (by decide) (by decide +kernel) (by decide) ?_
    refine lv_aload_n hx hb dX6_counted_95 rfl (lv_at hl 0 rfl) ?_
    obtain ⟨v17, g18, h⟩ := o_b h
    refine k_ro (va_runV (As := []) (rest := []) ⟨hx, hb, hml, hown, hts⟩ (c_X6_all l dC dI cI cF a S v17 g18) (cwV 0 hts gX6_counted_X6_all rfl rfl rfl (by decide +kernel) ⟨Nat.le_of_ble_eq_true rfl, Nat.le_of_ble_eq_true rfl⟩) (k_preV (q0 := 0) (ci := 6) hK (hP.sub (ws' := wX6 a cI cF S) [0, 1, 2, 3, 4, 5] rfl) rfl rfl rfl) rfl rfl hl.1 rfl (lv_room (Nat.le_of_ble_eq_true rfl)) dX6_counted_96 ⟨Nat.zero_le _, Nat.zero_le _⟩) (st1 := [.int v17]) rfl ?_
    have hu := Option.some.inj h
    exact W.iret (v := v17) hx hb hr (fun t ht hW => ⟨congrArg (fun z => Outcome.returned (some (Value.int z))) hu, ht⟩) (fun q hq => absurd hq List.not_mem_nil) dX6_counted_99
  have h := o_f h c_8
  by_cases c_9 : x1 = 9
  · have h := o_t h c_9
    refine k_swIn (v := 9) (off := 99) (tgt := 100) hx hb c_9 dX6_counted_1 (by decide) (by decide) (by decide +kernel) (by decide) ?_
    refine lv_aload_n hx hb dX6_counted_100 rfl (lv_at hl 0 rfl) ?_
    refine va_get (D := (dC, dI)) (ci := 6) (v := .ref (a 1)) (C := RX6) (T := TX6) (N := 11) hx hb huX6 (fun _ h9 => h9) hown hK hP 0 rfl rfl 0 (by decide) w7 (fun _ h9 => h9) rfl dX6_counted_101 ?_
    refine lv_sipush (v := (348 : Int32)) hx hb dX6_counted_104 (by decide) ?_
    refine va_iald hx hb hK hP 1 0 rfl rfl (by unfold vp_in; decide) dX6_counted_107 ?_
    refine lv_aload_n hx hb dX6_counted_108 rfl (lv_at hl 0 rfl) ?_
    refine va_get (D := (dC, dI)) (ci := 6) (v := .ref (a 1)) (C := RX6) (T := TX6) (N := 11) hx hb huX6 (fun _ h9 => h9) hown hK hP 0 rfl rfl 0 (by decide) w7 (fun _ h9 => h9) rfl dX6_counted_109 ?_
    refine lv_sipush (v := (347 : Int32)) hx hb dX6_counted_112 (by decide) ?_
    refine va_iald hx hb hK hP 1 0 rfl rfl (by unfold vp_in; decide) dX6_counted_115 ?_
    refine lv_isub hx hb dX6_counted_116 ?_
    have hu := Option.some.inj h
    exact W.iret (v := ((g_X6_s S) (348 : Int32).toNatClampNeg) - ((g_X6_s S) (347 : Int32).toNatClampNeg)) hx hb hr (fun t ht hW => ⟨congrArg (fun z => Outcome.returned (some (Value.int z))) hu, ht⟩) (fun q hq => absurd hq List.not_mem_nil) dX6_counted_117
  have h := o_f h c_9
  by_cases c_10 : x1 = 10
  · have h := o_t h c_10
    refine k_swIn (v := 10) (off := 117) (tgt := 118) hx hb c_10 dX6_counted_1 (by decide) (by decide) (by decide +kernel) (by decide) ?_
    refine lv_aload_n hx hb dX6_counted_118 rfl (lv_at hl 0 rfl) ?_
    refine va_get (D := (dC, dI)) (ci := 6) (v := .ref (a 1)) (C := RX6) (T := TX6) (N := 11) hx hb huX6 (fun _ h9 => h9) hown hK hP 0 rfl rfl 0 (by decide) w7 (fun _ h9 => h9) rfl dX6_counted_119 ?_
    refine lv_sipush (v := (349 : Int32)) hx hb dX6_counted_122 (by decide) ?_
    refine va_iald hx hb hK hP 1 0 rfl rfl (by unfold vp_in; decide) dX6_counted_125 ?_
    have hu := Option.some.inj h
    exact W.iret (v := (g_X6_s S) (349 : Int32).toNatClampNeg) hx hb hr (fun t ht hW => ⟨congrArg (fun z => Outcome.returned (some (Value.int z))) hu, ht⟩) (fun q hq => absurd hq List.not_mem_nil) dX6_counted_126
  have h := o_f h c_10
  refine lv_tableOut (tgt := 127) hx hb dX6_counted_1 (k_swOut 10 (by decide) _ (fun k hk => ?_)) (by decide) ?_
  · rcases (show k = 0 ∨ k = 1 ∨ k = 2 ∨ k = 3 ∨ k = 4 ∨ k = 5 ∨ k = 6 ∨ k = 7 ∨ k = 8 ∨ k = 9 ∨ k = 10 by omega) with rfl | rfl | rfl | rfl | rfl | rfl | rfl | rfl | rfl | rfl | rfl <;> first | exact c_0 | exact c_1 | exact c_2 | exact c_3 | exact c_4 | exact c_5 | exact c_6 | exact c_7 | exact c_8 | exact c_9 | exact c_10
  refine lv_aload_n hx hb dX6_counted_127 rfl (lv_at hl 0 rfl) ?_
  refine va_get (D := (dC, dI)) (ci := 6) (v := .int (g_X6_known S)) (C := RX6) (T := TX6) (N := 11) hx hb huX6 (fun _ h9 => h9) hown hK hP 0 rfl rfl 3 (by decide) w29 (fun _ h9 => h9) rfl dX6_counted_128 ?_
  have hu := Option.some.inj h
  exact W.iret (v := g_X6_known S) hx hb hr (fun t ht hW => ⟨congrArg (fun z => Outcome.returned (some (Value.int z))) hu, ht⟩) (fun q hq => absurd hq List.not_mem_nil) dX6_counted_131

def m_X6_count (S : S_X6) (x1 : Int32) : Option (Int32 × S_X6) := (m_X6_in x1 (0 : Int32) (11 : Int32)).bind fun v1 => (if v1 = 0 then ((m_X6_throwing (s_X6_thrown S (0 : Int32)) (1 : Int32)).bind fun v4 => (some (v4.1, v4.2))) else ((m_X6_counted (s_X6_thrown S (0 : Int32)) x1).bind fun v6 => (some (v6, s_X6_thrown S (0 : Int32)))))
set_option maxHeartbeats 4000000 in
set_option maxRecDepth 100000 in
theorem c_X6_count (l : Launch) (dC : Nat → ClassId) (dI : Nat → Nat → Nat) (cI cF : ClassId) (a : Nat → Nat) (S : S_X6) (x1 : Int32) (u : Int32 × S_X6) (h : m_X6_count S x1 = some u) : cRW l (dC, dI) cI cF yX6_count wsX6_count ({ frames := 4, cells := 0, slots := 0, locals := 88 } : Room) [.ref (a 0), .int x1] (wX6 a cI cF S) (wX6 a cI cF u.2) (some (.int u.1)) := by
  intro sz
  refine Met.ofW (cc := cX6_count) (maxL := 2) (ret := (some .int)) (by decide) rfl ?_
  intro p e s m args below meth c s₁ B hml hv
  obtain ⟨hargs, hsz, hP, hK, hD0⟩ := hv
  subst hargs
  have hx := B.exec
  have hb := B.bytes
  have hr := B.returns
  have hts := atoms_spec (ws := wsX6_count) B.pre
  have hown : s.vm.findClass RX6 = some m.cls := findClass_of_methodNamed B.named
  have hlocks := B.notSynchronized
  have w137 := hts (.methodLink RX6 137 yX6_counted) (List.mem_of_getElem? (i := 6) rfl)
  have w25 := hts (.fieldLink RX6 25 "DrawnSliversModel" "thrown" "I") (List.mem_of_getElem? (i := 1) rfl)
  have w32 := hts (.methodLink RX6 32 yX6_in) (List.mem_of_getElem? (i := 2) rfl)
  have w98 := hts (.methodLink RX6 98 yX6_throwing) (List.mem_of_getElem? (i := 28) rfl)
  have huX6 : ∀ w ∈ u_ws RX6 TX6 11, w.before _ s = true := fun w h => hts w (List.mem_cons_of_mem _ (List.mem_append_right _ (h)))
  subst hsz
  have hD := hD0.self (sz := s.heap.size)
  generalize hAe : va_A (wX6 a cI cF S) s.heap.size = A at hD ⊢
  have hA : ∀ q : Nat, s.heap.size ≤ q → A q := fun q h => by rw [← hAe]; exact Or.inr h
  have hS : va_S A s.heap s.heap [] := va_S.rf
  have hl := lv_entry ([.ref (a 0), .int x1]) (n := 2) (Nat.le_of_ble_eq_true rfl)
  rw [lg_entry_eq]
  generalize (lg_sl ([.ref (a 0), .int x1]) ++ List.replicate (2 - (lg_sl ([.ref (a 0), .int x1])).length) Slot.unset).toArray = ls at hl ⊢
  have hl : lv_has ls 2 [(0, .ref (a 0)), (1, .int x1)] := hl
  rw [m_X6_count] at h
  refine lv_aload_n hx hb dX6_count_0 rfl (lv_at hl 0 rfl) ?_
  refine lv_iconst (v := (0 : Int32)) hx hb dX6_count_1 (by decide) ?_
  refine va_put (D := (dC, dI)) (ci := 6) (v := .int (0 : Int32)) (ty := .int) (C := RX6) (T := TX6) (N := 11) hx hb huX6 (fun _ h9 => h9) tyX6 tyX6_ok nmX6 hown hK hP hD hS 0 rfl rfl 8 (by decide) w25 (fun _ h9 => h9) rfl (by decide +kernel) rfl rfl (Nat.le_of_ble_eq_true rfl) dX6_count_2 (fun H locs hP hD hS => ?_)
  have hP : va_P (dC, dI) vwCl (wX6 a cI cF (s_X6_thrown S (0 : Int32))) H := hP
  have hD : va_D A (wX6 a cI cF (s_X6_thrown S (0 : Int32))) := hD
  refine lv_iload_n hx hb dX6_count_5 rfl (lv_at hl 1 rfl) ?_
  refine lv_iconst (v := (0 : Int32)) hx hb dX6_count_6 (by decide) ?_
  refine lv_bipush (v := (11 : Int32)) hx hb dX6_count_7 (by decide) ?_
  obtain ⟨v1, g2, h⟩ := o_b h
  refine k_ro (va_runS (As := [.int x1, .int (0 : Int32), .int (11 : Int32)]) (rest := []) ⟨hx, hb, hml, hown, hts⟩ (c_X6_in l dC dI cI cF x1 (0 : Int32) (11 : Int32) v1 g2) (va_cwS 3 hts gX6_count_X6_in rfl rfl rfl (by decide +kernel) ⟨Nat.le_of_ble_eq_true rfl, Nat.le_of_ble_eq_true rfl⟩) (k_prePU) rfl rfl hl.1 rfl (lv_room (Nat.le_of_ble_eq_true rfl)) dX6_count_9 ⟨Nat.zero_le _, Nat.zero_le _⟩) (st1 := [.int v1]) rfl ?_
  refine lv_if_eq (tgt := 23) hx hb dX6_count_12 (by decide) (fun c3 => ?_) (fun c3 => ?_)
  · have h := o_t h c3
    refine lv_aload_n hx hb dX6_count_23 rfl (lv_at hl 0 rfl) ?_
    refine lv_iconst (v := (1 : Int32)) hx hb dX6_count_24 (by decide) ?_
    obtain ⟨v4, g5, h⟩ := o_b h
    refine k_rw (va_runV (As := [.int (1 : Int32)]) (rest := []) ⟨hx, hb, hml, hown, hts⟩ (c_X6_throwing l dC dI cI cF a (s_X6_thrown S (0 : Int32)) (1 : Int32) v4 g5 H.size) (cwV 1 hts gX6_count_X6_throwing rfl rfl rfl (by decide +kernel) ⟨Nat.le_of_ble_eq_true rfl, Nat.le_of_ble_eq_true rfl⟩) (k_preVw (q0 := 0) (ci := 6) hK hP hD [0, 1, 2, 3, 4, 5] rfl rfl rfl rfl rfl) rfl rfl hl.1 rfl (lv_room (Nat.le_of_ble_eq_true rfl)) dX6_count_25 ⟨Nat.zero_le _, Nat.zero_le _⟩) (st1 := [.int v4.1]) rfl hP hD hS hA [0, 1, 2, 3, 4, 5] rfl rfl (wn := wX6 a cI cF v4.2) rfl rfl rfl (fun H locs hP hD hS => ?_)
    have hu := Option.some.inj h
    exact W.iret (v := v4.1) hx hb hr (fun t ht hW => ⟨⟨congrArg (fun z => Outcome.returned (some (Value.int z.1))) hu, by rw [ht, ← hu]; exact hP⟩, hS.F ht⟩) hS.2.2 dX6_count_28
  have h := o_f h c3
  refine lv_aload_n hx hb dX6_count_15 rfl (lv_at hl 0 rfl) ?_
  refine lv_iload_n hx hb dX6_count_16 rfl (lv_at hl 1 rfl) ?_
  obtain ⟨v6, g7, h⟩ := o_b h
  refine k_ro (va_runV (As := [.int x1]) (rest := []) ⟨hx, hb, hml, hown, hts⟩ (c_X6_counted l dC dI cI cF a (s_X6_thrown S (0 : Int32)) x1 v6 g7) (cwV 1 hts gX6_count_X6_counted rfl rfl rfl (by decide +kernel) ⟨Nat.le_of_ble_eq_true rfl, Nat.le_of_ble_eq_true rfl⟩) (k_preV (q0 := 0) (ci := 6) hK (hP.sub (ws' := wX6 a cI cF (s_X6_thrown S (0 : Int32))) [0, 1, 2, 3, 4, 5] rfl) rfl rfl rfl) rfl rfl hl.1 rfl (lv_room (Nat.le_of_ble_eq_true rfl)) dX6_count_17 ⟨Nat.zero_le _, Nat.zero_le _⟩) (st1 := [.int v6]) rfl ?_
  refine lv_goto (tgt := 28) hx hb dX6_count_20 (by decide) ?_
  have hu := Option.some.inj h
  exact W.iret (v := v6) hx hb hr (fun t ht hW => ⟨⟨congrArg (fun z => Outcome.returned (some (Value.int z.1))) hu, by rw [ht, ← hu]; exact hP⟩, hS.F ht⟩) hS.2.2 dX6_count_28

def m_X6_setting (S : S_X6) (x1 : Int32) : Option (Int32 × S_X6) := (m_X6_in x1 (0 : Int32) (4 : Int32)).bind fun v1 => (if v1 = 0 then ((m_X6_throwing (s_X6_thrown S (0 : Int32)) (1 : Int32)).bind fun v4 => (some (v4.1, v4.2))) else (if ((340 : Int32) + x1) < 0 ∨ 350 ≤ ((340 : Int32) + x1).toNatClampNeg then none else (some ((g_X6_s S) ((340 : Int32) + x1).toNatClampNeg, s_X6_thrown S (0 : Int32)))))
set_option maxHeartbeats 4000000 in
set_option maxRecDepth 100000 in
theorem c_X6_setting (l : Launch) (dC : Nat → ClassId) (dI : Nat → Nat → Nat) (cI cF : ClassId) (a : Nat → Nat) (S : S_X6) (x1 : Int32) (u : Int32 × S_X6) (h : m_X6_setting S x1 = some u) : cRW l (dC, dI) cI cF yX6_setting wsX6_setting ({ frames := 1, cells := 0, slots := 0, locals := 22 } : Room) [.ref (a 0), .int x1] (wX6 a cI cF S) (wX6 a cI cF u.2) (some (.int u.1)) := by
  intro sz
  refine Met.ofW (cc := cX6_setting) (maxL := 2) (ret := (some .int)) (by decide) rfl ?_
  intro p e s m args below meth c s₁ B hml hv
  obtain ⟨hargs, hsz, hP, hK, hD0⟩ := hv
  subst hargs
  have hx := B.exec
  have hb := B.bytes
  have hr := B.returns
  have hts := atoms_spec (ws := wsX6_setting) B.pre
  have hown : s.vm.findClass RX6 = some m.cls := findClass_of_methodNamed B.named
  have hlocks := B.notSynchronized
  have w25 := hts (.fieldLink RX6 25 "DrawnSliversModel" "thrown" "I") (List.mem_of_getElem? (i := 1) rfl)
  have w32 := hts (.methodLink RX6 32 yX6_in) (List.mem_of_getElem? (i := 3) rfl)
  have w7 := hts (.fieldLink RX6 7 "DrawnSliversModel" "s" "[I") (List.mem_of_getElem? (i := 2) rfl)
  have w98 := hts (.methodLink RX6 98 yX6_throwing) (List.mem_of_getElem? (i := 7) rfl)
  have huX6 : ∀ w ∈ u_ws RX6 TX6 11, w.before _ s = true := fun w h => hts w (List.mem_cons_of_mem _ (List.mem_append_right _ (h)))
  subst hsz
  have hD := hD0.self (sz := s.heap.size)
  generalize hAe : va_A (wX6 a cI cF S) s.heap.size = A at hD ⊢
  have hA : ∀ q : Nat, s.heap.size ≤ q → A q := fun q h => by rw [← hAe]; exact Or.inr h
  have hS : va_S A s.heap s.heap [] := va_S.rf
  have hl := lv_entry ([.ref (a 0), .int x1]) (n := 2) (Nat.le_of_ble_eq_true rfl)
  rw [lg_entry_eq]
  generalize (lg_sl ([.ref (a 0), .int x1]) ++ List.replicate (2 - (lg_sl ([.ref (a 0), .int x1])).length) Slot.unset).toArray = ls at hl ⊢
  have hl : lv_has ls 2 [(0, .ref (a 0)), (1, .int x1)] := hl
  rw [m_X6_setting] at h
  refine lv_aload_n hx hb dX6_setting_0 rfl (lv_at hl 0 rfl) ?_
  refine lv_iconst (v := (0 : Int32)) hx hb dX6_setting_1 (by decide) ?_
  refine va_put (D := (dC, dI)) (ci := 6) (v := .int (0 : Int32)) (ty := .int) (C := RX6) (T := TX6) (N := 11) hx hb huX6 (fun _ h9 => h9) tyX6 tyX6_ok nmX6 hown hK hP hD hS 0 rfl rfl 8 (by decide) w25 (fun _ h9 => h9) rfl (by decide +kernel) rfl rfl (Nat.le_of_ble_eq_true rfl) dX6_setting_2 (fun H locs hP hD hS => ?_)
  have hP : va_P (dC, dI) vwCl (wX6 a cI cF (s_X6_thrown S (0 : Int32))) H := hP
  have hD : va_D A (wX6 a cI cF (s_X6_thrown S (0 : Int32))) := hD
  refine lv_iload_n hx hb dX6_setting_5 rfl (lv_at hl 1 rfl) ?_
  refine lv_iconst (v := (0 : Int32)) hx hb dX6_setting_6 (by decide) ?_
  refine lv_iconst (v := (4 : Int32)) hx hb dX6_setting_7 (by decide) ?_
  obtain ⟨v1, g2, h⟩ := o_b h
  refine k_ro (va_runS (As := [.int x1, .int (0 : Int32), .int (4 : Int32)]) (rest := []) ⟨hx, hb, hml, hown, hts⟩ (c_X6_in l dC dI cI cF x1 (0 : Int32) (4 : Int32) v1 g2) (va_cwS 3 hts gX6_setting_X6_in rfl rfl rfl (by decide +kernel) ⟨Nat.le_of_ble_eq_true rfl, Nat.le_of_ble_eq_true rfl⟩) (k_prePU) rfl rfl hl.1 rfl (lv_room (Nat.le_of_ble_eq_true rfl)) dX6_setting_8 ⟨Nat.zero_le _, Nat.zero_le _⟩) (st1 := [.int v1]) rfl ?_
  refine lv_if_eq (tgt := 27) hx hb dX6_setting_11 (by decide) (fun c3 => ?_) (fun c3 => ?_)
  · have h := o_t h c3
    refine lv_aload_n hx hb dX6_setting_27 rfl (lv_at hl 0 rfl) ?_
    refine lv_iconst (v := (1 : Int32)) hx hb dX6_setting_28 (by decide) ?_
    obtain ⟨v4, g5, h⟩ := o_b h
    refine k_rw (va_runV (As := [.int (1 : Int32)]) (rest := []) ⟨hx, hb, hml, hown, hts⟩ (c_X6_throwing l dC dI cI cF a (s_X6_thrown S (0 : Int32)) (1 : Int32) v4 g5 H.size) (cwV 1 hts gX6_setting_X6_throwing rfl rfl rfl (by decide +kernel) ⟨Nat.le_of_ble_eq_true rfl, Nat.le_of_ble_eq_true rfl⟩) (k_preVw (q0 := 0) (ci := 6) hK hP hD [0, 1, 2, 3, 4, 5] rfl rfl rfl rfl rfl) rfl rfl hl.1 rfl (lv_room (Nat.le_of_ble_eq_true rfl)) dX6_setting_29 ⟨Nat.zero_le _, Nat.zero_le _⟩) (st1 := [.int v4.1]) rfl hP hD hS hA [0, 1, 2, 3, 4, 5] rfl rfl (wn := wX6 a cI cF v4.2) rfl rfl rfl (fun H locs hP hD hS => ?_)
    have hu := Option.some.inj h
    exact W.iret (v := v4.1) hx hb hr (fun t ht hW => ⟨⟨congrArg (fun z => Outcome.returned (some (Value.int z.1))) hu, by rw [ht, ← hu]; exact hP⟩, hS.F ht⟩) hS.2.2 dX6_setting_32
  have h := o_f h c3
  refine lv_aload_n hx hb dX6_setting_14 rfl (lv_at hl 0 rfl) ?_
  refine va_get (D := (dC, dI)) (ci := 6) (v := .ref (a 1)) (C := RX6) (T := TX6) (N := 11) hx hb huX6 (fun _ h9 => h9) hown hK hP 0 rfl rfl 0 (by decide) w7 (fun _ h9 => h9) rfl dX6_setting_15 ?_
  refine lv_sipush (v := (340 : Int32)) hx hb dX6_setting_18 (by decide) ?_
  refine lv_iload_n hx hb dX6_setting_21 rfl (lv_at hl 1 rfl) ?_
  refine lv_iadd hx hb dX6_setting_22 ?_
  obtain ⟨i6, h⟩ := o_in h
  refine va_iald hx hb hK hP 1 0 rfl rfl i6 dX6_setting_23 ?_
  refine lv_goto (tgt := 32) hx hb dX6_setting_24 (by decide) ?_
  have hu := Option.some.inj h
  exact W.iret (v := (g_X6_s S) ((340 : Int32) + x1).toNatClampNeg) hx hb hr (fun t ht hW => ⟨⟨congrArg (fun z => Outcome.returned (some (Value.int z.1))) hu, by rw [ht, ← hu]; exact hP⟩, hS.F ht⟩) hS.2.2 dX6_setting_32

def m_X6_why (S : S_X6) : Option (Int32 × S_X6) := (m_X6_reason (s_X6_thrown S (0 : Int32))).bind fun v1 => (some (v1, s_X6_thrown S (0 : Int32)))
set_option maxHeartbeats 4000000 in
set_option maxRecDepth 100000 in
theorem c_X6_why (l : Launch) (dC : Nat → ClassId) (dI : Nat → Nat → Nat) (cI cF : ClassId) (a : Nat → Nat) (S : S_X6) (u : Int32 × S_X6) (h : m_X6_why S = some u) : cRW l (dC, dI) cI cF yX6_why wsX6_why ({ frames := 3, cells := 0, slots := 0, locals := 67 } : Room) [.ref (a 0)] (wX6 a cI cF S) (wX6 a cI cF u.2) (some (.int u.1)) := by
  intro sz
  refine Met.ofW (cc := cX6_why) (maxL := 1) (ret := (some .int)) (by decide) rfl ?_
  intro p e s m args below meth c s₁ B hml hv
  obtain ⟨hargs, hsz, hP, hK, hD0⟩ := hv
  subst hargs
  have hx := B.exec
  have hb := B.bytes
  have hr := B.returns
  have hts := atoms_spec (ws := wsX6_why) B.pre
  have hown : s.vm.findClass RX6 = some m.cls := findClass_of_methodNamed B.named
  have hlocks := B.notSynchronized
  have w25 := hts (.fieldLink RX6 25 "DrawnSliversModel" "thrown" "I") (List.mem_of_getElem? (i := 1) rfl)
  have w66 := hts (.methodLink RX6 66 yX6_reason) (List.mem_of_getElem? (i := 2) rfl)
  have huX6 : ∀ w ∈ u_ws RX6 TX6 11, w.before _ s = true := fun w h => hts w (List.mem_cons_of_mem _ (List.mem_append_right _ (h)))
  subst hsz
  have hD := hD0.self (sz := s.heap.size)
  generalize hAe : va_A (wX6 a cI cF S) s.heap.size = A at hD ⊢
  have hA : ∀ q : Nat, s.heap.size ≤ q → A q := fun q h => by rw [← hAe]; exact Or.inr h
  have hS : va_S A s.heap s.heap [] := va_S.rf
  have hl := lv_entry ([.ref (a 0)]) (n := 1) (Nat.le_of_ble_eq_true rfl)
  rw [lg_entry_eq]
  generalize (lg_sl ([.ref (a 0)]) ++ List.replicate (1 - (lg_sl ([.ref (a 0)])).length) Slot.unset).toArray = ls at hl ⊢
  have hl : lv_has ls 1 [(0, .ref (a 0))] := hl
  rw [m_X6_why] at h
  refine lv_aload_n hx hb dX6_why_0 rfl (lv_at hl 0 rfl) ?_
  refine lv_iconst (v := (0 : Int32)) hx hb dX6_why_1 (by decide) ?_
  refine va_put (D := (dC, dI)) (ci := 6) (v := .int (0 : Int32)) (ty := .int) (C := RX6) (T := TX6) (N := 11) hx hb huX6 (fun _ h9 => h9) tyX6 tyX6_ok nmX6 hown hK hP hD hS 0 rfl rfl 8 (by decide) w25 (fun _ h9 => h9) rfl (by decide +kernel) rfl rfl (Nat.le_of_ble_eq_true rfl) dX6_why_2 (fun H locs hP hD hS => ?_)
  have hP : va_P (dC, dI) vwCl (wX6 a cI cF (s_X6_thrown S (0 : Int32))) H := hP
  have hD : va_D A (wX6 a cI cF (s_X6_thrown S (0 : Int32))) := hD
  refine lv_aload_n hx hb dX6_why_5 rfl (lv_at hl 0 rfl) ?_
  obtain ⟨v1, g2, h⟩ := o_b h
  refine k_ro (va_runV (As := []) (rest := []) ⟨hx, hb, hml, hown, hts⟩ (c_X6_reason l dC dI cI cF a (s_X6_thrown S (0 : Int32)) v1 g2) (cwV 0 hts gX6_why_X6_reason rfl rfl rfl (by decide +kernel) ⟨Nat.le_of_ble_eq_true rfl, Nat.le_of_ble_eq_true rfl⟩) (k_preV (q0 := 0) (ci := 6) hK (hP.sub (ws' := wX6 a cI cF (s_X6_thrown S (0 : Int32))) [0, 1, 2, 3, 4, 5] rfl) rfl rfl rfl) rfl rfl hl.1 rfl (lv_room (Nat.le_of_ble_eq_true rfl)) dX6_why_6 ⟨Nat.zero_le _, Nat.zero_le _⟩) (st1 := [.int v1]) rfl ?_
  have hu := Option.some.inj h
  exact W.iret (v := v1) hx hb hr (fun t ht hW => ⟨⟨congrArg (fun z => Outcome.returned (some (Value.int z.1))) hu, by rw [ht, ← hu]; exact hP⟩, hS.F ht⟩) hS.2.2 dX6_why_9

