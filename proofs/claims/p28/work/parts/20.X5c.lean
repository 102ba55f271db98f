-- X5_ifRun X5_bestLag
def m_X5_ifRun (S : S_X5) (x1 : Int32) (x2 : Int32) : Option ((Nat × S_X5) ⊕ (Int32 × S_X5)) := (m_X5_isRunLength x1).bind fun v1 => (if v1 = 0 then (some (.inl (2, S))) else (if x2 < 0 then (some (.inl (2, S))) else (if x2 < (5 : Int32) then ((m_X2_copyFrom (g_X5_trial S) (g_X5_frame S)).bind fun v6 => ((m_X2_advance v6 x1).bind fun v8 => (nmL (v8.1) fun x3_10 => (if x2 = 0 then (some (.inr (x3_10, s_X5_trial S v8.2))) else if x2 = 1 then ((m_X0_spreadOf (g_X2_cans v8.2) (g_X2_taker v8.2)).bind fun v14 => (some (.inr (v14, s_X5_trial S v8.2)))) else if x2 = 2 then ((m_X0_stepsOf (g_X2_cans v8.2) (g_X2_taker v8.2)).bind fun v17 => (some (.inr (v17, s_X5_trial S v8.2)))) else if x2 = 3 then (some (.inr ((g_X2_waste v8.2) - (g_X2_waste (g_X5_frame S)), s_X5_trial S v8.2))) else ((m_X2_whyNot v8.2).bind fun v20 => (some (.inr (v20, s_X5_trial S v8.2)))))))) else (some (.inl (2, S))))))
set_option maxHeartbeats 4000000 in
set_option maxRecDepth 100000 in
theorem c_X5_ifRun (l : Launch) (dC : Nat → ClassId) (dI : Nat → Nat → Nat) (cI cF : ClassId) (a : Nat → Nat) (S : S_X5) (x1 : Int32) (x2 : Int32) (u : Int32 × S_X5) (h : m_X5_ifRun S x1 x2 = some (.inr u)) : cRW l (dC, dI) cI cF yX5_ifRun wsX5_ifRun ({ frames := 5, cells := 0, slots := 0, locals := 152 } : Room) [.ref (a 0), .int x1, .int x2] (wX5 a cI cF S) (wX5 a cI cF u.2) (some (.int u.1)) := by
  intro sz
  refine Met.ofW (cc := cX5_ifRun) (maxL := 4) (ret := (some .int)) (by decide) rfl ?_
  intro p e s m args below meth c s₁ B hml hv
  obtain ⟨hargs, hsz, hP, hK, hD0⟩ := hv
  subst hargs
  have hx := B.exec
  have hb := B.bytes
  have hr := B.returns
  have hts := atoms_spec (ws := wsX5_ifRun) B.pre
  have hown : s.vm.findClass RX5 = some m.cls := findClass_of_methodNamed B.named
  have hlocks := B.notSynchronized
  have w10 := hts (.fieldLink RX5 10 "DrawnSlivers" "frame" "LDrawnSlivers$Frame;") (List.mem_of_getElem? (i := 4) rfl)
  have w124 := hts (.fieldLink RX5 124 "DrawnSlivers$Frame" "taker" "I") (List.mem_of_getElem? (i := 6) rfl)
  have w127 := hts (.methodLink RX5 127 yX5_isRunLength) (List.mem_of_getElem? (i := 8) rfl)
  have w132 := hts (.methodLink RX5 132 yX2_advance) (List.mem_of_getElem? (i := 55) rfl)
  have w172 := hts (.methodLink RX5 172 yX2_copyFrom) (List.mem_of_getElem? (i := 12) rfl)
  have w19 := hts (.fieldLink RX5 19 "DrawnSlivers" "trial" "LDrawnSlivers$Frame;") (List.mem_of_getElem? (i := 3) rfl)
  have w194 := hts (.methodLink RX5 194 yX0_spreadOf) (List.mem_of_getElem? (i := 123) rfl)
  have w197 := hts (.methodLink RX5 197 yX0_stepsOf) (List.mem_of_getElem? (i := 136) rfl)
  have w233 := hts (.methodLink RX5 233 yX2_whyNot) (List.mem_of_getElem? (i := 143) rfl)
  have w60 := hts (.fieldLink RX5 60 "DrawnSlivers$Frame" "cans" "LDrawnSlivers$Cans;") (List.mem_of_getElem? (i := 5) rfl)
  have w99 := hts (.fieldLink RX5 99 "DrawnSlivers$Frame" "waste" "I") (List.mem_of_getElem? (i := 7) rfl)
  have huX2 : ∀ w ∈ u_ws RX2 TX2 12, w.before _ s = true := fun w h => hts w (List.mem_cons_of_mem _ (List.mem_append_left _ (List.mem_append_left _ (List.mem_append_left _ (List.mem_append_right _ (h))))))
  have huX5 : ∀ w ∈ u_ws RX5 TX5 6, w.before _ s = true := fun w h => hts w (List.mem_cons_of_mem _ (List.mem_append_left _ (List.mem_append_left _ (List.mem_append_left _ (List.mem_append_left _ (List.mem_append_right _ (h)))))))
  subst hsz
  have hD := hD0.self (sz := s.heap.size)
  generalize hAe : va_A (wX5 a cI cF S) s.heap.size = A at hD ⊢
  have hA : ∀ q : Nat, s.heap.size ≤ q → A q := fun q h => by rw [← hAe]; exact Or.inr h
  have hS : va_S A s.heap s.heap [] := va_S.rf
  have hl := lv_entry ([.ref (a 0), .int x1, .int x2]) (n := 4) (Nat.le_of_ble_eq_true rfl)
  rw [lg_entry_eq]
  generalize (lg_sl ([.ref (a 0), .int x1, .int x2]) ++ List.replicate (4 - (lg_sl ([.ref (a 0), .int x1, .int x2])).length) Slot.unset).toArray = ls at hl ⊢
  have hl : lv_has ls 4 [(0, .ref (a 0)), (1, .int x1), (2, .int x2)] := hl
  rw [m_X5_ifRun] at h
  refine lv_iload_n hx hb dX5_ifRun_0 rfl (lv_at hl 1 rfl) ?_
  obtain ⟨v1, g2, h⟩ := o_b h
  refine k_ro (va_runS (As := [.int x1]) (rest := []) ⟨hx, hb, hml, hown, hts⟩ (c_X5_isRunLength l dC dI cI cF x1 v1 g2) (va_cwS 1 hts gX5_ifRun_X5_isRunLength rfl rfl rfl (by decide +kernel) ⟨Nat.le_of_ble_eq_true rfl, Nat.le_of_ble_eq_true rfl⟩) (k_prePU) rfl rfl hl.1 rfl (lv_room (Nat.le_of_ble_eq_true rfl)) dX5_ifRun_1 ⟨Nat.zero_le _, Nat.zero_le _⟩) (st1 := [.int v1]) rfl ?_
  refine lv_if_eq (tgt := 16) hx hb dX5_ifRun_4 (by decide) (fun c3 => ?_) (fun c3 => ?_)
  · have h := o_t h c3
    cases h
  have h := o_f h c3
  refine lv_iload_n hx hb dX5_ifRun_7 rfl (lv_at hl 2 rfl) ?_
  refine lv_if_lt (tgt := 16) hx hb dX5_ifRun_8 (by decide) (fun c4 => ?_) (fun c4 => ?_)
  · have h := o_t h c4
    cases h
  have h := o_f h c4
  refine lv_iload_n hx hb dX5_ifRun_11 rfl (lv_at hl 2 rfl) ?_
  refine lv_iconst (v := (5 : Int32)) hx hb dX5_ifRun_12 (by decide) ?_
  refine lv_icmp_lt (tgt := 26) hx hb dX5_ifRun_13 (by decide) (fun c5 => ?_) (fun c5 => ?_)
  rotate_left
  · have h := o_f h c5
    cases h
  have h := o_t h c5
  refine lv_aload_n hx hb dX5_ifRun_26 rfl (lv_at hl 0 rfl) ?_
  refine va_get (D := (dC, dI)) (ci := 5) (v := .ref (a 15)) (C := RX5) (T := TX5) (N := 6) hx hb huX5 (fun _ h9 => h9) hown hK hP 0 rfl rfl 2 (by decide) w19 (fun _ h9 => h9) rfl dX5_ifRun_27 ?_
  refine lv_aload_n hx hb dX5_ifRun_30 rfl (lv_at hl 0 rfl) ?_
  refine va_get (D := (dC, dI)) (ci := 5) (v := .ref (a 1)) (C := RX5) (T := TX5) (N := 6) hx hb huX5 (fun _ h9 => h9) hown hK hP 0 rfl rfl 0 (by decide) w10 (fun _ h9 => h9) rfl dX5_ifRun_31 ?_
  obtain ⟨v6, g7, h⟩ := o_b h
  refine k_rwL (va_runV (As := [.ref (a 1)]) (rest := []) ⟨hx, hb, hml, hown, hts⟩ (c_X2_copyFrom l dC dI cI cF (fun i => a (i + 15)) (fun i => a (i + 1)) (g_X5_trial S) (g_X5_frame S) v6 g7 s.heap.size) (cwV 1 hts gX5_ifRun_X2_copyFrom rfl rfl rfl (by decide +kernel) ⟨Nat.le_of_ble_eq_true rfl, Nat.le_of_ble_eq_true rfl⟩) (k_preLw (q0 := 0) (ci := 2) hK hP hD (LN_sw (LX5_frame_trial a cI cF S (g_X5_frame S) v6)) rfl rfl rfl) rfl rfl hl.1 rfl (lv_room (Nat.le_of_ble_eq_true rfl)) dX5_ifRun_34 ⟨Nat.zero_le _, Nat.zero_le _⟩) (st1 := []) rfl hP hD hS hA (wn := wX5 a cI cF (s_X5_trial S v6)) (LN_sw (LX5_frame_trial a cI cF S (g_X5_frame S) v6)) (fun H locs hP hD hS => ?_)
  refine lv_aload_n hx hb dX5_ifRun_37 rfl (lv_at hl 0 rfl) ?_
  refine va_get (D := (dC, dI)) (ci := 5) (v := .ref (a 15)) (C := RX5) (T := TX5) (N := 6) hx hb huX5 (fun _ h9 => h9) hown hK hP 0 rfl rfl 2 (by decide) w19 (fun _ h9 => h9) rfl dX5_ifRun_38 ?_
  refine lv_iload_n hx hb dX5_ifRun_41 rfl (lv_at hl 1 rfl) ?_
  obtain ⟨v8, g9, h⟩ := o_b h
  refine k_rwL (va_runV (As := [.int x1]) (rest := []) ⟨hx, hb, hml, hown, hts⟩ (c_X2_advance l dC dI cI cF (fun i => a (i + 15)) v6 x1 v8 g9 H.size) (cwV 1 hts gX5_ifRun_X2_advance rfl rfl rfl (by decide +kernel) ⟨Nat.le_of_ble_eq_true rfl, Nat.le_of_ble_eq_true rfl⟩) (k_preLw (q0 := 0) (ci := 2) hK hP hD (LX5_trial a cI cF (s_X5_trial S v6) v8.2 (LN_id (fX2 (fun i => a (i + 15)) cI cF v6 v8.2))) rfl rfl rfl) rfl rfl hl.1 rfl (lv_room (Nat.le_of_ble_eq_true rfl)) dX5_ifRun_42 ⟨Nat.zero_le _, Nat.zero_le _⟩) (st1 := [.int v8.1]) rfl hP hD hS hA (wn := wX5 a cI cF (s_X5_trial S v8.2)) (LX5_trial a cI cF (s_X5_trial S v6) v8.2 (LN_id (fX2 (fun i => a (i + 15)) cI cF v6 v8.2))) (fun H locs hP hD hS => ?_)
  obtain ⟨x3_10, e11, h⟩ := o_n h
  refine lv_nmi e11 ?_
  refine lv_istore_n (lv' := [(3, .int x3_10), (0, .ref (a 0)), (1, .int x1), (2, .int x2)]) hx hb dX5_ifRun_45 rfl hl (by decide) rfl (fun ls hl => ?_)
  refine lv_iload_n hx hb dX5_ifRun_46 rfl (lv_at hl 3 rfl) ?_
  by_cases c_0 : x2 = 0
  · have h := o_t h c_0
    refine k_swIn (v := 0) (off := 29) (tgt := 76) hx hb c_0 dX5_ifRun_47 (by decide) (by decide) (by decide +kernel) (by decide) ?_
    refine lv_iload_n hx hb dX5_ifRun_76 rfl (lv_at hl 0 rfl) ?_
    have hu := Sum.inr.inj (Option.some.inj h)
    exact W.iret (v := x3_10) hx hb hr (fun t ht hW => ⟨⟨congrArg (fun z => Outcome.returned (some (Value.int z.1))) hu, by rw [ht, ← hu]; exact hP⟩, hS.F ht⟩) hS.2.2 dX5_ifRun_77
  have h := o_f h c_0
  by_cases c_1 : x2 = 1
  · have h := o_t h c_1
    refine k_swIn (v := 1) (off := 31) (tgt := 78) hx hb c_1 dX5_ifRun_47 (by decide) (by decide) (by decide +kernel) (by decide) ?_
    refine lv_aload_n hx hb dX5_ifRun_78 rfl (lv_at hl 1 rfl) ?_
    refine va_get (D := (dC, dI)) (ci := 5) (v := .ref (a 15)) (C := RX5) (T := TX5) (N := 6) hx hb huX5 (fun _ h9 => h9) hown hK hP 0 rfl rfl 2 (by decide) w19 (fun _ h9 => h9) rfl dX5_ifRun_79 ?_
    refine va_get (D := (dC, dI)) (ci := 2) (v := .ref (a 16)) (C := RX2) (T := TX2) (N := 12) hx hb huX2 (fun _ h9 => h9) hown hK hP 15 rfl rfl 0 (by decide) w60 (fun _ h9 => h9) rfl dX5_ifRun_82 ?_
    refine lv_aload_n hx hb dX5_ifRun_85 rfl (lv_at hl 1 rfl) ?_
    refine va_get (D := (dC, dI)) (ci := 5) (v := .ref (a 15)) (C := RX5) (T := TX5) (N := 6) hx hb huX5 (fun _ h9 => h9) hown hK hP 0 rfl rfl 2 (by decide) w19 (fun _ h9 => h9) rfl dX5_ifRun_86 ?_
    refine va_get (D := (dC, dI)) (ci := 2) (v := .int (g_X2_taker v8.2)) (C := RX2) (T := TX2) (N := 12) hx hb huX2 (fun _ h9 => h9) hown hK hP 15 rfl rfl 4 (by decide) w124 (fun _ h9 => h9) rfl dX5_ifRun_89 ?_
    obtain ⟨v14, g15, h⟩ := o_b h
    refine k_ro (va_runV (As := [.int (g_X2_taker v8.2)]) (rest := []) ⟨hx, hb, hml, hown, hts⟩ (c_X0_spreadOf l dC dI cI cF (fun i => a (i + 16)) (g_X2_cans v8.2) (g_X2_taker v8.2) v14 g15) (cwV 1 hts gX5_ifRun_X0_spreadOf rfl rfl rfl (by decide +kernel) ⟨Nat.le_of_ble_eq_true rfl, Nat.le_of_ble_eq_true rfl⟩) (k_preL (q0 := 0) (ci := 0) hK hP (LX5_trial a cI cF (s_X5_trial S v8.2) (s_X2_cans v8.2 (g_X2_cans v8.2)) (LX2_cans (fun i => a (i + 15)) cI cF v8.2 (g_X2_cans v8.2) (LN_id (fX0 (fun i => a (i + 16)) cI cF (g_X2_cans v8.2) (g_X2_cans v8.2))))) rfl rfl rfl) rfl rfl hl.1 rfl (lv_room (Nat.le_of_ble_eq_true rfl)) dX5_ifRun_92 ⟨Nat.zero_le _, Nat.zero_le _⟩) (st1 := [.int v14]) rfl ?_
    have hu := Sum.inr.inj (Option.some.inj h)
    exact W.iret (v := v14) hx hb hr (fun t ht hW => ⟨⟨congrArg (fun z => Outcome.returned (some (Value.int z.1))) hu, by rw [ht, ← hu]; exact hP⟩, hS.F ht⟩) hS.2.2 dX5_ifRun_95
  have h := o_f h c_1
  by_cases c_2 : x2 = 2
  · have h := o_t h c_2
    refine k_swIn (v := 2) (off := 49) (tgt := 96) hx hb c_2 dX5_ifRun_47 (by decide) (by decide) (by decide +kernel) (by decide) ?_
    refine lv_aload_n hx hb dX5_ifRun_96 rfl (lv_at hl 1 rfl) ?_
    refine va_get (D := (dC, dI)) (ci := 5) (v := .ref (a 15)) (C := RX5) (T := TX5) (N := 6) hx hb huX5 (fun _ h9 => h9) hown hK hP 0 rfl rfl 2 (by decide) w19 (fun _ h9 => h9) rfl dX5_ifRun_97 ?_
    refine va_get (D := (dC, dI)) (ci := 2) (v := .ref (a 16)) (C := RX2) (T := TX2) (N := 12) hx hb huX2 (fun _ h9 => h9) hown hK hP 15 rfl rfl 0 (by decide) w60 (fun _ h9 => h9) rfl dX5_ifRun_100 ?_
    refine lv_aload_n hx hb dX5_ifRun_103 rfl (lv_at hl 1 rfl) ?_
    refine va_get (D := (dC, dI)) (ci := 5) (v := .ref (a 15)) (C := RX5) (T := TX5) (N := 6) hx hb huX5 (fun _ h9 => h9) hown hK hP 0 rfl rfl 2 (by decide) w19 (fun _ h9 => h9) rfl dX5_ifRun_104 ?_
    refine va_get (D := (dC, dI)) (ci := 2) (v := .int (g_X2_taker v8.2)) (C := RX2) (T := TX2) (N := 12) hx hb huX2 (fun _ h9 => h9) hown hK hP 15 rfl rfl 4 (by decide) w124 (fun _ h9 => h9) rfl dX5_ifRun_107 ?_
    obtain ⟨v17, g18, h⟩ := o_b h
    refine k_ro (va_runV (As := [.int (g_X2_taker v8.2)]) (rest := []) ⟨hx, hb, hml, hown, hts⟩ (c_X0_stepsOf l dC dI cI cF (fun i => a (i + 16)) (g_X2_cans v8.2) (g_X2_taker v8.2) v17 g18) (cwV 1 hts gX5_ifRun_X0_stepsOf rfl rfl rfl (by decide +kernel) ⟨Nat.le_of_ble_eq_true rfl, Nat.le_of_ble_eq_true rfl⟩) (k_preL (q0 := 0) (ci := 0) hK hP (LX5_trial a cI cF (s_X5_trial S v8.2) (s_X2_cans v8.2 (g_X2_cans v8.2)) (LX2_cans (fun i => a (i + 15)) cI cF v8.2 (g_X2_cans v8.2) (LN_id (fX0 (fun i => a (i + 16)) cI cF (g_X2_cans v8.2) (g_X2_cans v8.2))))) rfl rfl rfl) rfl rfl hl.1 rfl (lv_room (Nat.le_of_ble_eq_true rfl)) dX5_ifRun_110 ⟨Nat.zero_le _, Nat.zero_le _⟩) (st1 := [.int v17]) rfl ?_
    have hu := Sum.inr.inj (Option.some.inj h)
    exact W.iret (v := v17) hx hb hr (fun t ht hW => ⟨⟨congrArg (fun z => Outcome.returned (some (Value.int z.1))) hu, by rw [ht, ← hu]; exact hP⟩, hS.F ht⟩) hS.2.2 dX5_ifRun_113
  have h := o_f h c_2
  by_cases c_3 : x2 = 3
  · have h := o_t h c_3
    refine k_swIn (v := 3) (off := 67) (tgt := 114) hx hb c_3 dX5_ifRun_47 (by decide) (by decide) (by decide +kernel) (by decide) ?_
    refine lv_aload_n hx hb dX5_ifRun_114 rfl (lv_at hl 1 rfl) ?_
    refine va_get (D := (dC, dI)) (ci := 5) (v := .ref (a 15)) (C := RX5) (T := TX5) (N := 6) hx hb huX5 (fun _ h9 => h9) hown hK hP 0 rfl rfl 2 (by decide) w19 (fun _ h9 => h9) rfl dX5_ifRun_115 ?_
    refine va_get (D := (dC, dI)) (ci := 2) (v := .int (g_X2_waste v8.2)) (C := RX2) (T := TX2) (N := 12) hx hb huX2 (fun _ h9 => h9) hown hK hP 15 rfl rfl 9 (by decide) w99 (fun _ h9 => h9) rfl dX5_ifRun_118 ?_
    refine lv_aload_n hx hb dX5_ifRun_121 rfl (lv_at hl 1 rfl) ?_
    refine va_get (D := (dC, dI)) (ci := 5) (v := .ref (a 1)) (C := RX5) (T := TX5) (N := 6) hx hb huX5 (fun _ h9 => h9) hown hK hP 0 rfl rfl 0 (by decide) w10 (fun _ h9 => h9) rfl dX5_ifRun_122 ?_
    refine va_get (D := (dC, dI)) (ci := 2) (v := .int (g_X2_waste (g_X5_frame S))) (C := RX2) (T := TX2) (N := 12) hx hb huX2 (fun _ h9 => h9) hown hK hP 1 rfl rfl 9 (by decide) w99 (fun _ h9 => h9) rfl dX5_ifRun_125 ?_
    refine lv_isub hx hb dX5_ifRun_128 ?_
    have hu := Sum.inr.inj (Option.some.inj h)
    exact W.iret (v := (g_X2_waste v8.2) - (g_X2_waste (g_X5_frame S))) hx hb hr (fun t ht hW => ⟨⟨congrArg (fun z => Outcome.returned (some (Value.int z.1))) hu, by rw [ht, ← hu]; exact hP⟩, hS.F ht⟩) hS.2.2 dX5_ifRun_129
  have h := o_f h c_3
  refine lv_tableOut (tgt := 130) hx hb dX5_ifRun_47 (k_swOut 3 (by decide) _ (fun k hk => ?_)) (by decide) ?_
  · rcases (show k = 0 ∨ k = 1 ∨ k = 2 ∨ k = 3 by omega) with rfl | rfl | rfl | rfl <;> first | exact c_0 | exact c_1 | exact c_2 | exact c_3
  refine lv_aload_n hx hb dX5_ifRun_130 rfl (lv_at hl 1 rfl) ?_
  refine va_get (D := (dC, dI)) (ci := 5) (v := .ref (a 15)) (C := RX5) (T := TX5) (N := 6) hx hb huX5 (fun _ h9 => h9) hown hK hP 0 rfl rfl 2 (by decide) w19 (fun _ h9 => h9) rfl dX5_ifRun_131 ?_
  obtain ⟨v20, g21, h⟩ := o_b h
  refine k_ro (va_runV (As := []) (rest := []) ⟨hx, hb, hml, hown, hts⟩ (c_X2_whyNot l dC dI cI cF (fun i => a (i + 15)) v8.2 v20 g21) (cwV 0 hts gX5_ifRun_X2_whyNot rfl rfl rfl (by decide +kernel) ⟨Nat.le_of_ble_eq_true rfl, Nat.le_of_ble_eq_true rfl⟩) (k_preL (q0 := 0) (ci := 2) hK hP (LX5_trial a cI cF (s_X5_trial S v8.2) v8.2 (LN_id (fX2 (fun i => a (i + 15)) cI cF v8.2 v8.2))) rfl rfl rfl) rfl rfl hl.1 rfl (lv_room (Nat.le_of_ble_eq_true rfl)) dX5_ifRun_134 ⟨Nat.zero_le _, Nat.zero_le _⟩) (st1 := [.int v20]) rfl ?_
  have hu := Sum.inr.inj (Option.some.inj h)
  exact W.iret (v := v20) hx hb hr (fun t ht hW => ⟨⟨congrArg (fun z => Outcome.returned (some (Value.int z.1))) hu, by rw [ht, ← hu]; exact hP⟩, hS.F ht⟩) hS.2.2 dX5_ifRun_137

def m_X5_bestLag_L24 : Nat → Int32 → Int32 → Int32 → Int32 → S_X5 → Option ((Nat × S_X5) ⊕ (Int32 × S_X5))
  | 0, _, _, _, _, _ => none
  | n + 1, y1, y2, y3, y4, S => if (6 : Int32) < y4 then (some (.inr (y2, S))) else ((m_X2_copyFrom (g_X5_trial S) (g_X5_frame S)).bind fun v5 => ((m_X2_changeSetting v5 (0 : Int32) y4).bind fun v7 => ((m_X2_advance v7 y1).bind fun v9 => ((m_X0_stepsOf (g_X2_cans v9.2) (g_X2_taker v9.2)).bind fun v11 => (if y4 = 0 then (nmL (y4 + 1) fun x4_14 => ((m_X5_bestLag_L24 n) y1 y4 v11 x4_14 (s_X5_trial S v9.2))) else (if y3 ≤ v11 then (nmL (y4 + 1) fun x4_17 => ((m_X5_bestLag_L24 n) y1 y2 y3 x4_17 (s_X5_trial S v9.2))) else (nmL (y4 + 1) fun x4_19 => ((m_X5_bestLag_L24 n) y1 y4 v11 x4_19 (s_X5_trial S v9.2)))))))))
def m_X5_bestLag (S : S_X5) (x1 : Int32) : Option ((Nat × S_X5) ⊕ (Int32 × S_X5)) := (m_X5_isRunLength x1).bind fun v1 => (if v1 = 0 then (some (.inl (2, S))) else (m_X5_bestLag_L24 4000 x1 (0 : Int32) (0 : Int32) (0 : Int32) S))
set_option maxHeartbeats 4000000 in
set_option maxRecDepth 100000 in
theorem c_X5_bestLag (l : Launch) (dC : Nat → ClassId) (dI : Nat → Nat → Nat) (cI cF : ClassId) (a : Nat → Nat) (S : S_X5) (x1 : Int32) (u : Int32 × S_X5) (h : m_X5_bestLag S x1 = some (.inr u)) : cRW l (dC, dI) cI cF yX5_bestLag wsX5_bestLag ({ frames := 5, cells := 0, slots := 0, locals := 152 } : Room) [.ref (a 0), .int x1] (wX5 a cI cF S) (wX5 a cI cF u.2) (some (.int u.1)) := by
  intro sz
  refine Met.ofW (cc := cX5_bestLag) (maxL := 6) (ret := (some .int)) (by decide) rfl ?_
  intro p e s m args below meth c s₁ B hml hv
  obtain ⟨hargs, hsz, hP, hK, hD0⟩ := hv
  subst hargs
  have hx := B.exec
  have hb := B.bytes
  have hr := B.returns
  have hts := atoms_spec (ws := wsX5_bestLag) B.pre
  have hown : s.vm.findClass RX5 = some m.cls := findClass_of_methodNamed B.named
  have hlocks := B.notSynchronized
  have w10 := hts (.fieldLink RX5 10 "DrawnSlivers" "frame" "LDrawnSlivers$Frame;") (List.mem_of_getElem? (i := 4) rfl)
  have w124 := hts (.fieldLink RX5 124 "DrawnSlivers$Frame" "taker" "I") (List.mem_of_getElem? (i := 6) rfl)
  have w127 := hts (.methodLink RX5 127 yX5_isRunLength) (List.mem_of_getElem? (i := 7) rfl)
  have w132 := hts (.methodLink RX5 132 yX2_advance) (List.mem_of_getElem? (i := 58) rfl)
  have w152 := hts (.methodLink RX5 152 yX2_changeSetting) (List.mem_of_getElem? (i := 54) rfl)
  have w172 := hts (.methodLink RX5 172 yX2_copyFrom) (List.mem_of_getElem? (i := 11) rfl)
  have w19 := hts (.fieldLink RX5 19 "DrawnSlivers" "trial" "LDrawnSlivers$Frame;") (List.mem_of_getElem? (i := 3) rfl)
  have w197 := hts (.methodLink RX5 197 yX0_stepsOf) (List.mem_of_getElem? (i := 126) rfl)
  have w60 := hts (.fieldLink RX5 60 "DrawnSlivers$Frame" "cans" "LDrawnSlivers$Cans;") (List.mem_of_getElem? (i := 5) rfl)
  have huX2 : ∀ w ∈ u_ws RX2 TX2 12, w.before _ s = true := fun w h => hts w (List.mem_cons_of_mem _ (List.mem_append_left _ (List.mem_append_left _ (List.mem_append_left _ (List.mem_append_right _ (h))))))
  have huX5 : ∀ w ∈ u_ws RX5 TX5 6, w.before _ s = true := fun w h => hts w (List.mem_cons_of_mem _ (List.mem_append_left _ (List.mem_append_left _ (List.mem_append_left _ (List.mem_append_left _ (List.mem_append_right _ (h)))))))
  subst hsz
  have hD := hD0.self (sz := s.heap.size)
  generalize hAe : va_A (wX5 a cI cF S) s.heap.size = A at hD ⊢
  have hA : ∀ q : Nat, s.heap.size ≤ q → A q := fun q h => by rw [← hAe]; exact Or.inr h
  have hS : va_S A s.heap s.heap [] := va_S.rf
  have L24 : ∀ (n : Nat), ∀ (y1 : Int32) (y2 : Int32) (y3 : Int32) (y4 : Int32) (S : S_X5), m_X5_bestLag_L24 n y1 y2 y3 y4 S = some (.inr u) → ∀ (H : Heap) (locs : List Loc), va_P (dC, dI) vwCl (wX5 a cI cF S) H → va_D A (wX5 a cI cF S) → va_S A s.heap H locs → ∀ (ls : Array Slot), lv_has ls 6 [(0, .ref (a 0)), (1, .int y1), (2, .int y2), (3, .int y3), (4, .int y4)] → W p l e (headSpec wsX5_bestLag ({ frames := 5, cells := 0, slots := 0, locals := 152 } : Room)).room s m ([.ref (a 0), .int x1] : List Value).toArray below meth c H locs 0 0 (MQ below (qRW (dC, dI) (wX5 a cI cF u.2) (some (.int u.1)) A) ([.ref (a 0), .int x1] : List Value).toArray s 0 0 A) (F0 m 24 ls []) := by
    intro  n
    induction n with
    | zero =>
      intro y1 y2 y3 y4 S h
      exact (o_0 h).elim
    | succ n ih24 =>
      intro y1 y2 y3 y4 S h H locs hP hD hS ls hl
      rw [m_X5_bestLag_L24] at h
      refine lv_iload hx hb dX5_bestLag_24 (lv_at hl 4 rfl) ?_
      refine lv_bipush (v := (6 : Int32)) hx hb dX5_bestLag_26 (by decide) ?_
      refine lv_icmp_gt (tgt := 103) hx hb dX5_bestLag_28 (by decide) (fun c4 => ?_) (fun c4 => ?_)
      · have h := o_t h c4
        refine lv_iload_n hx hb dX5_bestLag_103 rfl (lv_at hl 2 rfl) ?_
        have hu := Sum.inr.inj (Option.some.inj h)
        exact W.iret (v := y2) hx hb hr (fun t ht hW => ⟨⟨congrArg (fun z => Outcome.returned (some (Value.int z.1))) hu, by rw [ht, ← hu]; exact hP⟩, hS.F ht⟩) hS.2.2 dX5_bestLag_104
      have h := o_f h c4
      refine lv_aload_n hx hb dX5_bestLag_31 rfl (lv_at hl 0 rfl) ?_
      refine va_get (D := (dC, dI)) (ci := 5) (v := .ref (a 15)) (C := RX5) (T := TX5) (N := 6) hx hb huX5 (fun _ h9 => h9) hown hK hP 0 rfl rfl 2 (by decide) w19 (fun _ h9 => h9) rfl dX5_bestLag_32 ?_
      refine lv_aload_n hx hb dX5_bestLag_35 rfl (lv_at hl 0 rfl) ?_
      refine va_get (D := (dC, dI)) (ci := 5) (v := .ref (a 1)) (C := RX5) (T := TX5) (N := 6) hx hb huX5 (fun _ h9 => h9) hown hK hP 0 rfl rfl 0 (by decide) w10 (fun _ h9 => h9) rfl dX5_bestLag_36 ?_
      obtain ⟨v5, g6, h⟩ := o_b h
      refine k_rwL (va_runV (As := [.ref (a 1)]) (rest := []) ⟨hx, hb, hml, hown, hts⟩ (c_X2_copyFrom l dC dI cI cF (fun i => a (i + 15)) (fun i => a (i + 1)) (g_X5_trial S) (g_X5_frame S) v5 g6 H.size) (cwV 1 hts gX5_bestLag_X2_copyFrom rfl rfl rfl (by decide +kernel) ⟨Nat.le_of_ble_eq_true rfl, Nat.le_of_ble_eq_true rfl⟩) (k_preLw (q0 := 0) (ci := 2) hK hP hD (LN_sw (LX5_frame_trial a cI cF S (g_X5_frame S) v5)) rfl rfl rfl) rfl rfl hl.1 rfl (lv_room (Nat.le_of_ble_eq_true rfl)) dX5_bestLag_39 ⟨Nat.zero_le _, Nat.zero_le _⟩) (st1 := []) rfl hP hD hS hA (wn := wX5 a cI cF (s_X5_trial S v5)) (LN_sw (LX5_frame_trial a cI cF S (g_X5_frame S) v5)) (fun H locs hP hD hS => ?_)
      refine lv_aload_n hx hb dX5_bestLag_42 rfl (lv_at hl 0 rfl) ?_
      refine va_get (D := (dC, dI)) (ci := 5) (v := .ref (a 15)) (C := RX5) (T := TX5) (N := 6) hx hb huX5 (fun _ h9 => h9) hown hK hP 0 rfl rfl 2 (by decide) w19 (fun _ h9 => h9) rfl dX5_bestLag_43 ?_
      refine lv_iconst (v := (0 : Int32)) hx hb dX5_bestLag_46 (by decide) ?_
      refine lv_iload hx hb dX5_bestLag_47 (lv_at hl 4 rfl) ?_
      obtain ⟨v7, g8, h⟩ := o_b h
      refine k_rwL (va_runV (As := [.int (0 : Int32), .int y4]) (rest := []) ⟨hx, hb, hml, hown, hts⟩ (c_X2_changeSetting l dC dI cI cF (fun i => a (i + 15)) v5 (0 : Int32) y4 v7 g8 H.size) (cwV 2 hts gX5_bestLag_X2_changeSetting rfl rfl rfl (by decide +kernel) ⟨Nat.le_of_ble_eq_true rfl, Nat.le_of_ble_eq_true rfl⟩) (k_preLw (q0 := 0) (ci := 2) hK hP hD (LX5_trial a cI cF (s_X5_trial S v5) v7 (LN_id (fX2 (fun i => a (i + 15)) cI cF v5 v7))) rfl rfl rfl) rfl rfl hl.1 rfl (lv_room (Nat.le_of_ble_eq_true rfl)) dX5_bestLag_49 ⟨Nat.zero_le _, Nat.zero_le _⟩) (st1 := []) rfl hP hD hS hA (wn := wX5 a cI cF (s_X5_trial S v7)) (LX5_trial a cI cF (s_X5_trial S v5) v7 (LN_id (fX2 (fun i => a (i + 15)) cI cF v5 v7))) (fun H locs hP hD hS => ?_)
      refine lv_aload_n hx hb dX5_bestLag_52 rfl (lv_at hl 0 rfl) ?_
      refine va_get (D := (dC, dI)) (ci := 5) (v := .ref (a 15)) (C := RX5) (T := TX5) (N := 6) hx hb huX5 (fun _ h9 => h9) hown hK hP 0 rfl rfl 2 (by decide) w19 (fun _ h9 => h9) rfl dX5_bestLag_53 ?_
      refine lv_iload_n hx hb dX5_bestLag_56 rfl (lv_at hl 1 rfl) ?_
      obtain ⟨v9, g10, h⟩ := o_b h
      refine k_rwL (va_runV (As := [.int y1]) (rest := []) ⟨hx, hb, hml, hown, hts⟩ (c_X2_advance l dC dI cI cF (fun i => a (i + 15)) v7 y1 v9 g10 H.size) (cwV 1 hts gX5_bestLag_X2_advance rfl rfl rfl (by decide +kernel) ⟨Nat.le_of_ble_eq_true rfl, Nat.le_of_ble_eq_true rfl⟩) (k_preLw (q0 := 0) (ci := 2) hK hP hD (LX5_trial a cI cF (s_X5_trial S v7) v9.2 (LN_id (fX2 (fun i => a (i + 15)) cI cF v7 v9.2))) rfl rfl rfl) rfl rfl hl.1 rfl (lv_room (Nat.le_of_ble_eq_true rfl)) dX5_bestLag_57 ⟨Nat.zero_le _, Nat.zero_le _⟩) (st1 := [.int v9.1]) rfl hP hD hS hA (wn := wX5 a cI cF (s_X5_trial S v9.2)) (LX5_trial a cI cF (s_X5_trial S v7) v9.2 (LN_id (fX2 (fun i => a (i + 15)) cI cF v7 v9.2))) (fun H locs hP hD hS => ?_)
      refine lv_pop hx hb dX5_bestLag_60 rfl ?_
      refine lv_aload_n hx hb dX5_bestLag_61 rfl (lv_at hl 0 rfl) ?_
      refine va_get (D := (dC, dI)) (ci := 5) (v := .ref (a 15)) (C := RX5) (T := TX5) (N := 6) hx hb huX5 (fun _ h9 => h9) hown hK hP 0 rfl rfl 2 (by decide) w19 (fun _ h9 => h9) rfl dX5_bestLag_62 ?_
      refine va_get (D := (dC, dI)) (ci := 2) (v := .ref (a 16)) (C := RX2) (T := TX2) (N := 12) hx hb huX2 (fun _ h9 => h9) hown hK hP 15 rfl rfl 0 (by decide) w60 (fun _ h9 => h9) rfl dX5_bestLag_65 ?_
      refine lv_aload_n hx hb dX5_bestLag_68 rfl (lv_at hl 0 rfl) ?_
      refine va_get (D := (dC, dI)) (ci := 5) (v := .ref (a 15)) (C := RX5) (T := TX5) (N := 6) hx hb huX5 (fun _ h9 => h9) hown hK hP 0 rfl rfl 2 (by decide) w19 (fun _ h9 => h9) rfl dX5_bestLag_69 ?_
      refine va_get (D := (dC, dI)) (ci := 2) (v := .int (g_X2_taker v9.2)) (C := RX2) (T := TX2) (N := 12) hx hb huX2 (fun _ h9 => h9) hown hK hP 15 rfl rfl 4 (by decide) w124 (fun _ h9 => h9) rfl dX5_bestLag_72 ?_
      obtain ⟨v11, g12, h⟩ := o_b h
      refine k_ro (va_runV (As := [.int (g_X2_taker v9.2)]) (rest := []) ⟨hx, hb, hml, hown, hts⟩ (c_X0_stepsOf l dC dI cI cF (fun i => a (i + 16)) (g_X2_cans v9.2) (g_X2_taker v9.2) v11 g12) (cwV 1 hts gX5_bestLag_X0_stepsOf rfl rfl rfl (by decide +kernel) ⟨Nat.le_of_ble_eq_true rfl, Nat.le_of_ble_eq_true rfl⟩) (k_preL (q0 := 0) (ci := 0) hK hP (LX5_trial a cI cF (s_X5_trial S v9.2) (s_X2_cans v9.2 (g_X2_cans v9.2)) (LX2_cans (fun i => a (i + 15)) cI cF v9.2 (g_X2_cans v9.2) (LN_id (fX0 (fun i => a (i + 16)) cI cF (g_X2_cans v9.2) (g_X2_cans v9.2))))) rfl rfl rfl) rfl rfl hl.1 rfl (lv_room (Nat.le_of_ble_eq_true rfl)) dX5_bestLag_75 ⟨Nat.zero_le _, Nat.zero_le _⟩) (st1 := [.int v11]) rfl ?_
      refine lv_istore (lv' := [(5, .int v11), (0, .ref (a 0)), (1, .int y1), (2, .int y2), (3, .int y3), (4, .int y4)]) hx hb dX5_bestLag_78 hl (by decide) rfl (fun ls hl => ?_)
      refine lv_iload hx hb dX5_bestLag_80 (lv_at hl 5 rfl) ?_
      refine lv_if_eq (tgt := 91) hx hb dX5_bestLag_82 (by decide) (fun c13 => ?_) (fun c13 => ?_)
      · have h := o_t h c13
        refine lv_iload hx hb dX5_bestLag_91 (lv_at hl 0 rfl) ?_
        refine lv_istore_n (lv' := [(3, .int v11), (5, .int v11), (0, .ref (a 0)), (1, .int y1), (2, .int y2), (4, .int y4)]) hx hb dX5_bestLag_93 rfl hl (by decide) rfl (fun ls hl => ?_)
        refine lv_iload hx hb dX5_bestLag_94 (lv_at hl 5 rfl) ?_
        refine lv_istore_n (lv' := [(2, .int y4), (3, .int v11), (5, .int v11), (0, .ref (a 0)), (1, .int y1), (4, .int y4)]) hx hb dX5_bestLag_96 rfl hl (by decide) rfl (fun ls hl => ?_)
        obtain ⟨x4_14, e15, h⟩ := o_n h
        refine lv_iinc (v := x4_14) (lv' := [(4, .int x4_14), (2, .int y4), (3, .int v11), (5, .int v11), (0, .ref (a 0)), (1, .int y1)]) hx hb dX5_bestLag_97 hl (k := 5) rfl (by rw [e15]; rfl) (by decide) rfl (fun ls hl => ?_)
        refine lv_goto (tgt := 24) hx hb dX5_bestLag_100 (by decide) ?_
        exact ih24 _ _ _ _ _ h _ _ hP hD hS _ (lv_sub hl [4, 5, 1, 2, 0] rfl)
      have h := o_f h c13
      refine lv_iload hx hb dX5_bestLag_85 (lv_at hl 0 rfl) ?_
      refine lv_iload_n hx hb dX5_bestLag_87 rfl (lv_at hl 4 rfl) ?_
      refine lv_icmp_ge (tgt := 97) hx hb dX5_bestLag_88 (by decide) (fun c16 => ?_) (fun c16 => ?_)
      · have h := o_t h c16
        obtain ⟨x4_17, e18, h⟩ := o_n h
        refine lv_iinc (v := x4_17) (lv' := [(4, .int x4_17), (5, .int v11), (0, .ref (a 0)), (1, .int y1), (2, .int y2), (3, .int y3)]) hx hb dX5_bestLag_97 hl (k := 5) rfl (by rw [e18]; rfl) (by decide) rfl (fun ls hl => ?_)
        refine lv_goto (tgt := 24) hx hb dX5_bestLag_100 (by decide) ?_
        exact ih24 _ _ _ _ _ h _ _ hP hD hS _ (lv_sub hl [2, 3, 4, 5, 0] rfl)
      have h := o_f h c16
      refine lv_iload hx hb dX5_bestLag_91 (lv_at hl 0 rfl) ?_
      refine lv_istore_n (lv' := [(3, .int v11), (5, .int v11), (0, .ref (a 0)), (1, .int y1), (2, .int y2), (4, .int y4)]) hx hb dX5_bestLag_93 rfl hl (by decide) rfl (fun ls hl => ?_)
      refine lv_iload hx hb dX5_bestLag_94 (lv_at hl 5 rfl) ?_
      refine lv_istore_n (lv' := [(2, .int y4), (3, .int v11), (5, .int v11), (0, .ref (a 0)), (1, .int y1), (4, .int y4)]) hx hb dX5_bestLag_96 rfl hl (by decide) rfl (fun ls hl => ?_)
      obtain ⟨x4_19, e20, h⟩ := o_n h
      refine lv_iinc (v := x4_19) (lv' := [(4, .int x4_19), (2, .int y4), (3, .int v11), (5, .int v11), (0, .ref (a 0)), (1, .int y1)]) hx hb dX5_bestLag_97 hl (k := 5) rfl (by rw [e20]; rfl) (by decide) rfl (fun ls hl => ?_)
      refine lv_goto (tgt := 24) hx hb dX5_bestLag_100 (by decide) ?_
      exact ih24 _ _ _ _ _ h _ _ hP hD hS _ (lv_sub hl [4, 5, 1, 2, 0] rfl)
  have hl := lv_entry ([.ref (a 0), .int x1]) (n := 6) (Nat.le_of_ble_eq_true rfl)
  rw [lg_entry_eq]
  generalize (lg_sl ([.ref (a 0), .int x1]) ++ List.replicate (6 - (lg_sl ([.ref (a 0), .int x1])).length) Slot.unset).toArray = ls at hl ⊢
  have hl : lv_has ls 6 [(0, .ref (a 0)), (1, .int x1)] := hl
  rw [m_X5_bestLag] at h
  refine lv_iload_n hx hb dX5_bestLag_0 rfl (lv_at hl 1 rfl) ?_
  obtain ⟨v1, g2, h⟩ := o_b h
  refine k_ro (va_runS (As := [.int x1]) (rest := []) ⟨hx, hb, hml, hown, hts⟩ (c_X5_isRunLength l dC dI cI cF x1 v1 g2) (va_cwS 1 hts gX5_bestLag_X5_isRunLength rfl rfl rfl (by decide +kernel) ⟨Nat.le_of_ble_eq_true rfl, Nat.le_of_ble_eq_true rfl⟩) (k_prePU) rfl rfl hl.1 rfl (lv_room (Nat.le_of_ble_eq_true rfl)) dX5_bestLag_1 ⟨Nat.zero_le _, Nat.zero_le _⟩) (st1 := [.int v1]) rfl ?_
  refine lv_if_ne (tgt := 17) hx hb dX5_bestLag_4 (by decide) (fun c3 => ?_) (fun c3 => ?_)
  rotate_left
  · have h := o_t h c3
    cases h
  have h := o_f h c3
  refine lv_iconst (v := (0 : Int32)) hx hb dX5_bestLag_17 (by decide) ?_
  refine lv_istore_n (lv' := [(2, .int (0 : Int32)), (0, .ref (a 0)), (1, .int x1)]) hx hb dX5_bestLag_18 rfl hl (by decide) rfl (fun ls hl => ?_)
  refine lv_iconst (v := (0 : Int32)) hx hb dX5_bestLag_19 (by decide) ?_
  refine lv_istore_n (lv' := [(3, .int (0 : Int32)), (2, .int (0 : Int32)), (0, .ref (a 0)), (1, .int x1)]) hx hb dX5_bestLag_20 rfl hl (by decide) rfl (fun ls hl => ?_)
  refine lv_iconst (v := (0 : Int32)) hx hb dX5_bestLag_21 (by decide) ?_
  refine lv_istore (lv' := [(4, .int (0 : Int32)), (3, .int (0 : Int32)), (2, .int (0 : Int32)), (0, .ref (a 0)), (1, .int x1)]) hx hb dX5_bestLag_22 hl (by decide) rfl (fun ls hl => ?_)
  exact L24 _ _ _ _ _ _ h _ _ hP hD hS _ (lv_sub hl [3, 4, 2, 1, 0] rfl)

