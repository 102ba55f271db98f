-- X5_tip X5_out X5_run X5_set
def m_X5_tip (S : S_X5) (x1 : Int32) : Option ((Nat × S_X5) ⊕ (Int32 × S_X5)) := (m_X5_isCan x1).bind fun v1 => (if v1 = 0 then (some (.inl (1, S))) else ((m_X3_save (g_X5_history S) (g_X5_frame S)).bind fun v4 => ((m_X0_sizeOf (g_X2_cans (g_X5_frame S)) x1).bind fun v6 => ((m_X0_sumOf (g_X2_cans (g_X5_frame S)) x1).bind fun v8 => ((m_X0_makeEmpty (g_X2_cans (g_X5_frame S)) x1).bind fun v10 => (some (.inr (v6, s_X5_history (s_X5_frame S (s_X2_waste (s_X2_cans (g_X5_frame S) v10) ((g_X2_waste (g_X5_frame S)) + v8))) v4))))))))
set_option maxHeartbeats 4000000 in
set_option maxRecDepth 100000 in
theorem c_X5_tip (l : Launch) (dC : Nat → ClassId) (dI : Nat → Nat → Nat) (cI cF : ClassId) (a : Nat → Nat) (S : S_X5) (x1 : Int32) (u : Int32 × S_X5) (h : m_X5_tip S x1 = some (.inr u)) : cRW l (dC, dI) cI cF yX5_tip wsX5_tip ({ frames := 4, cells := 0, slots := 0, locals := 124 } : Room) [.ref (a 0), .int x1] (wX5 a cI cF S) (wX5 a cI cF u.2) (some (.int u.1)) := by
  intro sz
  refine Met.ofW (cc := cX5_tip) (maxL := 3) (ret := (some .int)) (by decide) rfl ?_
  intro p e s m args below meth c s₁ B hml hv
  obtain ⟨hargs, hsz, hP, hK, hD0⟩ := hv
  subst hargs
  have hx := B.exec
  have hb := B.bytes
  have hr := B.returns
  have hts := atoms_spec (ws := wsX5_tip) B.pre
  have hown : s.vm.findClass RX5 = some m.cls := findClass_of_methodNamed B.named
  have hlocks := B.notSynchronized
  have w10 := hts (.fieldLink RX5 10 "DrawnSlivers" "frame" "LDrawnSlivers$Frame;") (List.mem_of_getElem? (i := 4) rfl)
  have w103 := hts (.methodLink RX5 103 yX0_sumOf) (List.mem_of_getElem? (i := 70) rfl)
  have w106 := hts (.methodLink RX5 106 yX0_makeEmpty) (List.mem_of_getElem? (i := 79) rfl)
  have w25 := hts (.fieldLink RX5 25 "DrawnSlivers" "history" "LDrawnSlivers$History;") (List.mem_of_getElem? (i := 3) rfl)
  have w40 := hts (.methodLink RX5 40 yX5_isCan) (List.mem_of_getElem? (i := 7) rfl)
  have w60 := hts (.fieldLink RX5 60 "DrawnSlivers$Frame" "cans" "LDrawnSlivers$Cans;") (List.mem_of_getElem? (i := 5) rfl)
  have w64 := hts (.methodLink RX5 64 yX0_sizeOf) (List.mem_of_getElem? (i := 66) rfl)
  have w79 := hts (.methodLink RX5 79 yX3_save) (List.mem_of_getElem? (i := 11) rfl)
  have w99 := hts (.fieldLink RX5 99 "DrawnSlivers$Frame" "waste" "I") (List.mem_of_getElem? (i := 6) rfl)
  have huX2 : ∀ w ∈ u_ws RX2 TX2 12, w.before _ s = true := fun w h => hts w (List.mem_cons_of_mem _ (List.mem_append_left _ (List.mem_append_left _ (List.mem_append_left _ (List.mem_append_left _ (List.mem_append_right _ (h)))))))
  have huX5 : ∀ w ∈ u_ws RX5 TX5 6, w.before _ s = true := fun w h => hts w (List.mem_cons_of_mem _ (List.mem_append_left _ (List.mem_append_left _ (List.mem_append_left _ (List.mem_append_left _ (List.mem_append_left _ (List.mem_append_right _ (h))))))))
  subst hsz
  have hD := hD0.self (sz := s.heap.size)
  generalize hAe : va_A (wX5 a cI cF S) s.heap.size = A at hD ⊢
  have hA : ∀ q : Nat, s.heap.size ≤ q → A q := fun q h => by rw [← hAe]; exact Or.inr h
  have hS : va_S A s.heap s.heap [] := va_S.rf
  have hl := lv_entry ([.ref (a 0), .int x1]) (n := 3) (Nat.le_of_ble_eq_true rfl)
  rw [lg_entry_eq]
  generalize (lg_sl ([.ref (a 0), .int x1]) ++ List.replicate (3 - (lg_sl ([.ref (a 0), .int x1])).length) Slot.unset).toArray = ls at hl ⊢
  have hl : lv_has ls 3 [(0, .ref (a 0)), (1, .int x1)] := hl
  rw [m_X5_tip] at h
  refine lv_iload_n hx hb dX5_tip_0 rfl (lv_at hl 1 rfl) ?_
  obtain ⟨v1, g2, h⟩ := o_b h
  refine k_ro (va_runS (As := [.int x1]) (rest := []) ⟨hx, hb, hml, hown, hts⟩ (c_X5_isCan l dC dI cI cF x1 v1 g2) (va_cwS 1 hts gX5_tip_X5_isCan rfl rfl rfl (by decide +kernel) ⟨Nat.le_of_ble_eq_true rfl, Nat.le_of_ble_eq_true rfl⟩) (k_prePU) rfl rfl hl.1 rfl (lv_room (Nat.le_of_ble_eq_true rfl)) dX5_tip_1 ⟨Nat.zero_le _, Nat.zero_le _⟩) (st1 := [.int v1]) rfl ?_
  refine lv_if_ne (tgt := 17) hx hb dX5_tip_4 (by decide) (fun c3 => ?_) (fun c3 => ?_)
  rotate_left
  · have h := o_t h c3
    cases h
  have h := o_f h c3
  refine lv_aload_n hx hb dX5_tip_17 rfl (lv_at hl 0 rfl) ?_
  refine va_get (D := (dC, dI)) (ci := 5) (v := .ref (a 26)) (C := RX5) (T := TX5) (N := 6) hx hb huX5 (fun _ h9 => h9) hown hK hP 0 rfl rfl 3 (by decide) w25 (fun _ h9 => h9) rfl dX5_tip_18 ?_
  refine lv_aload_n hx hb dX5_tip_21 rfl (lv_at hl 0 rfl) ?_
  refine va_get (D := (dC, dI)) (ci := 5) (v := .ref (a 1)) (C := RX5) (T := TX5) (N := 6) hx hb huX5 (fun _ h9 => h9) hown hK hP 0 rfl rfl 0 (by decide) w10 (fun _ h9 => h9) rfl dX5_tip_22 ?_
  obtain ⟨v4, g5, h⟩ := o_b h
  refine k_rwL (va_runV (As := [.ref (a 1)]) (rest := []) ⟨hx, hb, hml, hown, hts⟩ (c_X3_save l dC dI cI cF (fun i => a (i + 26)) (fun i => a (i + 1)) (g_X5_history S) (g_X5_frame S) v4 g5 s.heap.size) (cwV 1 hts gX5_tip_X3_save rfl rfl rfl (by decide +kernel) ⟨Nat.le_of_ble_eq_true rfl, Nat.le_of_ble_eq_true rfl⟩) (k_preLw (q0 := 0) (ci := 3) hK hP hD (LN_sw (LX5_frame_history a cI cF S (g_X5_frame S) v4)) rfl rfl rfl) rfl rfl hl.1 rfl (lv_room (Nat.le_of_ble_eq_true rfl)) dX5_tip_25 ⟨Nat.zero_le _, Nat.zero_le _⟩) (st1 := []) rfl hP hD hS hA (wn := wX5 a cI cF (s_X5_history S v4)) (LN_sw (LX5_frame_history a cI cF S (g_X5_frame S) v4)) (fun H locs hP hD hS => ?_)
  refine lv_aload_n hx hb dX5_tip_28 rfl (lv_at hl 0 rfl) ?_
  refine va_get (D := (dC, dI)) (ci := 5) (v := .ref (a 1)) (C := RX5) (T := TX5) (N := 6) hx hb huX5 (fun _ h9 => h9) hown hK hP 0 rfl rfl 0 (by decide) w10 (fun _ h9 => h9) rfl dX5_tip_29 ?_
  refine va_get (D := (dC, dI)) (ci := 2) (v := .ref (a 2)) (C := RX2) (T := TX2) (N := 12) hx hb huX2 (fun _ h9 => h9) hown hK hP 1 rfl rfl 0 (by decide) w60 (fun _ h9 => h9) rfl dX5_tip_32 ?_
  refine lv_iload_n hx hb dX5_tip_35 rfl (lv_at hl 1 rfl) ?_
  obtain ⟨v6, g7, h⟩ := o_b h
  refine k_ro (va_runV (As := [.int x1]) (rest := []) ⟨hx, hb, hml, hown, hts⟩ (c_X0_sizeOf l dC dI cI cF (fun i => a (i + 2)) (g_X2_cans (g_X5_frame S)) x1 v6 g7) (cwV 1 hts gX5_tip_X0_sizeOf rfl rfl rfl (by decide +kernel) ⟨Nat.le_of_ble_eq_true rfl, Nat.le_of_ble_eq_true rfl⟩) (k_preL (q0 := 0) (ci := 0) hK hP (LX5_frame a cI cF (s_X5_history S v4) (s_X2_cans (g_X5_frame S) (g_X2_cans (g_X5_frame S))) (LX2_cans (fun i => a (i + 1)) cI cF (g_X5_frame S) (g_X2_cans (g_X5_frame S)) (LN_id (fX0 (fun i => a (i + 2)) cI cF (g_X2_cans (g_X5_frame S)) (g_X2_cans (g_X5_frame S)))))) rfl rfl rfl) rfl rfl hl.1 rfl (lv_room (Nat.le_of_ble_eq_true rfl)) dX5_tip_36 ⟨Nat.zero_le _, Nat.zero_le _⟩) (st1 := [.int v6]) rfl ?_
  refine lv_istore_n (lv' := [(2, .int v6), (0, .ref (a 0)), (1, .int x1)]) hx hb dX5_tip_39 rfl hl (by decide) rfl (fun ls hl => ?_)
  refine lv_aload_n hx hb dX5_tip_40 rfl (lv_at hl 1 rfl) ?_
  refine va_get (D := (dC, dI)) (ci := 5) (v := .ref (a 1)) (C := RX5) (T := TX5) (N := 6) hx hb huX5 (fun _ h9 => h9) hown hK hP 0 rfl rfl 0 (by decide) w10 (fun _ h9 => h9) rfl dX5_tip_41 ?_
  refine lv_dup hx hb dX5_tip_44 rfl ?_
  refine va_get (D := (dC, dI)) (ci := 2) (v := .int (g_X2_waste (g_X5_frame S))) (C := RX2) (T := TX2) (N := 12) hx hb huX2 (fun _ h9 => h9) hown hK hP 1 rfl rfl 9 (by decide) w99 (fun _ h9 => h9) rfl dX5_tip_45 ?_
  refine lv_aload_n hx hb dX5_tip_48 rfl (lv_at hl 1 rfl) ?_
  refine va_get (D := (dC, dI)) (ci := 5) (v := .ref (a 1)) (C := RX5) (T := TX5) (N := 6) hx hb huX5 (fun _ h9 => h9) hown hK hP 0 rfl rfl 0 (by decide) w10 (fun _ h9 => h9) rfl dX5_tip_49 ?_
  refine va_get (D := (dC, dI)) (ci := 2) (v := .ref (a 2)) (C := RX2) (T := TX2) (N := 12) hx hb huX2 (fun _ h9 => h9) hown hK hP 1 rfl rfl 0 (by decide) w60 (fun _ h9 => h9) rfl dX5_tip_52 ?_
  refine lv_iload_n hx hb dX5_tip_55 rfl (lv_at hl 2 rfl) ?_
  obtain ⟨v8, g9, h⟩ := o_b h
  refine k_ro (va_runV (As := [.int x1]) (rest := [.int (g_X2_waste (g_X5_frame S)), .ref (a 1)]) ⟨hx, hb, hml, hown, hts⟩ (c_X0_sumOf l dC dI cI cF (fun i => a (i + 2)) (g_X2_cans (g_X5_frame S)) x1 v8 g9) (cwV 1 hts gX5_tip_X0_sumOf rfl rfl rfl (by decide +kernel) ⟨Nat.le_of_ble_eq_true rfl, Nat.le_of_ble_eq_true rfl⟩) (k_preL (q0 := 0) (ci := 0) hK hP (LX5_frame a cI cF (s_X5_history S v4) (s_X2_cans (g_X5_frame S) (g_X2_cans (g_X5_frame S))) (LX2_cans (fun i => a (i + 1)) cI cF (g_X5_frame S) (g_X2_cans (g_X5_frame S)) (LN_id (fX0 (fun i => a (i + 2)) cI cF (g_X2_cans (g_X5_frame S)) (g_X2_cans (g_X5_frame S)))))) rfl rfl rfl) rfl rfl hl.1 rfl (lv_room (Nat.le_of_ble_eq_true rfl)) dX5_tip_56 ⟨Nat.zero_le _, Nat.zero_le _⟩) (st1 := [.int v8, .int (g_X2_waste (g_X5_frame S)), .ref (a 1)]) rfl ?_
  refine lv_iadd hx hb dX5_tip_59 ?_
  refine va_put (D := (dC, dI)) (ci := 2) (v := .int ((g_X2_waste (g_X5_frame S)) + v8)) (ty := .int) (C := RX2) (T := TX2) (N := 12) hx hb huX2 (fun _ h9 => h9) tyX2 tyX2_ok nmX2 hown hK hP hD hS 1 rfl rfl 9 (by decide) w99 (fun _ h9 => h9) rfl (by decide +kernel) rfl rfl (Nat.le_of_ble_eq_true rfl) dX5_tip_60 (fun H locs hP2 hD2 hS => ?_)
  obtain ⟨hP, hD⟩ : va_P (dC, dI) vwCl (wX5 a cI cF (s_X5_history (s_X5_frame S (s_X2_waste (g_X5_frame S) ((g_X2_waste (g_X5_frame S)) + v8))) v4)) H ∧ va_D A (wX5 a cI cF (s_X5_history (s_X5_frame S (s_X2_waste (g_X5_frame S) ((g_X2_waste (g_X5_frame S)) + v8))) v4)) := LN.set (LX5_frame a cI cF (s_X5_history S v4) (s_X2_waste (g_X5_frame S) ((g_X2_waste (g_X5_frame S)) + v8)) (LX2_waste (fun i => a (i + 1)) cI cF (g_X5_frame S) ((g_X2_waste (g_X5_frame S)) + v8))) (p := 1) rfl rfl hD hP2 hD2
  refine lv_aload_n hx hb dX5_tip_63 rfl (lv_at hl 1 rfl) ?_
  refine va_get (D := (dC, dI)) (ci := 5) (v := .ref (a 1)) (C := RX5) (T := TX5) (N := 6) hx hb huX5 (fun _ h9 => h9) hown hK hP 0 rfl rfl 0 (by decide) w10 (fun _ h9 => h9) rfl dX5_tip_64 ?_
  refine va_get (D := (dC, dI)) (ci := 2) (v := .ref (a 2)) (C := RX2) (T := TX2) (N := 12) hx hb huX2 (fun _ h9 => h9) hown hK hP 1 rfl rfl 0 (by decide) w60 (fun _ h9 => h9) rfl dX5_tip_67 ?_
  refine lv_iload_n hx hb dX5_tip_70 rfl (lv_at hl 2 rfl) ?_
  obtain ⟨v10, g11, h⟩ := o_b h
  refine k_rwL (va_runV (As := [.int x1]) (rest := []) ⟨hx, hb, hml, hown, hts⟩ (c_X0_makeEmpty l dC dI cI cF (fun i => a (i + 2)) (g_X2_cans (g_X5_frame S)) x1 v10 g11 H.size) (cwV 1 hts gX5_tip_X0_makeEmpty rfl rfl rfl (by decide +kernel) ⟨Nat.le_of_ble_eq_true rfl, Nat.le_of_ble_eq_true rfl⟩) (k_preLw (q0 := 0) (ci := 0) hK hP hD (LX5_frame a cI cF (s_X5_history (s_X5_frame S (s_X2_waste (g_X5_frame S) ((g_X2_waste (g_X5_frame S)) + v8))) v4) (s_X2_cans (s_X2_waste (g_X5_frame S) ((g_X2_waste (g_X5_frame S)) + v8)) v10) (LX2_cans (fun i => a (i + 1)) cI cF (s_X2_waste (g_X5_frame S) ((g_X2_waste (g_X5_frame S)) + v8)) v10 (LN_id (fX0 (fun i => a (i + 2)) cI cF (g_X2_cans (g_X5_frame S)) v10)))) rfl rfl rfl) rfl rfl hl.1 rfl (lv_room (Nat.le_of_ble_eq_true rfl)) dX5_tip_71 ⟨Nat.zero_le _, Nat.zero_le _⟩) (st1 := []) rfl hP hD hS hA (wn := wX5 a cI cF (s_X5_history (s_X5_frame S (s_X2_waste (s_X2_cans (g_X5_frame S) v10) ((g_X2_waste (g_X5_frame S)) + v8))) v4)) (LX5_frame a cI cF (s_X5_history (s_X5_frame S (s_X2_waste (g_X5_frame S) ((g_X2_waste (g_X5_frame S)) + v8))) v4) (s_X2_cans (s_X2_waste (g_X5_frame S) ((g_X2_waste (g_X5_frame S)) + v8)) v10) (LX2_cans (fun i => a (i + 1)) cI cF (s_X2_waste (g_X5_frame S) ((g_X2_waste (g_X5_frame S)) + v8)) v10 (LN_id (fX0 (fun i => a (i + 2)) cI cF (g_X2_cans (g_X5_frame S)) v10)))) (fun H locs hP hD hS => ?_)
  refine lv_iload_n hx hb dX5_tip_74 rfl (lv_at hl 0 rfl) ?_
  have hu := Sum.inr.inj (Option.some.inj h)
  exact W.iret (v := v6) hx hb hr (fun t ht hW => ⟨⟨congrArg (fun z => Outcome.returned (some (Value.int z.1))) hu, by rw [ht, ← hu]; exact hP⟩, hS.F ht⟩) hS.2.2 dX5_tip_75

set_option maxHeartbeats 4000000 in
set_option maxRecDepth 100000 in
theorem c_X5_tip_x (l : Launch) (hfl : l.stackTraces = false) (dC : Nat → ClassId) (dI : Nat → Nat → Nat) (cI cF : ClassId) (a : Nat → Nat) (S : S_X5) (x1 : Int32) (u : Nat × S_X5) (h : m_X5_tip S x1 = some (.inl u)) : ∀ sz : Nat, vx_Met l yX5_tip wsX5_tip ({ frames := 6, cells := 1, slots := 6, locals := 124 } : Room) (va_Pc [.ref (a 0), .int x1] (pRWe (dC, dI) cI cF (wX5 a cI cF S) sz)) (fun _ _ _ _ => False) (qX (dC, dI) (wX5 a cI cF u.2) (xnm u.1) (va_A (wX5 a cI cF S) sz)) 1 6 (va_A (wX5 a cI cF S) sz) := by
  intro sz
  refine vx_ofW (cc := cX5_tip) (maxL := 3) (ret := (some .int)) (by decide) rfl ?_
  intro p e s m args below meth c s₁ B hml hnx hv
  obtain ⟨hargs, ⟨hsz, hP, hK, hD0⟩, hE⟩ := hv
  subst hargs
  have hx := B.exec
  have hb := B.bytes
  have hr := B.returns
  have hts := atoms_spec (ws := wsX5_tip) B.pre
  have hown : s.vm.findClass RX5 = some m.cls := findClass_of_methodNamed B.named
  have hlocks := B.notSynchronized
  have w10 := hts (.fieldLink RX5 10 "DrawnSlivers" "frame" "LDrawnSlivers$Frame;") (List.mem_of_getElem? (i := 4) rfl)
  have w103 := hts (.methodLink RX5 103 yX0_sumOf) (List.mem_of_getElem? (i := 70) rfl)
  have w106 := hts (.methodLink RX5 106 yX0_makeEmpty) (List.mem_of_getElem? (i := 79) rfl)
  have w25 := hts (.fieldLink RX5 25 "DrawnSlivers" "history" "LDrawnSlivers$History;") (List.mem_of_getElem? (i := 3) rfl)
  have w40 := hts (.methodLink RX5 40 yX5_isCan) (List.mem_of_getElem? (i := 7) rfl)
  have w44 := hts (.classLink RX5 44 "java/lang/IndexOutOfBoundsException") (List.mem_of_getElem? (i := 1) rfl)
  have w60 := hts (.fieldLink RX5 60 "DrawnSlivers$Frame" "cans" "LDrawnSlivers$Cans;") (List.mem_of_getElem? (i := 5) rfl)
  have w64 := hts (.methodLink RX5 64 yX0_sizeOf) (List.mem_of_getElem? (i := 66) rfl)
  have w79 := hts (.methodLink RX5 79 yX3_save) (List.mem_of_getElem? (i := 11) rfl)
  have w99 := hts (.fieldLink RX5 99 "DrawnSlivers$Frame" "waste" "I") (List.mem_of_getElem? (i := 6) rfl)
  have wix1 := hts (.initialized "java/lang/IndexOutOfBoundsException") (List.mem_of_getElem? (i := 2) rfl)
  have huX2 : ∀ w ∈ u_ws RX2 TX2 12, w.before _ s = true := fun w h => hts w (List.mem_cons_of_mem _ (List.mem_append_left _ (List.mem_append_left _ (List.mem_append_left _ (List.mem_append_left _ (List.mem_append_right _ (h)))))))
  have huX5 : ∀ w ∈ u_ws RX5 TX5 6, w.before _ s = true := fun w h => hts w (List.mem_cons_of_mem _ (List.mem_append_left _ (List.mem_append_left _ (List.mem_append_left _ (List.mem_append_left _ (List.mem_append_left _ (List.mem_append_right _ (h))))))))
  subst hsz
  have hD := hD0.self (sz := s.heap.size)
  generalize hAe : va_A (wX5 a cI cF S) s.heap.size = A at hD hE ⊢
  have hA : ∀ q : Nat, s.heap.size ≤ q → A q := fun q h => by rw [← hAe]; exact Or.inr h
  have hS : va_S A s.heap s.heap [] := va_S.rf
  have hl := lv_entry ([.ref (a 0), .int x1]) (n := 3) (Nat.le_of_ble_eq_true rfl)
  rw [lg_entry_eq]
  generalize (lg_sl ([.ref (a 0), .int x1]) ++ List.replicate (3 - (lg_sl ([.ref (a 0), .int x1])).length) Slot.unset).toArray = ls at hl ⊢
  have hl : lv_has ls 3 [(0, .ref (a 0)), (1, .int x1)] := hl
  rw [m_X5_tip] at h
  refine lv_iload_n hx hb dX5_tip_0 rfl (lv_at hl 1 rfl) ?_
  obtain ⟨v1, g2, h⟩ := o_b h
  refine k_ro (va_runS (As := [.int x1]) (rest := []) ⟨hx, hb, hml, hown, hts⟩ (c_X5_isCan l dC dI cI cF x1 v1 g2) (va_cwS 1 hts gX5_tip_X5_isCan rfl rfl rfl (by decide +kernel) ⟨Nat.le_of_ble_eq_true rfl, Nat.le_of_ble_eq_true rfl⟩) (k_prePU) rfl rfl hl.1 rfl (lv_room (Nat.le_of_ble_eq_true rfl)) dX5_tip_1 ⟨Nat.zero_le _, Nat.zero_le _⟩) (st1 := [.int v1]) rfl ?_
  refine lv_if_ne (tgt := 17) hx hb dX5_tip_4 (by decide) (fun c3 => ?_) (fun c3 => ?_)
  rotate_left
  · have h := o_t h c3
    have hu := Sum.inl.inj (Option.some.inj h)
    obtain ⟨sa, hsa⟩ := hE.2.1 (46, "no such can") (by decide)
    exact vx_throwS (own := RX5) (cls := "java/lang/IndexOutOfBoundsException") (text := "no such can") (names := ["java/lang/RuntimeException", "java/lang/Exception"]) (ik := 44) (is := 46) (ic := 48) (sa := sa) (A := A) hx hb hfl hown (by decide +kernel) (by decide +kernel) w44 wix1 hsa (vx_hat (fun w h => hts w (List.mem_cons_of_mem _ (List.mem_append_right _ (h)))) (B := xW) (by decide +kernel) (fun w h => va_Nw.use (xW_ot w h) (hE.2.2.1 w h))) (by decide +kernel) hE.1.1 hE.1.2 hS (by rw [hml]; exact hl.1) dX5_tip_7 dX5_tip_10 dX5_tip_11 dX5_tip_13 dX5_tip_16 (fun z hz => (hnx z hz).elim) (Nat.le_of_ble_eq_true rfl) (Nat.le_of_ble_eq_true rfl) (Nat.le_of_ble_eq_true rfl) (Nat.le_of_ble_eq_true rfl) hlocks (fun t hv hz hq => ⟨⟨by rw [← hu]; rfl, by rw [← hu]; exact k_Pkeep hP hq⟩, k_Fkeep hS hz hq⟩) hS.2.2 (Nat.le_refl _) (Nat.le_refl _)
  have h := o_f h c3
  refine lv_aload_n hx hb dX5_tip_17 rfl (lv_at hl 0 rfl) ?_
  refine va_get (D := (dC, dI)) (ci := 5) (v := .ref (a 26)) (C := RX5) (T := TX5) (N := 6) hx hb huX5 (fun _ h9 => h9) hown hK hP 0 rfl rfl 3 (by decide) w25 (fun _ h9 => h9) rfl dX5_tip_18 ?_
  refine lv_aload_n hx hb dX5_tip_21 rfl (lv_at hl 0 rfl) ?_
  refine va_get (D := (dC, dI)) (ci := 5) (v := .ref (a 1)) (C := RX5) (T := TX5) (N := 6) hx hb huX5 (fun _ h9 => h9) hown hK hP 0 rfl rfl 0 (by decide) w10 (fun _ h9 => h9) rfl dX5_tip_22 ?_
  obtain ⟨v4, g5, h⟩ := o_b h
  refine k_rwL (va_runV (As := [.ref (a 1)]) (rest := []) ⟨hx, hb, hml, hown, hts⟩ (c_X3_save l dC dI cI cF (fun i => a (i + 26)) (fun i => a (i + 1)) (g_X5_history S) (g_X5_frame S) v4 g5 s.heap.size) (cwV 1 hts gX5_tip_X3_save rfl rfl rfl (by decide +kernel) ⟨Nat.le_of_ble_eq_true rfl, Nat.le_of_ble_eq_true rfl⟩) (k_preLw (q0 := 0) (ci := 3) hK hP hD (LN_sw (LX5_frame_history a cI cF S (g_X5_frame S) v4)) rfl rfl rfl) rfl rfl hl.1 rfl (lv_room (Nat.le_of_ble_eq_true rfl)) dX5_tip_25 ⟨Nat.zero_le _, Nat.zero_le _⟩) (st1 := []) rfl hP hD hS hA (wn := wX5 a cI cF (s_X5_history S v4)) (LN_sw (LX5_frame_history a cI cF S (g_X5_frame S) v4)) (fun H locs hP hD hS => ?_)
  refine lv_aload_n hx hb dX5_tip_28 rfl (lv_at hl 0 rfl) ?_
  refine va_get (D := (dC, dI)) (ci := 5) (v := .ref (a 1)) (C := RX5) (T := TX5) (N := 6) hx hb huX5 (fun _ h9 => h9) hown hK hP 0 rfl rfl 0 (by decide) w10 (fun _ h9 => h9) rfl dX5_tip_29 ?_
  refine va_get (D := (dC, dI)) (ci := 2) (v := .ref (a 2)) (C := RX2) (T := TX2) (N := 12) hx hb huX2 (fun _ h9 => h9) hown hK hP 1 rfl rfl 0 (by decide) w60 (fun _ h9 => h9) rfl dX5_tip_32 ?_
  refine lv_iload_n hx hb dX5_tip_35 rfl (lv_at hl 1 rfl) ?_
  obtain ⟨v6, g7, h⟩ := o_b h
  refine k_ro (va_runV (As := [.int x1]) (rest := []) ⟨hx, hb, hml, hown, hts⟩ (c_X0_sizeOf l dC dI cI cF (fun i => a (i + 2)) (g_X2_cans (g_X5_frame S)) x1 v6 g7) (cwV 1 hts gX5_tip_X0_sizeOf rfl rfl rfl (by decide +kernel) ⟨Nat.le_of_ble_eq_true rfl, Nat.le_of_ble_eq_true rfl⟩) (k_preL (q0 := 0) (ci := 0) hK hP (LX5_frame a cI cF (s_X5_history S v4) (s_X2_cans (g_X5_frame S) (g_X2_cans (g_X5_frame S))) (LX2_cans (fun i => a (i + 1)) cI cF (g_X5_frame S) (g_X2_cans (g_X5_frame S)) (LN_id (fX0 (fun i => a (i + 2)) cI cF (g_X2_cans (g_X5_frame S)) (g_X2_cans (g_X5_frame S)))))) rfl rfl rfl) rfl rfl hl.1 rfl (lv_room (Nat.le_of_ble_eq_true rfl)) dX5_tip_36 ⟨Nat.zero_le _, Nat.zero_le _⟩) (st1 := [.int v6]) rfl ?_
  refine lv_istore_n (lv' := [(2, .int v6), (0, .ref (a 0)), (1, .int x1)]) hx hb dX5_tip_39 rfl hl (by decide) rfl (fun ls hl => ?_)
  refine lv_aload_n hx hb dX5_tip_40 rfl (lv_at hl 1 rfl) ?_
  refine va_get (D := (dC, dI)) (ci := 5) (v := .ref (a 1)) (C := RX5) (T := TX5) (N := 6) hx hb huX5 (fun _ h9 => h9) hown hK hP 0 rfl rfl 0 (by decide) w10 (fun _ h9 => h9) rfl dX5_tip_41 ?_
  refine lv_dup hx hb dX5_tip_44 rfl ?_
  refine va_get (D := (dC, dI)) (ci := 2) (v := .int (g_X2_waste (g_X5_frame S))) (C := RX2) (T := TX2) (N := 12) hx hb huX2 (fun _ h9 => h9) hown hK hP 1 rfl rfl 9 (by decide) w99 (fun _ h9 => h9) rfl dX5_tip_45 ?_
  refine lv_aload_n hx hb dX5_tip_48 rfl (lv_at hl 1 rfl) ?_
  refine va_get (D := (dC, dI)) (ci := 5) (v := .ref (a 1)) (C := RX5) (T := TX5) (N := 6) hx hb huX5 (fun _ h9 => h9) hown hK hP 0 rfl rfl 0 (by decide) w10 (fun _ h9 => h9) rfl dX5_tip_49 ?_
  refine va_get (D := (dC, dI)) (ci := 2) (v := .ref (a 2)) (C := RX2) (T := TX2) (N := 12) hx hb huX2 (fun _ h9 => h9) hown hK hP 1 rfl rfl 0 (by decide) w60 (fun _ h9 => h9) rfl dX5_tip_52 ?_
  refine lv_iload_n hx hb dX5_tip_55 rfl (lv_at hl 2 rfl) ?_
  obtain ⟨v8, g9, h⟩ := o_b h
  refine k_ro (va_runV (As := [.int x1]) (rest := [.int (g_X2_waste (g_X5_frame S)), .ref (a 1)]) ⟨hx, hb, hml, hown, hts⟩ (c_X0_sumOf l dC dI cI cF (fun i => a (i + 2)) (g_X2_cans (g_X5_frame S)) x1 v8 g9) (cwV 1 hts gX5_tip_X0_sumOf rfl rfl rfl (by decide +kernel) ⟨Nat.le_of_ble_eq_true rfl, Nat.le_of_ble_eq_true rfl⟩) (k_preL (q0 := 0) (ci := 0) hK hP (LX5_frame a cI cF (s_X5_history S v4) (s_X2_cans (g_X5_frame S) (g_X2_cans (g_X5_frame S))) (LX2_cans (fun i => a (i + 1)) cI cF (g_X5_frame S) (g_X2_cans (g_X5_frame S)) (LN_id (fX0 (fun i => a (i + 2)) cI cF (g_X2_cans (g_X5_frame S)) (g_X2_cans (g_X5_frame S)))))) rfl rfl rfl) rfl rfl hl.1 rfl (lv_room (Nat.le_of_ble_eq_true rfl)) dX5_tip_56 ⟨Nat.zero_le _, Nat.zero_le _⟩) (st1 := [.int v8, .int (g_X2_waste (g_X5_frame S)), .ref (a 1)]) rfl ?_
  refine lv_iadd hx hb dX5_tip_59 ?_
  refine va_put (D := (dC, dI)) (ci := 2) (v := .int ((g_X2_waste (g_X5_frame S)) + v8)) (ty := .int) (C := RX2) (T := TX2) (N := 12) hx hb huX2 (fun _ h9 => h9) tyX2 tyX2_ok nmX2 hown hK hP hD hS 1 rfl rfl 9 (by decide) w99 (fun _ h9 => h9) rfl (by decide +kernel) rfl rfl (Nat.le_of_ble_eq_true rfl) dX5_tip_60 (fun H locs hP2 hD2 hS => ?_)
  obtain ⟨hP, hD⟩ : va_P (dC, dI) vwCl (wX5 a cI cF (s_X5_history (s_X5_frame S (s_X2_waste (g_X5_frame S) ((g_X2_waste (g_X5_frame S)) + v8))) v4)) H ∧ va_D A (wX5 a cI cF (s_X5_history (s_X5_frame S (s_X2_waste (g_X5_frame S) ((g_X2_waste (g_X5_frame S)) + v8))) v4)) := LN.set (LX5_frame a cI cF (s_X5_history S v4) (s_X2_waste (g_X5_frame S) ((g_X2_waste (g_X5_frame S)) + v8)) (LX2_waste (fun i => a (i + 1)) cI cF (g_X5_frame S) ((g_X2_waste (g_X5_frame S)) + v8))) (p := 1) rfl rfl hD hP2 hD2
  refine lv_aload_n hx hb dX5_tip_63 rfl (lv_at hl 1 rfl) ?_
  refine va_get (D := (dC, dI)) (ci := 5) (v := .ref (a 1)) (C := RX5) (T := TX5) (N := 6) hx hb huX5 (fun _ h9 => h9) hown hK hP 0 rfl rfl 0 (by decide) w10 (fun _ h9 => h9) rfl dX5_tip_64 ?_
  refine va_get (D := (dC, dI)) (ci := 2) (v := .ref (a 2)) (C := RX2) (T := TX2) (N := 12) hx hb huX2 (fun _ h9 => h9) hown hK hP 1 rfl rfl 0 (by decide) w60 (fun _ h9 => h9) rfl dX5_tip_67 ?_
  refine lv_iload_n hx hb dX5_tip_70 rfl (lv_at hl 2 rfl) ?_
  obtain ⟨v10, g11, h⟩ := o_b h
  refine k_rwL (va_runV (As := [.int x1]) (rest := []) ⟨hx, hb, hml, hown, hts⟩ (c_X0_makeEmpty l dC dI cI cF (fun i => a (i + 2)) (g_X2_cans (g_X5_frame S)) x1 v10 g11 H.size) (cwV 1 hts gX5_tip_X0_makeEmpty rfl rfl rfl (by decide +kernel) ⟨Nat.le_of_ble_eq_true rfl, Nat.le_of_ble_eq_true rfl⟩) (k_preLw (q0 := 0) (ci := 0) hK hP hD (LX5_frame a cI cF (s_X5_history (s_X5_frame S (s_X2_waste (g_X5_frame S) ((g_X2_waste (g_X5_frame S)) + v8))) v4) (s_X2_cans (s_X2_waste (g_X5_frame S) ((g_X2_waste (g_X5_frame S)) + v8)) v10) (LX2_cans (fun i => a (i + 1)) cI cF (s_X2_waste (g_X5_frame S) ((g_X2_waste (g_X5_frame S)) + v8)) v10 (LN_id (fX0 (fun i => a (i + 2)) cI cF (g_X2_cans (g_X5_frame S)) v10)))) rfl rfl rfl) rfl rfl hl.1 rfl (lv_room (Nat.le_of_ble_eq_true rfl)) dX5_tip_71 ⟨Nat.zero_le _, Nat.zero_le _⟩) (st1 := []) rfl hP hD hS hA (wn := wX5 a cI cF (s_X5_history (s_X5_frame S (s_X2_waste (s_X2_cans (g_X5_frame S) v10) ((g_X2_waste (g_X5_frame S)) + v8))) v4)) (LX5_frame a cI cF (s_X5_history (s_X5_frame S (s_X2_waste (g_X5_frame S) ((g_X2_waste (g_X5_frame S)) + v8))) v4) (s_X2_cans (s_X2_waste (g_X5_frame S) ((g_X2_waste (g_X5_frame S)) + v8)) v10) (LX2_cans (fun i => a (i + 1)) cI cF (s_X2_waste (g_X5_frame S) ((g_X2_waste (g_X5_frame S)) + v8)) v10 (LN_id (fX0 (fun i => a (i + 2)) cI cF (g_X2_cans (g_X5_frame S)) v10)))) (fun H locs hP hD hS => ?_)
  refine lv_iload_n hx hb dX5_tip_74 rfl (lv_at hl 0 rfl) ?_
  cases h

def m_X5_out (S : S_X5) (x1 : Int32) : Option ((Nat × S_X5) ⊕ (Int32 × S_X5)) := (m_X5_isCan x1).bind fun v1 => (if v1 = 0 then (some (.inl (1, S))) else ((m_X3_save (g_X5_history S) (g_X5_frame S)).bind fun v4 => (nmL (g_X2_taker (g_X5_frame S)) fun x2_6 => (some (.inr (x2_6, s_X5_history (s_X5_frame S (s_X2_taker (g_X5_frame S) x1)) v4))))))
set_option maxHeartbeats 4000000 in
set_option maxRecDepth 100000 in
theorem c_X5_out (l : Launch) (dC : Nat → ClassId) (dI : Nat → Nat → Nat) (cI cF : ClassId) (a : Nat → Nat) (S : S_X5) (x1 : Int32) (u : Int32 × S_X5) (h : m_X5_out S x1 = some (.inr u)) : cRW l (dC, dI) cI cF yX5_out wsX5_out ({ frames := 4, cells := 0, slots := 0, locals := 124 } : Room) [.ref (a 0), .int x1] (wX5 a cI cF S) (wX5 a cI cF u.2) (some (.int u.1)) := by
  intro sz
  refine Met.ofW (cc := cX5_out) (maxL := 3) (ret := (some .int)) (by decide) rfl ?_
  intro p e s m args below meth c s₁ B hml hv
  obtain ⟨hargs, hsz, hP, hK, hD0⟩ := hv
  subst hargs
  have hx := B.exec
  have hb := B.bytes
  have hr := B.returns
  have hts := atoms_spec (ws := wsX5_out) B.pre
  have hown : s.vm.findClass RX5 = some m.cls := findClass_of_methodNamed B.named
  have hlocks := B.notSynchronized
  have w10 := hts (.fieldLink RX5 10 "DrawnSlivers" "frame" "LDrawnSlivers$Frame;") (List.mem_of_getElem? (i := 4) rfl)
  have w124 := hts (.fieldLink RX5 124 "DrawnSlivers$Frame" "taker" "I") (List.mem_of_getElem? (i := 5) rfl)
  have w25 := hts (.fieldLink RX5 25 "DrawnSlivers" "history" "LDrawnSlivers$History;") (List.mem_of_getElem? (i := 3) rfl)
  have w40 := hts (.methodLink RX5 40 yX5_isCan) (List.mem_of_getElem? (i := 6) rfl)
  have w79 := hts (.methodLink RX5 79 yX3_save) (List.mem_of_getElem? (i := 10) rfl)
  have huX2 : ∀ w ∈ u_ws RX2 TX2 12, w.before _ s = true := fun w h => hts w (List.mem_cons_of_mem _ (List.mem_append_left _ (List.mem_append_left _ (List.mem_append_left _ (List.mem_append_left _ (List.mem_append_right _ (h)))))))
  have huX5 : ∀ w ∈ u_ws RX5 TX5 6, w.before _ s = true := fun w h => hts w (List.mem_cons_of_mem _ (List.mem_append_left _ (List.mem_append_left _ (List.mem_append_left _ (List.mem_append_left _ (List.mem_append_left _ (List.mem_append_right _ (h))))))))
  subst hsz
  have hD := hD0.self (sz := s.heap.size)
  generalize hAe : va_A (wX5 a cI cF S) s.heap.size = A at hD ⊢
  have hA : ∀ q : Nat, s.heap.size ≤ q → A q := fun q h => by rw [← hAe]; exact Or.inr h
  have hS : va_S A s.heap s.heap [] := va_S.rf
  have hl := lv_entry ([.ref (a 0), .int x1]) (n := 3) (Nat.le_of_ble_eq_true rfl)
  rw [lg_entry_eq]
  generalize (lg_sl ([.ref (a 0), .int x1]) ++ List.replicate (3 - (lg_sl ([.ref (a 0), .int x1])).length) Slot.unset).toArray = ls at hl ⊢
  have hl : lv_has ls 3 [(0, .ref (a 0)), (1, .int x1)] := hl
  rw [m_X5_out] at h
  refine lv_iload_n hx hb dX5_out_0 rfl (lv_at hl 1 rfl) ?_
  obtain ⟨v1, g2, h⟩ := o_b h
  refine k_ro (va_runS (As := [.int x1]) (rest := []) ⟨hx, hb, hml, hown, hts⟩ (c_X5_isCan l dC dI cI cF x1 v1 g2) (va_cwS 1 hts gX5_out_X5_isCan rfl rfl rfl (by decide +kernel) ⟨Nat.le_of_ble_eq_true rfl, Nat.le_of_ble_eq_true rfl⟩) (k_prePU) rfl rfl hl.1 rfl (lv_room (Nat.le_of_ble_eq_true rfl)) dX5_out_1 ⟨Nat.zero_le _, Nat.zero_le _⟩) (st1 := [.int v1]) rfl ?_
  refine lv_if_ne (tgt := 17) hx hb dX5_out_4 (by decide) (fun c3 => ?_) (fun c3 => ?_)
  rotate_left
  · have h := o_t h c3
    cases h
  have h := o_f h c3
  refine lv_aload_n hx hb dX5_out_17 rfl (lv_at hl 0 rfl) ?_
  refine va_get (D := (dC, dI)) (ci := 5) (v := .ref (a 26)) (C := RX5) (T := TX5) (N := 6) hx hb huX5 (fun _ h9 => h9) hown hK hP 0 rfl rfl 3 (by decide) w25 (fun _ h9 => h9) rfl dX5_out_18 ?_
  refine lv_aload_n hx hb dX5_out_21 rfl (lv_at hl 0 rfl) ?_
  refine va_get (D := (dC, dI)) (ci := 5) (v := .ref (a 1)) (C := RX5) (T := TX5) (N := 6) hx hb huX5 (fun _ h9 => h9) hown hK hP 0 rfl rfl 0 (by decide) w10 (fun _ h9 => h9) rfl dX5_out_22 ?_
  obtain ⟨v4, g5, h⟩ := o_b h
  refine k_rwL (va_runV (As := [.ref (a 1)]) (rest := []) ⟨hx, hb, hml, hown, hts⟩ (c_X3_save l dC dI cI cF (fun i => a (i + 26)) (fun i => a (i + 1)) (g_X5_history S) (g_X5_frame S) v4 g5 s.heap.size) (cwV 1 hts gX5_out_X3_save rfl rfl rfl (by decide +kernel) ⟨Nat.le_of_ble_eq_true rfl, Nat.le_of_ble_eq_true rfl⟩) (k_preLw (q0 := 0) (ci := 3) hK hP hD (LN_sw (LX5_frame_history a cI cF S (g_X5_frame S) v4)) rfl rfl rfl) rfl rfl hl.1 rfl (lv_room (Nat.le_of_ble_eq_true rfl)) dX5_out_25 ⟨Nat.zero_le _, Nat.zero_le _⟩) (st1 := []) rfl hP hD hS hA (wn := wX5 a cI cF (s_X5_history S v4)) (LN_sw (LX5_frame_history a cI cF S (g_X5_frame S) v4)) (fun H locs hP hD hS => ?_)
  refine lv_aload_n hx hb dX5_out_28 rfl (lv_at hl 0 rfl) ?_
  refine va_get (D := (dC, dI)) (ci := 5) (v := .ref (a 1)) (C := RX5) (T := TX5) (N := 6) hx hb huX5 (fun _ h9 => h9) hown hK hP 0 rfl rfl 0 (by decide) w10 (fun _ h9 => h9) rfl dX5_out_29 ?_
  refine va_get (D := (dC, dI)) (ci := 2) (v := .int (g_X2_taker (g_X5_frame S))) (C := RX2) (T := TX2) (N := 12) hx hb huX2 (fun _ h9 => h9) hown hK hP 1 rfl rfl 4 (by decide) w124 (fun _ h9 => h9) rfl dX5_out_32 ?_
  obtain ⟨x2_6, e7, h⟩ := o_n h
  refine lv_nmi e7 ?_
  refine lv_istore_n (lv' := [(2, .int x2_6), (0, .ref (a 0)), (1, .int x1)]) hx hb dX5_out_35 rfl hl (by decide) rfl (fun ls hl => ?_)
  refine lv_aload_n hx hb dX5_out_36 rfl (lv_at hl 1 rfl) ?_
  refine va_get (D := (dC, dI)) (ci := 5) (v := .ref (a 1)) (C := RX5) (T := TX5) (N := 6) hx hb huX5 (fun _ h9 => h9) hown hK hP 0 rfl rfl 0 (by decide) w10 (fun _ h9 => h9) rfl dX5_out_37 ?_
  refine lv_iload_n hx hb dX5_out_40 rfl (lv_at hl 2 rfl) ?_
  refine va_put (D := (dC, dI)) (ci := 2) (v := .int x1) (ty := .int) (C := RX2) (T := TX2) (N := 12) hx hb huX2 (fun _ h9 => h9) tyX2 tyX2_ok nmX2 hown hK hP hD hS 1 rfl rfl 4 (by decide) w124 (fun _ h9 => h9) rfl (by decide +kernel) rfl rfl (Nat.le_of_ble_eq_true rfl) dX5_out_41 (fun H locs hP2 hD2 hS => ?_)
  obtain ⟨hP, hD⟩ : va_P (dC, dI) vwCl (wX5 a cI cF (s_X5_history (s_X5_frame S (s_X2_taker (g_X5_frame S) x1)) v4)) H ∧ va_D A (wX5 a cI cF (s_X5_history (s_X5_frame S (s_X2_taker (g_X5_frame S) x1)) v4)) := LN.set (LX5_frame a cI cF (s_X5_history S v4) (s_X2_taker (g_X5_frame S) x1) (LX2_taker (fun i => a (i + 1)) cI cF (g_X5_frame S) x1)) (p := 1) rfl rfl hD hP2 hD2
  refine lv_iload_n hx hb dX5_out_44 rfl (lv_at hl 0 rfl) ?_
  have hu := Sum.inr.inj (Option.some.inj h)
  exact W.iret (v := x2_6) hx hb hr (fun t ht hW => ⟨⟨congrArg (fun z => Outcome.returned (some (Value.int z.1))) hu, by rw [ht, ← hu]; exact hP⟩, hS.F ht⟩) hS.2.2 dX5_out_45

set_option maxHeartbeats 4000000 in
set_option maxRecDepth 100000 in
theorem c_X5_out_x (l : Launch) (hfl : l.stackTraces = false) (dC : Nat → ClassId) (dI : Nat → Nat → Nat) (cI cF : ClassId) (a : Nat → Nat) (S : S_X5) (x1 : Int32) (u : Nat × S_X5) (h : m_X5_out S x1 = some (.inl u)) : ∀ sz : Nat, vx_Met l yX5_out wsX5_out ({ frames := 6, cells := 1, slots := 6, locals := 124 } : Room) (va_Pc [.ref (a 0), .int x1] (pRWe (dC, dI) cI cF (wX5 a cI cF S) sz)) (fun _ _ _ _ => False) (qX (dC, dI) (wX5 a cI cF u.2) (xnm u.1) (va_A (wX5 a cI cF S) sz)) 1 6 (va_A (wX5 a cI cF S) sz) := by
  intro sz
  refine vx_ofW (cc := cX5_out) (maxL := 3) (ret := (some .int)) (by decide) rfl ?_
  intro p e s m args below meth c s₁ B hml hnx hv
  obtain ⟨hargs, ⟨hsz, hP, hK, hD0⟩, hE⟩ := hv
  subst hargs
  have hx := B.exec
  have hb := B.bytes
  have hr := B.returns
  have hts := atoms_spec (ws := wsX5_out) B.pre
  have hown : s.vm.findClass RX5 = some m.cls := findClass_of_methodNamed B.named
  have hlocks := B.notSynchronized
  have w10 := hts (.fieldLink RX5 10 "DrawnSlivers" "frame" "LDrawnSlivers$Frame;") (List.mem_of_getElem? (i := 4) rfl)
  have w124 := hts (.fieldLink RX5 124 "DrawnSlivers$Frame" "taker" "I") (List.mem_of_getElem? (i := 5) rfl)
  have w25 := hts (.fieldLink RX5 25 "DrawnSlivers" "history" "LDrawnSlivers$History;") (List.mem_of_getElem? (i := 3) rfl)
  have w40 := hts (.methodLink RX5 40 yX5_isCan) (List.mem_of_getElem? (i := 6) rfl)
  have w44 := hts (.classLink RX5 44 "java/lang/IndexOutOfBoundsException") (List.mem_of_getElem? (i := 1) rfl)
  have w79 := hts (.methodLink RX5 79 yX3_save) (List.mem_of_getElem? (i := 10) rfl)
  have wix1 := hts (.initialized "java/lang/IndexOutOfBoundsException") (List.mem_of_getElem? (i := 2) rfl)
  have huX2 : ∀ w ∈ u_ws RX2 TX2 12, w.before _ s = true := fun w h => hts w (List.mem_cons_of_mem _ (List.mem_append_left _ (List.mem_append_left _ (List.mem_append_left _ (List.mem_append_left _ (List.mem_append_right _ (h)))))))
  have huX5 : ∀ w ∈ u_ws RX5 TX5 6, w.before _ s = true := fun w h => hts w (List.mem_cons_of_mem _ (List.mem_append_left _ (List.mem_append_left _ (List.mem_append_left _ (List.mem_append_left _ (List.mem_append_left _ (List.mem_append_right _ (h))))))))
  subst hsz
  have hD := hD0.self (sz := s.heap.size)
  generalize hAe : va_A (wX5 a cI cF S) s.heap.size = A at hD hE ⊢
  have hA : ∀ q : Nat, s.heap.size ≤ q → A q := fun q h => by rw [← hAe]; exact Or.inr h
  have hS : va_S A s.heap s.heap [] := va_S.rf
  have hl := lv_entry ([.ref (a 0), .int x1]) (n := 3) (Nat.le_of_ble_eq_true rfl)
  rw [lg_entry_eq]
  generalize (lg_sl ([.ref (a 0), .int x1]) ++ List.replicate (3 - (lg_sl ([.ref (a 0), .int x1])).length) Slot.unset).toArray = ls at hl ⊢
  have hl : lv_has ls 3 [(0, .ref (a 0)), (1, .int x1)] := hl
  rw [m_X5_out] at h
  refine lv_iload_n hx hb dX5_out_0 rfl (lv_at hl 1 rfl) ?_
  obtain ⟨v1, g2, h⟩ := o_b h
  refine k_ro (va_runS (As := [.int x1]) (rest := []) ⟨hx, hb, hml, hown, hts⟩ (c_X5_isCan l dC dI cI cF x1 v1 g2) (va_cwS 1 hts gX5_out_X5_isCan rfl rfl rfl (by decide +kernel) ⟨Nat.le_of_ble_eq_true rfl, Nat.le_of_ble_eq_true rfl⟩) (k_prePU) rfl rfl hl.1 rfl (lv_room (Nat.le_of_ble_eq_true rfl)) dX5_out_1 ⟨Nat.zero_le _, Nat.zero_le _⟩) (st1 := [.int v1]) rfl ?_
  refine lv_if_ne (tgt := 17) hx hb dX5_out_4 (by decide) (fun c3 => ?_) (fun c3 => ?_)
  rotate_left
  · have h := o_t h c3
    have hu := Sum.inl.inj (Option.some.inj h)
    obtain ⟨sa, hsa⟩ := hE.2.1 (46, "no such can") (by decide)
    exact vx_throwS (own := RX5) (cls := "java/lang/IndexOutOfBoundsException") (text := "no such can") (names := ["java/lang/RuntimeException", "java/lang/Exception"]) (ik := 44) (is := 46) (ic := 48) (sa := sa) (A := A) hx hb hfl hown (by decide +kernel) (by decide +kernel) w44 wix1 hsa (vx_hat (fun w h => hts w (List.mem_cons_of_mem _ (List.mem_append_right _ (h)))) (B := xW) (by decide +kernel) (fun w h => va_Nw.use (xW_ot w h) (hE.2.2.1 w h))) (by decide +kernel) hE.1.1 hE.1.2 hS (by rw [hml]; exact hl.1) dX5_out_7 dX5_out_10 dX5_out_11 dX5_out_13 dX5_out_16 (fun z hz => (hnx z hz).elim) (Nat.le_of_ble_eq_true rfl) (Nat.le_of_ble_eq_true rfl) (Nat.le_of_ble_eq_true rfl) (Nat.le_of_ble_eq_true rfl) hlocks (fun t hv hz hq => ⟨⟨by rw [← hu]; rfl, by rw [← hu]; exact k_Pkeep hP hq⟩, k_Fkeep hS hz hq⟩) hS.2.2 (Nat.le_refl _) (Nat.le_refl _)
  have h := o_f h c3
  refine lv_aload_n hx hb dX5_out_17 rfl (lv_at hl 0 rfl) ?_
  refine va_get (D := (dC, dI)) (ci := 5) (v := .ref (a 26)) (C := RX5) (T := TX5) (N := 6) hx hb huX5 (fun _ h9 => h9) hown hK hP 0 rfl rfl 3 (by decide) w25 (fun _ h9 => h9) rfl dX5_out_18 ?_
  refine lv_aload_n hx hb dX5_out_21 rfl (lv_at hl 0 rfl) ?_
  refine va_get (D := (dC, dI)) (ci := 5) (v := .ref (a 1)) (C := RX5) (T := TX5) (N := 6) hx hb huX5 (fun _ h9 => h9) hown hK hP 0 rfl rfl 0 (by decide) w10 (fun _ h9 => h9) rfl dX5_out_22 ?_
  obtain ⟨v4, g5, h⟩ := o_b h
  refine k_rwL (va_runV (As := [.ref (a 1)]) (rest := []) ⟨hx, hb, hml, hown, hts⟩ (c_X3_save l dC dI cI cF (fun i => a (i + 26)) (fun i => a (i + 1)) (g_X5_history S) (g_X5_frame S) v4 g5 s.heap.size) (cwV 1 hts gX5_out_X3_save rfl rfl rfl (by decide +kernel) ⟨Nat.le_of_ble_eq_true rfl, Nat.le_of_ble_eq_true rfl⟩) (k_preLw (q0 := 0) (ci := 3) hK hP hD (LN_sw (LX5_frame_history a cI cF S (g_X5_frame S) v4)) rfl rfl rfl) rfl rfl hl.1 rfl (lv_room (Nat.le_of_ble_eq_true rfl)) dX5_out_25 ⟨Nat.zero_le _, Nat.zero_le _⟩) (st1 := []) rfl hP hD hS hA (wn := wX5 a cI cF (s_X5_history S v4)) (LN_sw (LX5_frame_history a cI cF S (g_X5_frame S) v4)) (fun H locs hP hD hS => ?_)
  refine lv_aload_n hx hb dX5_out_28 rfl (lv_at hl 0 rfl) ?_
  refine va_get (D := (dC, dI)) (ci := 5) (v := .ref (a 1)) (C := RX5) (T := TX5) (N := 6) hx hb huX5 (fun _ h9 => h9) hown hK hP 0 rfl rfl 0 (by decide) w10 (fun _ h9 => h9) rfl dX5_out_29 ?_
  refine va_get (D := (dC, dI)) (ci := 2) (v := .int (g_X2_taker (g_X5_frame S))) (C := RX2) (T := TX2) (N := 12) hx hb huX2 (fun _ h9 => h9) hown hK hP 1 rfl rfl 4 (by decide) w124 (fun _ h9 => h9) rfl dX5_out_32 ?_
  obtain ⟨x2_6, e7, h⟩ := o_n h
  refine lv_nmi e7 ?_
  refine lv_istore_n (lv' := [(2, .int x2_6), (0, .ref (a 0)), (1, .int x1)]) hx hb dX5_out_35 rfl hl (by decide) rfl (fun ls hl => ?_)
  refine lv_aload_n hx hb dX5_out_36 rfl (lv_at hl 1 rfl) ?_
  refine va_get (D := (dC, dI)) (ci := 5) (v := .ref (a 1)) (C := RX5) (T := TX5) (N := 6) hx hb huX5 (fun _ h9 => h9) hown hK hP 0 rfl rfl 0 (by decide) w10 (fun _ h9 => h9) rfl dX5_out_37 ?_
  refine lv_iload_n hx hb dX5_out_40 rfl (lv_at hl 2 rfl) ?_
  refine va_put (D := (dC, dI)) (ci := 2) (v := .int x1) (ty := .int) (C := RX2) (T := TX2) (N := 12) hx hb huX2 (fun _ h9 => h9) tyX2 tyX2_ok nmX2 hown hK hP hD hS 1 rfl rfl 4 (by decide) w124 (fun _ h9 => h9) rfl (by decide +kernel) rfl rfl (Nat.le_of_ble_eq_true rfl) dX5_out_41 (fun H locs hP2 hD2 hS => ?_)
  obtain ⟨hP, hD⟩ : va_P (dC, dI) vwCl (wX5 a cI cF (s_X5_history (s_X5_frame S (s_X2_taker (g_X5_frame S) x1)) v4)) H ∧ va_D A (wX5 a cI cF (s_X5_history (s_X5_frame S (s_X2_taker (g_X5_frame S) x1)) v4)) := LN.set (LX5_frame a cI cF (s_X5_history S v4) (s_X2_taker (g_X5_frame S) x1) (LX2_taker (fun i => a (i + 1)) cI cF (g_X5_frame S) x1)) (p := 1) rfl rfl hD hP2 hD2
  refine lv_iload_n hx hb dX5_out_44 rfl (lv_at hl 0 rfl) ?_
  cases h

def m_X5_run (S : S_X5) (x1 : Int32) : Option ((Nat × S_X5) ⊕ (Int32 × S_X5)) := (m_X5_isRunLength x1).bind fun v1 => (if v1 = 0 then (some (.inl (2, S))) else ((m_X3_save (g_X5_history S) (g_X5_frame S)).bind fun v4 => ((m_X2_advance (g_X5_frame S) x1).bind fun v6 => (some (.inr (v6.1, s_X5_history (s_X5_frame S v6.2) v4))))))
set_option maxHeartbeats 4000000 in
set_option maxRecDepth 100000 in
theorem c_X5_run (l : Launch) (dC : Nat → ClassId) (dI : Nat → Nat → Nat) (cI cF : ClassId) (a : Nat → Nat) (S : S_X5) (x1 : Int32) (u : Int32 × S_X5) (h : m_X5_run S x1 = some (.inr u)) : cRW l (dC, dI) cI cF yX5_run wsX5_run ({ frames := 5, cells := 0, slots := 0, locals := 152 } : Room) [.ref (a 0), .int x1] (wX5 a cI cF S) (wX5 a cI cF u.2) (some (.int u.1)) := by
  intro sz
  refine Met.ofW (cc := cX5_run) (maxL := 2) (ret := (some .int)) (by decide) rfl ?_
  intro p e s m args below meth c s₁ B hml hv
  obtain ⟨hargs, hsz, hP, hK, hD0⟩ := hv
  subst hargs
  have hx := B.exec
  have hb := B.bytes
  have hr := B.returns
  have hts := atoms_spec (ws := wsX5_run) B.pre
  have hown : s.vm.findClass RX5 = some m.cls := findClass_of_methodNamed B.named
  have hlocks := B.notSynchronized
  have w10 := hts (.fieldLink RX5 10 "DrawnSlivers" "frame" "LDrawnSlivers$Frame;") (List.mem_of_getElem? (i := 4) rfl)
  have w127 := hts (.methodLink RX5 127 yX5_isRunLength) (List.mem_of_getElem? (i := 5) rfl)
  have w132 := hts (.methodLink RX5 132 yX2_advance) (List.mem_of_getElem? (i := 64) rfl)
  have w25 := hts (.fieldLink RX5 25 "DrawnSlivers" "history" "LDrawnSlivers$History;") (List.mem_of_getElem? (i := 3) rfl)
  have w79 := hts (.methodLink RX5 79 yX3_save) (List.mem_of_getElem? (i := 9) rfl)
  have huX5 : ∀ w ∈ u_ws RX5 TX5 6, w.before _ s = true := fun w h => hts w (List.mem_cons_of_mem _ (List.mem_append_left _ (List.mem_append_left _ (List.mem_append_left _ (List.mem_append_left _ (List.mem_append_left _ (List.mem_append_right _ (h))))))))
  subst hsz
  have hD := hD0.self (sz := s.heap.size)
  generalize hAe : va_A (wX5 a cI cF S) s.heap.size = A at hD ⊢
  have hA : ∀ q : Nat, s.heap.size ≤ q → A q := fun q h => by rw [← hAe]; exact Or.inr h
  have hS : va_S A s.heap s.heap [] := va_S.rf
  have hl := lv_entry ([.ref (a 0), .int x1]) (n := 2) (Nat.le_of_ble_eq_true rfl)
  rw [lg_entry_eq]
  generalize (lg_sl ([.ref (a 0), .int x1]) ++ List.replicate (2 - (lg_sl ([.ref (a 0), .int x1])).length) Slot.unset).toArray = ls at hl ⊢
  have hl : lv_has ls 2 [(0, .ref (a 0)), (1, .int x1)] := hl
  rw [m_X5_run] at h
  refine lv_iload_n hx hb dX5_run_0 rfl (lv_at hl 1 rfl) ?_
  obtain ⟨v1, g2, h⟩ := o_b h
  refine k_ro (va_runS (As := [.int x1]) (rest := []) ⟨hx, hb, hml, hown, hts⟩ (c_X5_isRunLength l dC dI cI cF x1 v1 g2) (va_cwS 1 hts gX5_run_X5_isRunLength rfl rfl rfl (by decide +kernel) ⟨Nat.le_of_ble_eq_true rfl, Nat.le_of_ble_eq_true rfl⟩) (k_prePU) rfl rfl hl.1 rfl (lv_room (Nat.le_of_ble_eq_true rfl)) dX5_run_1 ⟨Nat.zero_le _, Nat.zero_le _⟩) (st1 := [.int v1]) rfl ?_
  refine lv_if_ne (tgt := 17) hx hb dX5_run_4 (by decide) (fun c3 => ?_) (fun c3 => ?_)
  rotate_left
  · have h := o_t h c3
    cases h
  have h := o_f h c3
  refine lv_aload_n hx hb dX5_run_17 rfl (lv_at hl 0 rfl) ?_
  refine va_get (D := (dC, dI)) (ci := 5) (v := .ref (a 26)) (C := RX5) (T := TX5) (N := 6) hx hb huX5 (fun _ h9 => h9) hown hK hP 0 rfl rfl 3 (by decide) w25 (fun _ h9 => h9) rfl dX5_run_18 ?_
  refine lv_aload_n hx hb dX5_run_21 rfl (lv_at hl 0 rfl) ?_
  refine va_get (D := (dC, dI)) (ci := 5) (v := .ref (a 1)) (C := RX5) (T := TX5) (N := 6) hx hb huX5 (fun _ h9 => h9) hown hK hP 0 rfl rfl 0 (by decide) w10 (fun _ h9 => h9) rfl dX5_run_22 ?_
  obtain ⟨v4, g5, h⟩ := o_b h
  refine k_rwL (va_runV (As := [.ref (a 1)]) (rest := []) ⟨hx, hb, hml, hown, hts⟩ (c_X3_save l dC dI cI cF (fun i => a (i + 26)) (fun i => a (i + 1)) (g_X5_history S) (g_X5_frame S) v4 g5 s.heap.size) (cwV 1 hts gX5_run_X3_save rfl rfl rfl (by decide +kernel) ⟨Nat.le_of_ble_eq_true rfl, Nat.le_of_ble_eq_true rfl⟩) (k_preLw (q0 := 0) (ci := 3) hK hP hD (LN_sw (LX5_frame_history a cI cF S (g_X5_frame S) v4)) rfl rfl rfl) rfl rfl hl.1 rfl (lv_room (Nat.le_of_ble_eq_true rfl)) dX5_run_25 ⟨Nat.zero_le _, Nat.zero_le _⟩) (st1 := []) rfl hP hD hS hA (wn := wX5 a cI cF (s_X5_history S v4)) (LN_sw (LX5_frame_history a cI cF S (g_X5_frame S) v4)) (fun H locs hP hD hS => ?_)
  refine lv_aload_n hx hb dX5_run_28 rfl (lv_at hl 0 rfl) ?_
  refine va_get (D := (dC, dI)) (ci := 5) (v := .ref (a 1)) (C := RX5) (T := TX5) (N := 6) hx hb huX5 (fun _ h9 => h9) hown hK hP 0 rfl rfl 0 (by decide) w10 (fun _ h9 => h9) rfl dX5_run_29 ?_
  refine lv_iload_n hx hb dX5_run_32 rfl (lv_at hl 1 rfl) ?_
  obtain ⟨v6, g7, h⟩ := o_b h
  refine k_rwL (va_runV (As := [.int x1]) (rest := []) ⟨hx, hb, hml, hown, hts⟩ (c_X2_advance l dC dI cI cF (fun i => a (i + 1)) (g_X5_frame S) x1 v6 g7 H.size) (cwV 1 hts gX5_run_X2_advance rfl rfl rfl (by decide +kernel) ⟨Nat.le_of_ble_eq_true rfl, Nat.le_of_ble_eq_true rfl⟩) (k_preLw (q0 := 0) (ci := 2) hK hP hD (LX5_frame a cI cF (s_X5_history S v4) v6.2 (LN_id (fX2 (fun i => a (i + 1)) cI cF (g_X5_frame S) v6.2))) rfl rfl rfl) rfl rfl hl.1 rfl (lv_room (Nat.le_of_ble_eq_true rfl)) dX5_run_33 ⟨Nat.zero_le _, Nat.zero_le _⟩) (st1 := [.int v6.1]) rfl hP hD hS hA (wn := wX5 a cI cF (s_X5_history (s_X5_frame S v6.2) v4)) (LX5_frame a cI cF (s_X5_history S v4) v6.2 (LN_id (fX2 (fun i => a (i + 1)) cI cF (g_X5_frame S) v6.2))) (fun H locs hP hD hS => ?_)
  have hu := Sum.inr.inj (Option.some.inj h)
  exact W.iret (v := v6.1) hx hb hr (fun t ht hW => ⟨⟨congrArg (fun z => Outcome.returned (some (Value.int z.1))) hu, by rw [ht, ← hu]; exact hP⟩, hS.F ht⟩) hS.2.2 dX5_run_36

set_option maxHeartbeats 4000000 in
set_option maxRecDepth 100000 in
theorem c_X5_run_x (l : Launch) (hfl : l.stackTraces = false) (dC : Nat → ClassId) (dI : Nat → Nat → Nat) (cI cF : ClassId) (a : Nat → Nat) (S : S_X5) (x1 : Int32) (u : Nat × S_X5) (h : m_X5_run S x1 = some (.inl u)) : ∀ sz : Nat, vx_Met l yX5_run wsX5_run ({ frames := 6, cells := 1, slots := 6, locals := 152 } : Room) (va_Pc [.ref (a 0), .int x1] (pRWe (dC, dI) cI cF (wX5 a cI cF S) sz)) (fun _ _ _ _ => False) (qX (dC, dI) (wX5 a cI cF u.2) (xnm u.1) (va_A (wX5 a cI cF S) sz)) 1 6 (va_A (wX5 a cI cF S) sz) := by
  intro sz
  refine vx_ofW (cc := cX5_run) (maxL := 2) (ret := (some .int)) (by decide) rfl ?_
  intro p e s m args below meth c s₁ B hml hnx hv
  obtain ⟨hargs, ⟨hsz, hP, hK, hD0⟩, hE⟩ := hv
  subst hargs
  have hx := B.exec
  have hb := B.bytes
  have hr := B.returns
  have hts := atoms_spec (ws := wsX5_run) B.pre
  have hown : s.vm.findClass RX5 = some m.cls := findClass_of_methodNamed B.named
  have hlocks := B.notSynchronized
  have w10 := hts (.fieldLink RX5 10 "DrawnSlivers" "frame" "LDrawnSlivers$Frame;") (List.mem_of_getElem? (i := 4) rfl)
  have w127 := hts (.methodLink RX5 127 yX5_isRunLength) (List.mem_of_getElem? (i := 5) rfl)
  have w132 := hts (.methodLink RX5 132 yX2_advance) (List.mem_of_getElem? (i := 64) rfl)
  have w25 := hts (.fieldLink RX5 25 "DrawnSlivers" "history" "LDrawnSlivers$History;") (List.mem_of_getElem? (i := 3) rfl)
  have w55 := hts (.classLink RX5 55 "java/lang/IllegalArgumentException") (List.mem_of_getElem? (i := 1) rfl)
  have w79 := hts (.methodLink RX5 79 yX3_save) (List.mem_of_getElem? (i := 9) rfl)
  have wix2 := hts (.initialized "java/lang/IllegalArgumentException") (List.mem_of_getElem? (i := 2) rfl)
  have huX5 : ∀ w ∈ u_ws RX5 TX5 6, w.before _ s = true := fun w h => hts w (List.mem_cons_of_mem _ (List.mem_append_left _ (List.mem_append_left _ (List.mem_append_left _ (List.mem_append_left _ (List.mem_append_left _ (List.mem_append_right _ (h))))))))
  subst hsz
  have hD := hD0.self (sz := s.heap.size)
  generalize hAe : va_A (wX5 a cI cF S) s.heap.size = A at hD hE ⊢
  have hA : ∀ q : Nat, s.heap.size ≤ q → A q := fun q h => by rw [← hAe]; exact Or.inr h
  have hS : va_S A s.heap s.heap [] := va_S.rf
  have hl := lv_entry ([.ref (a 0), .int x1]) (n := 2) (Nat.le_of_ble_eq_true rfl)
  rw [lg_entry_eq]
  generalize (lg_sl ([.ref (a 0), .int x1]) ++ List.replicate (2 - (lg_sl ([.ref (a 0), .int x1])).length) Slot.unset).toArray = ls at hl ⊢
  have hl : lv_has ls 2 [(0, .ref (a 0)), (1, .int x1)] := hl
  rw [m_X5_run] at h
  refine lv_iload_n hx hb dX5_run_0 rfl (lv_at hl 1 rfl) ?_
  obtain ⟨v1, g2, h⟩ := o_b h
  refine k_ro (va_runS (As := [.int x1]) (rest := []) ⟨hx, hb, hml, hown, hts⟩ (c_X5_isRunLength l dC dI cI cF x1 v1 g2) (va_cwS 1 hts gX5_run_X5_isRunLength rfl rfl rfl (by decide +kernel) ⟨Nat.le_of_ble_eq_true rfl, Nat.le_of_ble_eq_true rfl⟩) (k_prePU) rfl rfl hl.1 rfl (lv_room (Nat.le_of_ble_eq_true rfl)) dX5_run_1 ⟨Nat.zero_le _, Nat.zero_le _⟩) (st1 := [.int v1]) rfl ?_
  refine lv_if_ne (tgt := 17) hx hb dX5_run_4 (by decide) (fun c3 => ?_) (fun c3 => ?_)
  rotate_left
  · have h := o_t h c3
    have hu := Sum.inl.inj (Option.some.inj h)
    obtain ⟨sa, hsa⟩ := hE.2.1 (130, "steps are 1 to 40") (by decide)
    exact vx_throwS (own := RX5) (cls := "java/lang/IllegalArgumentException") (text := "steps are 1 to 40") (names := ["java/lang/RuntimeException", "java/lang/Exception"]) (ik := 55) (is := 130) (ic := 59) (sa := sa) (A := A) hx hb hfl hown (by decide +kernel) (by decide +kernel) w55 wix2 hsa (vx_hat (fun w h => hts w (List.mem_cons_of_mem _ (List.mem_append_right _ (h)))) (B := xW) (by decide +kernel) (fun w h => va_Nw.use (xW_ot w h) (hE.2.2.1 w h))) (by decide +kernel) hE.1.1 hE.1.2 hS (by rw [hml]; exact hl.1) dX5_run_7 dX5_run_10 dX5_run_11 dX5_run_13 dX5_run_16 (fun z hz => (hnx z hz).elim) (Nat.le_of_ble_eq_true rfl) (Nat.le_of_ble_eq_true rfl) (Nat.le_of_ble_eq_true rfl) (Nat.le_of_ble_eq_true rfl) hlocks (fun t hv hz hq => ⟨⟨by rw [← hu]; rfl, by rw [← hu]; exact k_Pkeep hP hq⟩, k_Fkeep hS hz hq⟩) hS.2.2 (Nat.le_refl _) (Nat.le_refl _)
  have h := o_f h c3
  refine lv_aload_n hx hb dX5_run_17 rfl (lv_at hl 0 rfl) ?_
  refine va_get (D := (dC, dI)) (ci := 5) (v := .ref (a 26)) (C := RX5) (T := TX5) (N := 6) hx hb huX5 (fun _ h9 => h9) hown hK hP 0 rfl rfl 3 (by decide) w25 (fun _ h9 => h9) rfl dX5_run_18 ?_
  refine lv_aload_n hx hb dX5_run_21 rfl (lv_at hl 0 rfl) ?_
  refine va_get (D := (dC, dI)) (ci := 5) (v := .ref (a 1)) (C := RX5) (T := TX5) (N := 6) hx hb huX5 (fun _ h9 => h9) hown hK hP 0 rfl rfl 0 (by decide) w10 (fun _ h9 => h9) rfl dX5_run_22 ?_
  obtain ⟨v4, g5, h⟩ := o_b h
  refine k_rwL (va_runV (As := [.ref (a 1)]) (rest := []) ⟨hx, hb, hml, hown, hts⟩ (c_X3_save l dC dI cI cF (fun i => a (i + 26)) (fun i => a (i + 1)) (g_X5_history S) (g_X5_frame S) v4 g5 s.heap.size) (cwV 1 hts gX5_run_X3_save rfl rfl rfl (by decide +kernel) ⟨Nat.le_of_ble_eq_true rfl, Nat.le_of_ble_eq_true rfl⟩) (k_preLw (q0 := 0) (ci := 3) hK hP hD (LN_sw (LX5_frame_history a cI cF S (g_X5_frame S) v4)) rfl rfl rfl) rfl rfl hl.1 rfl (lv_room (Nat.le_of_ble_eq_true rfl)) dX5_run_25 ⟨Nat.zero_le _, Nat.zero_le _⟩) (st1 := []) rfl hP hD hS hA (wn := wX5 a cI cF (s_X5_history S v4)) (LN_sw (LX5_frame_history a cI cF S (g_X5_frame S) v4)) (fun H locs hP hD hS => ?_)
  refine lv_aload_n hx hb dX5_run_28 rfl (lv_at hl 0 rfl) ?_
  refine va_get (D := (dC, dI)) (ci := 5) (v := .ref (a 1)) (C := RX5) (T := TX5) (N := 6) hx hb huX5 (fun _ h9 => h9) hown hK hP 0 rfl rfl 0 (by decide) w10 (fun _ h9 => h9) rfl dX5_run_29 ?_
  refine lv_iload_n hx hb dX5_run_32 rfl (lv_at hl 1 rfl) ?_
  obtain ⟨v6, g7, h⟩ := o_b h
  refine k_rwL (va_runV (As := [.int x1]) (rest := []) ⟨hx, hb, hml, hown, hts⟩ (c_X2_advance l dC dI cI cF (fun i => a (i + 1)) (g_X5_frame S) x1 v6 g7 H.size) (cwV 1 hts gX5_run_X2_advance rfl rfl rfl (by decide +kernel) ⟨Nat.le_of_ble_eq_true rfl, Nat.le_of_ble_eq_true rfl⟩) (k_preLw (q0 := 0) (ci := 2) hK hP hD (LX5_frame a cI cF (s_X5_history S v4) v6.2 (LN_id (fX2 (fun i => a (i + 1)) cI cF (g_X5_frame S) v6.2))) rfl rfl rfl) rfl rfl hl.1 rfl (lv_room (Nat.le_of_ble_eq_true rfl)) dX5_run_33 ⟨Nat.zero_le _, Nat.zero_le _⟩) (st1 := [.int v6.1]) rfl hP hD hS hA (wn := wX5 a cI cF (s_X5_history (s_X5_frame S v6.2) v4)) (LX5_frame a cI cF (s_X5_history S v4) v6.2 (LN_id (fX2 (fun i => a (i + 1)) cI cF (g_X5_frame S) v6.2))) (fun H locs hP hD hS => ?_)
  cases h

def m_X5_set (S : S_X5) (x1 : Int32) (x2 : Int32) : Option ((Nat × S_X5) ⊕ (Int32 × S_X5)) := (m_X5_isSetting x1).bind fun v1 => (if v1 = 0 then (some (.inl (1, S))) else ((m_X5_isValue x1 x2).bind fun v4 => (if v4 = 0 then (some (.inl (2, S))) else ((m_X3_save (g_X5_history S) (g_X5_frame S)).bind fun v7 => ((m_X2_settingOf (g_X5_frame S) x1).bind fun v9 => ((m_X2_changeSetting (g_X5_frame S) x1 x2).bind fun v11 => (some (.inr (v9, s_X5_history (s_X5_frame S v11) v7)))))))))
set_option maxHeartbeats 4000000 in
set_option maxRecDepth 100000 in
theorem c_X5_set (l : Launch) (dC : Nat → ClassId) (dI : Nat → Nat → Nat) (cI cF : ClassId) (a : Nat → Nat) (S : S_X5) (x1 : Int32) (x2 : Int32) (u : Int32 × S_X5) (h : m_X5_set S x1 x2 = some (.inr u)) : cRWe l (dC, dI) cI cF yX5_set wsX5_set ({ frames := 4, cells := 0, slots := 0, locals := 124 } : Room) [.ref (a 0), .int x1, .int x2] (wX5 a cI cF S) (wX5 a cI cF u.2) (some (.int u.1)) := by
  intro sz
  refine Met.ofW (cc := cX5_set) (maxL := 4) (ret := (some .int)) (by decide) rfl ?_
  intro p e s m args below meth c s₁ B hml hv
  obtain ⟨hargs, ⟨hsz, hP, hK, hD0⟩, hE⟩ := hv
  subst hargs
  have hx := B.exec
  have hb := B.bytes
  have hr := B.returns
  have hts := atoms_spec (ws := wsX5_set) B.pre
  have hown : s.vm.findClass RX5 = some m.cls := findClass_of_methodNamed B.named
  have hlocks := B.notSynchronized
  have w10 := hts (.fieldLink RX5 10 "DrawnSlivers" "frame" "LDrawnSlivers$Frame;") (List.mem_of_getElem? (i := 6) rfl)
  have w138 := hts (.methodLink RX5 138 yX5_isSetting) (List.mem_of_getElem? (i := 7) rfl)
  have w143 := hts (.methodLink RX5 143 yX5_isValue) (List.mem_of_getElem? (i := 11) rfl)
  have w149 := hts (.methodLink RX5 149 yX2_settingOf) (List.mem_of_getElem? (i := 71) rfl)
  have w152 := hts (.methodLink RX5 152 yX2_changeSetting) (List.mem_of_getElem? (i := 75) rfl)
  have w25 := hts (.fieldLink RX5 25 "DrawnSlivers" "history" "LDrawnSlivers$History;") (List.mem_of_getElem? (i := 5) rfl)
  have w79 := hts (.methodLink RX5 79 yX3_save) (List.mem_of_getElem? (i := 16) rfl)
  have huX5 : ∀ w ∈ u_ws RX5 TX5 6, w.before _ s = true := fun w h => hts w (List.mem_cons_of_mem _ (List.mem_append_left _ (List.mem_append_left _ (List.mem_append_left _ (List.mem_append_left _ (List.mem_append_left _ (List.mem_append_left _ (List.mem_append_right _ (h)))))))))
  subst hsz
  have hD := hD0.self (sz := s.heap.size)
  generalize hAe : va_A (wX5 a cI cF S) s.heap.size = A at hD hE ⊢
  have hA : ∀ q : Nat, s.heap.size ≤ q → A q := fun q h => by rw [← hAe]; exact Or.inr h
  have hS : va_S A s.heap s.heap [] := va_S.rf
  have hl := lv_entry ([.ref (a 0), .int x1, .int x2]) (n := 4) (Nat.le_of_ble_eq_true rfl)
  rw [lg_entry_eq]
  generalize (lg_sl ([.ref (a 0), .int x1, .int x2]) ++ List.replicate (4 - (lg_sl ([.ref (a 0), .int x1, .int x2])).length) Slot.unset).toArray = ls at hl ⊢
  have hl : lv_has ls 4 [(0, .ref (a 0)), (1, .int x1), (2, .int x2)] := hl
  rw [m_X5_set] at h
  refine lv_iload_n hx hb dX5_set_0 rfl (lv_at hl 1 rfl) ?_
  obtain ⟨v1, g2, h⟩ := o_b h
  refine k_ro (va_runS (As := [.int x1]) (rest := []) ⟨hx, hb, hml, hown, hts⟩ (c_X5_isSetting l dC dI cI cF x1 v1 g2) (va_cwS 1 hts gX5_set_X5_isSetting rfl rfl rfl (by decide +kernel) ⟨Nat.le_of_ble_eq_true rfl, Nat.le_of_ble_eq_true rfl⟩) (k_prePU) rfl rfl hl.1 rfl (lv_room (Nat.le_of_ble_eq_true rfl)) dX5_set_1 ⟨Nat.zero_le _, Nat.zero_le _⟩) (st1 := [.int v1]) rfl ?_
  refine lv_if_ne (tgt := 17) hx hb dX5_set_4 (by decide) (fun c3 => ?_) (fun c3 => ?_)
  rotate_left
  · have h := o_t h c3
    cases h
  have h := o_f h c3
  refine lv_iload_n hx hb dX5_set_17 rfl (lv_at hl 1 rfl) ?_
  refine lv_iload_n hx hb dX5_set_18 rfl (lv_at hl 2 rfl) ?_
  obtain ⟨v4, g5, h⟩ := o_b h
  refine k_ro (va_runS (As := [.int x1, .int x2]) (rest := []) ⟨hx, hb, hml, hown, hts⟩ (c_X5_isValue l dC dI cI cF x1 x2 v4 g5) (va_cwS 2 hts gX5_set_X5_isValue rfl rfl rfl (by decide +kernel) ⟨Nat.le_of_ble_eq_true rfl, Nat.le_of_ble_eq_true rfl⟩) ((k_preE hE hS)) rfl rfl hl.1 rfl (lv_room (Nat.le_of_ble_eq_true rfl)) dX5_set_19 ⟨Nat.zero_le _, Nat.zero_le _⟩) (st1 := [.int v4]) rfl ?_
  refine lv_if_ne (tgt := 35) hx hb dX5_set_22 (by decide) (fun c6 => ?_) (fun c6 => ?_)
  rotate_left
  · have h := o_t h c6
    cases h
  have h := o_f h c6
  refine lv_aload_n hx hb dX5_set_35 rfl (lv_at hl 0 rfl) ?_
  refine va_get (D := (dC, dI)) (ci := 5) (v := .ref (a 26)) (C := RX5) (T := TX5) (N := 6) hx hb huX5 (fun _ h9 => h9) hown hK hP 0 rfl rfl 3 (by decide) w25 (fun _ h9 => h9) rfl dX5_set_36 ?_
  refine lv_aload_n hx hb dX5_set_39 rfl (lv_at hl 0 rfl) ?_
  refine va_get (D := (dC, dI)) (ci := 5) (v := .ref (a 1)) (C := RX5) (T := TX5) (N := 6) hx hb huX5 (fun _ h9 => h9) hown hK hP 0 rfl rfl 0 (by decide) w10 (fun _ h9 => h9) rfl dX5_set_40 ?_
  obtain ⟨v7, g8, h⟩ := o_b h
  refine k_rwL (va_runV (As := [.ref (a 1)]) (rest := []) ⟨hx, hb, hml, hown, hts⟩ (c_X3_save l dC dI cI cF (fun i => a (i + 26)) (fun i => a (i + 1)) (g_X5_history S) (g_X5_frame S) v7 g8 s.heap.size) (cwV 1 hts gX5_set_X3_save rfl rfl rfl (by decide +kernel) ⟨Nat.le_of_ble_eq_true rfl, Nat.le_of_ble_eq_true rfl⟩) (k_preLw (q0 := 0) (ci := 3) hK hP hD (LN_sw (LX5_frame_history a cI cF S (g_X5_frame S) v7)) rfl rfl rfl) rfl rfl hl.1 rfl (lv_room (Nat.le_of_ble_eq_true rfl)) dX5_set_43 ⟨Nat.zero_le _, Nat.zero_le _⟩) (st1 := []) rfl hP hD hS hA (wn := wX5 a cI cF (s_X5_history S v7)) (LN_sw (LX5_frame_history a cI cF S (g_X5_frame S) v7)) (fun H locs hP hD hS => ?_)
  refine lv_aload_n hx hb dX5_set_46 rfl (lv_at hl 0 rfl) ?_
  refine va_get (D := (dC, dI)) (ci := 5) (v := .ref (a 1)) (C := RX5) (T := TX5) (N := 6) hx hb huX5 (fun _ h9 => h9) hown hK hP 0 rfl rfl 0 (by decide) w10 (fun _ h9 => h9) rfl dX5_set_47 ?_
  refine lv_iload_n hx hb dX5_set_50 rfl (lv_at hl 1 rfl) ?_
  obtain ⟨v9, g10, h⟩ := o_b h
  refine k_ro (va_runV (As := [.int x1]) (rest := []) ⟨hx, hb, hml, hown, hts⟩ (c_X2_settingOf l dC dI cI cF (fun i => a (i + 1)) (g_X5_frame S) x1 v9 g10) (cwV 1 hts gX5_set_X2_settingOf rfl rfl rfl (by decide +kernel) ⟨Nat.le_of_ble_eq_true rfl, Nat.le_of_ble_eq_true rfl⟩) (k_preL (q0 := 0) (ci := 2) hK hP (LX5_frame a cI cF (s_X5_history S v7) (g_X5_frame S) (LN_id (fX2 (fun i => a (i + 1)) cI cF (g_X5_frame S) (g_X5_frame S)))) rfl rfl rfl) rfl rfl hl.1 rfl (lv_room (Nat.le_of_ble_eq_true rfl)) dX5_set_51 ⟨Nat.zero_le _, Nat.zero_le _⟩) (st1 := [.int v9]) rfl ?_
  refine lv_istore_n (lv' := [(3, .int v9), (0, .ref (a 0)), (1, .int x1), (2, .int x2)]) hx hb dX5_set_54 rfl hl (by decide) rfl (fun ls hl => ?_)
  refine lv_aload_n hx hb dX5_set_55 rfl (lv_at hl 1 rfl) ?_
  refine va_get (D := (dC, dI)) (ci := 5) (v := .ref (a 1)) (C := RX5) (T := TX5) (N := 6) hx hb huX5 (fun _ h9 => h9) hown hK hP 0 rfl rfl 0 (by decide) w10 (fun _ h9 => h9) rfl dX5_set_56 ?_
  refine lv_iload_n hx hb dX5_set_59 rfl (lv_at hl 2 rfl) ?_
  refine lv_iload_n hx hb dX5_set_60 rfl (lv_at hl 3 rfl) ?_
  obtain ⟨v11, g12, h⟩ := o_b h
  refine k_rwL (va_runV (As := [.int x1, .int x2]) (rest := []) ⟨hx, hb, hml, hown, hts⟩ (c_X2_changeSetting l dC dI cI cF (fun i => a (i + 1)) (g_X5_frame S) x1 x2 v11 g12 H.size) (cwV 2 hts gX5_set_X2_changeSetting rfl rfl rfl (by decide +kernel) ⟨Nat.le_of_ble_eq_true rfl, Nat.le_of_ble_eq_true rfl⟩) (k_preLw (q0 := 0) (ci := 2) hK hP hD (LX5_frame a cI cF (s_X5_history S v7) v11 (LN_id (fX2 (fun i => a (i + 1)) cI cF (g_X5_frame S) v11))) rfl rfl rfl) rfl rfl hl.1 rfl (lv_room (Nat.le_of_ble_eq_true rfl)) dX5_set_61 ⟨Nat.zero_le _, Nat.zero_le _⟩) (st1 := []) rfl hP hD hS hA (wn := wX5 a cI cF (s_X5_history (s_X5_frame S v11) v7)) (LX5_frame a cI cF (s_X5_history S v7) v11 (LN_id (fX2 (fun i => a (i + 1)) cI cF (g_X5_frame S) v11))) (fun H locs hP hD hS => ?_)
  refine lv_iload_n hx hb dX5_set_64 rfl (lv_at hl 0 rfl) ?_
  have hu := Sum.inr.inj (Option.some.inj h)
  exact W.iret (v := v9) hx hb hr (fun t ht hW => ⟨⟨congrArg (fun z => Outcome.returned (some (Value.int z.1))) hu, by rw [ht, ← hu]; exact hP⟩, hS.F ht⟩) hS.2.2 dX5_set_65

set_option maxHeartbeats 4000000 in
set_option maxRecDepth 100000 in
theorem c_X5_set_x (l : Launch) (hfl : l.stackTraces = false) (dC : Nat → ClassId) (dI : Nat → Nat → Nat) (cI cF : ClassId) (a : Nat → Nat) (S : S_X5) (x1 : Int32) (x2 : Int32) (u : Nat × S_X5) (h : m_X5_set S x1 x2 = some (.inl u)) : ∀ sz : Nat, vx_Met l yX5_set wsX5_set ({ frames := 6, cells := 1, slots := 6, locals := 124 } : Room) (va_Pc [.ref (a 0), .int x1, .int x2] (pRWe (dC, dI) cI cF (wX5 a cI cF S) sz)) (fun _ _ _ _ => False) (qX (dC, dI) (wX5 a cI cF u.2) (xnm u.1) (va_A (wX5 a cI cF S) sz)) 1 6 (va_A (wX5 a cI cF S) sz) := by
  intro sz
  refine vx_ofW (cc := cX5_set) (maxL := 4) (ret := (some .int)) (by decide) rfl ?_
  intro p e s m args below meth c s₁ B hml hnx hv
  obtain ⟨hargs, ⟨hsz, hP, hK, hD0⟩, hE⟩ := hv
  subst hargs
  have hx := B.exec
  have hb := B.bytes
  have hr := B.returns
  have hts := atoms_spec (ws := wsX5_set) B.pre
  have hown : s.vm.findClass RX5 = some m.cls := findClass_of_methodNamed B.named
  have hlocks := B.notSynchronized
  have w10 := hts (.fieldLink RX5 10 "DrawnSlivers" "frame" "LDrawnSlivers$Frame;") (List.mem_of_getElem? (i := 6) rfl)
  have w138 := hts (.methodLink RX5 138 yX5_isSetting) (List.mem_of_getElem? (i := 7) rfl)
  have w143 := hts (.methodLink RX5 143 yX5_isValue) (List.mem_of_getElem? (i := 11) rfl)
  have w149 := hts (.methodLink RX5 149 yX2_settingOf) (List.mem_of_getElem? (i := 71) rfl)
  have w152 := hts (.methodLink RX5 152 yX2_changeSetting) (List.mem_of_getElem? (i := 75) rfl)
  have w25 := hts (.fieldLink RX5 25 "DrawnSlivers" "history" "LDrawnSlivers$History;") (List.mem_of_getElem? (i := 5) rfl)
  have w44 := hts (.classLink RX5 44 "java/lang/IndexOutOfBoundsException") (List.mem_of_getElem? (i := 1) rfl)
  have w55 := hts (.classLink RX5 55 "java/lang/IllegalArgumentException") (List.mem_of_getElem? (i := 3) rfl)
  have w79 := hts (.methodLink RX5 79 yX3_save) (List.mem_of_getElem? (i := 16) rfl)
  have wix1 := hts (.initialized "java/lang/IndexOutOfBoundsException") (List.mem_of_getElem? (i := 2) rfl)
  have wix2 := hts (.initialized "java/lang/IllegalArgumentException") (List.mem_of_getElem? (i := 4) rfl)
  have huX5 : ∀ w ∈ u_ws RX5 TX5 6, w.before _ s = true := fun w h => hts w (List.mem_cons_of_mem _ (List.mem_append_left _ (List.mem_append_left _ (List.mem_append_left _ (List.mem_append_left _ (List.mem_append_left _ (List.mem_append_left _ (List.mem_append_right _ (h)))))))))
  subst hsz
  have hD := hD0.self (sz := s.heap.size)
  generalize hAe : va_A (wX5 a cI cF S) s.heap.size = A at hD hE ⊢
  have hA : ∀ q : Nat, s.heap.size ≤ q → A q := fun q h => by rw [← hAe]; exact Or.inr h
  have hS : va_S A s.heap s.heap [] := va_S.rf
  have hl := lv_entry ([.ref (a 0), .int x1, .int x2]) (n := 4) (Nat.le_of_ble_eq_true rfl)
  rw [lg_entry_eq]
  generalize (lg_sl ([.ref (a 0), .int x1, .int x2]) ++ List.replicate (4 - (lg_sl ([.ref (a 0), .int x1, .int x2])).length) Slot.unset).toArray = ls at hl ⊢
  have hl : lv_has ls 4 [(0, .ref (a 0)), (1, .int x1), (2, .int x2)] := hl
  rw [m_X5_set] at h
  refine lv_iload_n hx hb dX5_set_0 rfl (lv_at hl 1 rfl) ?_
  obtain ⟨v1, g2, h⟩ := o_b h
  refine k_ro (va_runS (As := [.int x1]) (rest := []) ⟨hx, hb, hml, hown, hts⟩ (c_X5_isSetting l dC dI cI cF x1 v1 g2) (va_cwS 1 hts gX5_set_X5_isSetting rfl rfl rfl (by decide +kernel) ⟨Nat.le_of_ble_eq_true rfl, Nat.le_of_ble_eq_true rfl⟩) (k_prePU) rfl rfl hl.1 rfl (lv_room (Nat.le_of_ble_eq_true rfl)) dX5_set_1 ⟨Nat.zero_le _, Nat.zero_le _⟩) (st1 := [.int v1]) rfl ?_
  refine lv_if_ne (tgt := 17) hx hb dX5_set_4 (by decide) (fun c3 => ?_) (fun c3 => ?_)
  rotate_left
  · have h := o_t h c3
    have hu := Sum.inl.inj (Option.some.inj h)
    obtain ⟨sa, hsa⟩ := hE.2.1 (141, "no such setting") (by decide)
    exact vx_throwS (own := RX5) (cls := "java/lang/IndexOutOfBoundsException") (text := "no such setting") (names := ["java/lang/RuntimeException", "java/lang/Exception"]) (ik := 44) (is := 141) (ic := 48) (sa := sa) (A := A) hx hb hfl hown (by decide +kernel) (by decide +kernel) w44 wix1 hsa (vx_hat (fun w h => hts w (List.mem_cons_of_mem _ (List.mem_append_left _ (List.mem_append_right _ (h))))) (B := xW) (by decide +kernel) (fun w h => va_Nw.use (xW_ot w h) (hE.2.2.1 w h))) (by decide +kernel) hE.1.1 hE.1.2 hS (by rw [hml]; exact hl.1) dX5_set_7 dX5_set_10 dX5_set_11 dX5_set_13 dX5_set_16 (fun z hz => (hnx z hz).elim) (Nat.le_of_ble_eq_true rfl) (Nat.le_of_ble_eq_true rfl) (Nat.le_of_ble_eq_true rfl) (Nat.le_of_ble_eq_true rfl) hlocks (fun t hv hz hq => ⟨⟨by rw [← hu]; rfl, by rw [← hu]; exact k_Pkeep hP hq⟩, k_Fkeep hS hz hq⟩) hS.2.2 (Nat.le_refl _) (Nat.le_refl _)
  have h := o_f h c3
  refine lv_iload_n hx hb dX5_set_17 rfl (lv_at hl 1 rfl) ?_
  refine lv_iload_n hx hb dX5_set_18 rfl (lv_at hl 2 rfl) ?_
  obtain ⟨v4, g5, h⟩ := o_b h
  refine k_ro (va_runS (As := [.int x1, .int x2]) (rest := []) ⟨hx, hb, hml, hown, hts⟩ (c_X5_isValue l dC dI cI cF x1 x2 v4 g5) (va_cwS 2 hts gX5_set_X5_isValue rfl rfl rfl (by decide +kernel) ⟨Nat.le_of_ble_eq_true rfl, Nat.le_of_ble_eq_true rfl⟩) ((k_preE hE hS)) rfl rfl hl.1 rfl (lv_room (Nat.le_of_ble_eq_true rfl)) dX5_set_19 ⟨Nat.zero_le _, Nat.zero_le _⟩) (st1 := [.int v4]) rfl ?_
  refine lv_if_ne (tgt := 35) hx hb dX5_set_22 (by decide) (fun c6 => ?_) (fun c6 => ?_)
  rotate_left
  · have h := o_t h c6
    have hu := Sum.inl.inj (Option.some.inj h)
    obtain ⟨sa, hsa⟩ := hE.2.1 (147, "no value of this setting") (by decide)
    exact vx_throwS (own := RX5) (cls := "java/lang/IllegalArgumentException") (text := "no value of this setting") (names := ["java/lang/RuntimeException", "java/lang/Exception"]) (ik := 55) (is := 147) (ic := 59) (sa := sa) (A := A) hx hb hfl hown (by decide +kernel) (by decide +kernel) w55 wix2 hsa (vx_hat (fun w h => hts w (List.mem_cons_of_mem _ (List.mem_append_right _ (h)))) (B := xW) (by decide +kernel) (fun w h => va_Nw.use (xW_ot w h) (hE.2.2.1 w h))) (by decide +kernel) hE.1.1 hE.1.2 hS (by rw [hml]; exact hl.1) dX5_set_25 dX5_set_28 dX5_set_29 dX5_set_31 dX5_set_34 (fun z hz => (hnx z hz).elim) (Nat.le_of_ble_eq_true rfl) (Nat.le_of_ble_eq_true rfl) (Nat.le_of_ble_eq_true rfl) (Nat.le_of_ble_eq_true rfl) hlocks (fun t hv hz hq => ⟨⟨by rw [← hu]; rfl, by rw [← hu]; exact k_Pkeep hP hq⟩, k_Fkeep hS hz hq⟩) hS.2.2 (Nat.le_refl _) (Nat.le_refl _)
  have h := o_f h c6
  refine lv_aload_n hx hb dX5_set_35 rfl (lv_at hl 0 rfl) ?_
  refine va_get (D := (dC, dI)) (ci := 5) (v := .ref (a 26)) (C := RX5) (T := TX5) (N := 6) hx hb huX5 (fun _ h9 => h9) hown hK hP 0 rfl rfl 3 (by decide) w25 (fun _ h9 => h9) rfl dX5_set_36 ?_
  refine lv_aload_n hx hb dX5_set_39 rfl (lv_at hl 0 rfl) ?_
  refine va_get (D := (dC, dI)) (ci := 5) (v := .ref (a 1)) (C := RX5) (T := TX5) (N := 6) hx hb huX5 (fun _ h9 => h9) hown hK hP 0 rfl rfl 0 (by decide) w10 (fun _ h9 => h9) rfl dX5_set_40 ?_
  obtain ⟨v7, g8, h⟩ := o_b h
  refine k_rwL (va_runV (As := [.ref (a 1)]) (rest := []) ⟨hx, hb, hml, hown, hts⟩ (c_X3_save l dC dI cI cF (fun i => a (i + 26)) (fun i => a (i + 1)) (g_X5_history S) (g_X5_frame S) v7 g8 s.heap.size) (cwV 1 hts gX5_set_X3_save rfl rfl rfl (by decide +kernel) ⟨Nat.le_of_ble_eq_true rfl, Nat.le_of_ble_eq_true rfl⟩) (k_preLw (q0 := 0) (ci := 3) hK hP hD (LN_sw (LX5_frame_history a cI cF S (g_X5_frame S) v7)) rfl rfl rfl) rfl rfl hl.1 rfl (lv_room (Nat.le_of_ble_eq_true rfl)) dX5_set_43 ⟨Nat.zero_le _, Nat.zero_le _⟩) (st1 := []) rfl hP hD hS hA (wn := wX5 a cI cF (s_X5_history S v7)) (LN_sw (LX5_frame_history a cI cF S (g_X5_frame S) v7)) (fun H locs hP hD hS => ?_)
  refine lv_aload_n hx hb dX5_set_46 rfl (lv_at hl 0 rfl) ?_
  refine va_get (D := (dC, dI)) (ci := 5) (v := .ref (a 1)) (C := RX5) (T := TX5) (N := 6) hx hb huX5 (fun _ h9 => h9) hown hK hP 0 rfl rfl 0 (by decide) w10 (fun _ h9 => h9) rfl dX5_set_47 ?_
  refine lv_iload_n hx hb dX5_set_50 rfl (lv_at hl 1 rfl) ?_
  obtain ⟨v9, g10, h⟩ := o_b h
  refine k_ro (va_runV (As := [.int x1]) (rest := []) ⟨hx, hb, hml, hown, hts⟩ (c_X2_settingOf l dC dI cI cF (fun i => a (i + 1)) (g_X5_frame S) x1 v9 g10) (cwV 1 hts gX5_set_X2_settingOf rfl rfl rfl (by decide +kernel) ⟨Nat.le_of_ble_eq_true rfl, Nat.le_of_ble_eq_true rfl⟩) (k_preL (q0 := 0) (ci := 2) hK hP (LX5_frame a cI cF (s_X5_history S v7) (g_X5_frame S) (LN_id (fX2 (fun i => a (i + 1)) cI cF (g_X5_frame S) (g_X5_frame S)))) rfl rfl rfl) rfl rfl hl.1 rfl (lv_room (Nat.le_of_ble_eq_true rfl)) dX5_set_51 ⟨Nat.zero_le _, Nat.zero_le _⟩) (st1 := [.int v9]) rfl ?_
  refine lv_istore_n (lv' := [(3, .int v9), (0, .ref (a 0)), (1, .int x1), (2, .int x2)]) hx hb dX5_set_54 rfl hl (by decide) rfl (fun ls hl => ?_)
  refine lv_aload_n hx hb dX5_set_55 rfl (lv_at hl 1 rfl) ?_
  refine va_get (D := (dC, dI)) (ci := 5) (v := .ref (a 1)) (C := RX5) (T := TX5) (N := 6) hx hb huX5 (fun _ h9 => h9) hown hK hP 0 rfl rfl 0 (by decide) w10 (fun _ h9 => h9) rfl dX5_set_56 ?_
  refine lv_iload_n hx hb dX5_set_59 rfl (lv_at hl 2 rfl) ?_
  refine lv_iload_n hx hb dX5_set_60 rfl (lv_at hl 3 rfl) ?_
  obtain ⟨v11, g12, h⟩ := o_b h
  refine k_rwL (va_runV (As := [.int x1, .int x2]) (rest := []) ⟨hx, hb, hml, hown, hts⟩ (c_X2_changeSetting l dC dI cI cF (fun i => a (i + 1)) (g_X5_frame S) x1 x2 v11 g12 H.size) (cwV 2 hts gX5_set_X2_changeSetting rfl rfl rfl (by decide +kernel) ⟨Nat.le_of_ble_eq_true rfl, Nat.le_of_ble_eq_true rfl⟩) (k_preLw (q0 := 0) (ci := 2) hK hP hD (LX5_frame a cI cF (s_X5_history S v7) v11 (LN_id (fX2 (fun i => a (i + 1)) cI cF (g_X5_frame S) v11))) rfl rfl rfl) rfl rfl hl.1 rfl (lv_room (Nat.le_of_ble_eq_true rfl)) dX5_set_61 ⟨Nat.zero_le _, Nat.zero_le _⟩) (st1 := []) rfl hP hD hS hA (wn := wX5 a cI cF (s_X5_history (s_X5_frame S v11) v7)) (LX5_frame a cI cF (s_X5_history S v7) v11 (LN_id (fX2 (fun i => a (i + 1)) cI cF (g_X5_frame S) v11))) (fun H locs hP hD hS => ?_)
  refine lv_iload_n hx hb dX5_set_64 rfl (lv_at hl 0 rfl) ?_
  cases h

