-- X2_copyFrom X2_settingOf X2_changeSetting X2_isFed X2_pour X2_draftFor X2_layDown X2_whyNot X2_makeStep
def m_X2_copyFrom (S : S_X2) (S1 : S_X2) : Option (S_X2) := (m_X0_copyFrom (g_X2_cans S) (g_X2_cans S1)).bind fun v1 => ((m_X1_copyFrom (g_X2_feeler S) (g_X2_feeler S1)).bind fun v3 => (if (0 : Int32) < 0 ∨ (0 : Int32) < 0 ∨ (5 : Int32) < 0 ∨ 5 < (0 : Int32).toNatClampNeg + (5 : Int32).toNatClampNeg ∨ 5 < (0 : Int32).toNatClampNeg + (5 : Int32).toNatClampNeg then none else (if (g_X2_stopped S1) = 0 ∨ (g_X2_stopped S1) = 1 then (some (s_X2_cameOut (s_X2_filled (s_X2_waste (s_X2_lapped (s_X2_latestDraft (s_X2_steps (s_X2_stopped (s_X2_taker (s_X2_fed (s_X2_settings (s_X2_feeler (s_X2_cans S v1) v3) (va_cpy (g_X2_settings S1) (g_X2_settings S) (0 : Int32).toNatClampNeg (0 : Int32).toNatClampNeg (5 : Int32).toNatClampNeg)) (g_X2_fed S1)) (g_X2_taker S1)) (g_X2_stopped S1)) (g_X2_steps S1)) (g_X2_latestDraft S1)) (g_X2_lapped S1)) (g_X2_waste S1)) (g_X2_filled S1)) (g_X2_cameOut S1))) else none)))
set_option maxHeartbeats 4000000 in
set_option maxRecDepth 100000 in
theorem c_X2_copyFrom (l : Launch) (dC : Nat → ClassId) (dI : Nat → Nat → Nat) (cI cF : ClassId) (a : Nat → Nat) (b : Nat → Nat) (S : S_X2) (S1 : S_X2) (u : S_X2) (h : m_X2_copyFrom S S1 = some u) : cRW l (dC, dI) cI cF yX2_copyFrom wsX2_copyFrom ({ frames := 2, cells := 0, slots := 0, locals := 81 } : Room) [.ref (a 0), .ref (b 0)] (wX2 a cI cF S ++ wX2 b cI cF S1) (wX2 a cI cF u ++ wX2 b cI cF S1) (none) := by
  intro sz
  refine Met.ofW (cc := cX2_copyFrom) (maxL := 2) (ret := none) (by decide) rfl ?_
  intro p e s m args below meth c s₁ B hml hv
  obtain ⟨hargs, hsz, hP, hK, hD0⟩ := hv
  subst hargs
  have hx := B.exec
  have hb := B.bytes
  have hr := B.returns
  have hts := atoms_spec (ws := wsX2_copyFrom) B.pre
  have hown : s.vm.findClass RX2 = some m.cls := findClass_of_methodNamed B.named
  have hlocks := B.notSynchronized
  have w12 := hts (.fieldLink RX2 12 "DrawnSlivers$Frame" "cans" "LDrawnSlivers$Cans;") (List.mem_of_getElem? (i := 1) rfl)
  have w21 := hts (.fieldLink RX2 21 "DrawnSlivers$Frame" "feeler" "LDrawnSlivers$Feeler;") (List.mem_of_getElem? (i := 2) rfl)
  have w25 := hts (.fieldLink RX2 25 "DrawnSlivers$Frame" "settings" "[I") (List.mem_of_getElem? (i := 3) rfl)
  have w29 := hts (.fieldLink RX2 29 "DrawnSlivers$Frame" "fed" "I") (List.mem_of_getElem? (i := 12) rfl)
  have w33 := hts (.fieldLink RX2 33 "DrawnSlivers$Frame" "taker" "I") (List.mem_of_getElem? (i := 13) rfl)
  have w36 := hts (.fieldLink RX2 36 "DrawnSlivers$Frame" "stopped" "Z") (List.mem_of_getElem? (i := 14) rfl)
  have w40 := hts (.fieldLink RX2 40 "DrawnSlivers$Frame" "steps" "I") (List.mem_of_getElem? (i := 15) rfl)
  have w43 := hts (.fieldLink RX2 43 "DrawnSlivers$Frame" "latestDraft" "I") (List.mem_of_getElem? (i := 16) rfl)
  have w46 := hts (.fieldLink RX2 46 "DrawnSlivers$Frame" "lapped" "I") (List.mem_of_getElem? (i := 17) rfl)
  have w49 := hts (.fieldLink RX2 49 "DrawnSlivers$Frame" "waste" "I") (List.mem_of_getElem? (i := 18) rfl)
  have w52 := hts (.fieldLink RX2 52 "DrawnSlivers$Frame" "filled" "I") (List.mem_of_getElem? (i := 19) rfl)
  have w55 := hts (.fieldLink RX2 55 "DrawnSlivers$Frame" "cameOut" "I") (List.mem_of_getElem? (i := 20) rfl)
  have w58 := hts (.methodLink RX2 58 yX0_copyFrom) (List.mem_of_getElem? (i := 21) rfl)
  have w62 := hts (.methodLink RX2 62 yX1_copyFrom) (List.mem_of_getElem? (i := 30) rfl)
  have w65 := hts (.methodLink RX2 65 Lib.Math.min.name) (List.mem_of_getElem? (i := 4) rfl)
  have w71 := hts (.methodLink RX2 71 arraycopyName) (List.mem_of_getElem? (i := 8) rfl)
  have wci := hts (.initialized "java/lang/System") (List.mem_of_getElem? (i := 11) rfl)
  have wcn := hts (.native arraycopyName) (List.mem_of_getElem? (i := 9) rfl)
  have wcs := hts (.static arraycopyName) (List.mem_of_getElem? (i := 10) rfl)
  have wlmi := hts (.initialized "java/lang/Math") (List.mem_of_getElem? (i := 6) rfl)
  have wlminc := hts (.code Lib.Math.min.name Lib.Math.min.code 2 (some .int)) (List.mem_of_getElem? (i := 7) rfl)
  have wlmins := hts (.static Lib.Math.min.name) (List.mem_of_getElem? (i := 5) rfl)
  have huX2 : ∀ w ∈ u_ws RX2 TX2 12, w.before _ s = true := fun w h => hts w (List.mem_cons_of_mem _ (List.mem_append_left _ (List.mem_append_left _ (List.mem_append_right _ (h)))))
  subst hsz
  have hD := hD0.self (sz := s.heap.size)
  generalize hAe : va_A (wX2 a cI cF S ++ wX2 b cI cF S1) s.heap.size = A at hD ⊢
  have hA : ∀ q : Nat, s.heap.size ≤ q → A q := fun q h => by rw [← hAe]; exact Or.inr h
  have hS : va_S A s.heap s.heap [] := va_S.rf
  have hl := lv_entry ([.ref (a 0), .ref (b 0)]) (n := 2) (Nat.le_of_ble_eq_true rfl)
  rw [lg_entry_eq]
  generalize (lg_sl ([.ref (a 0), .ref (b 0)]) ++ List.replicate (2 - (lg_sl ([.ref (a 0), .ref (b 0)])).length) Slot.unset).toArray = ls at hl ⊢
  have hl : lv_has ls 2 [(0, .ref (a 0)), (1, .ref (b 0))] := hl
  rw [m_X2_copyFrom] at h
  refine lv_aload_n hx hb dX2_copyFrom_0 rfl (lv_at hl 0 rfl) ?_
  refine va_get (D := (dC, dI)) (ci := 2) (v := .ref (a 1)) (C := RX2) (T := TX2) (N := 12) hx hb huX2 (fun _ h9 => h9) hown hK hP 0 rfl rfl 0 (by decide) w12 (fun _ h9 => h9) rfl dX2_copyFrom_1 ?_
  refine lv_aload_n hx hb dX2_copyFrom_4 rfl (lv_at hl 1 rfl) ?_
  refine va_get (D := (dC, dI)) (ci := 2) (v := .ref (b 1)) (C := RX2) (T := TX2) (N := 12) hx hb huX2 (fun _ h9 => h9) hown hK hP 7 rfl rfl 0 (by decide) w12 (fun _ h9 => h9) rfl dX2_copyFrom_5 ?_
  obtain ⟨v1, g2, h⟩ := o_b h
  refine k_rw (va_runV (As := [.ref (b 1)]) (rest := []) ⟨hx, hb, hml, hown, hts⟩ (c_X0_copyFrom l dC dI cI cF (fun i => a (i + 1)) (fun i => b (i + 1)) (g_X2_cans S) (g_X2_cans S1) v1 g2 s.heap.size) (cwV 1 hts gX2_copyFrom_X0_copyFrom rfl rfl rfl (by decide +kernel) ⟨Nat.le_of_ble_eq_true rfl, Nat.le_of_ble_eq_true rfl⟩) (k_preVw (q0 := 0) (ci := 0) hK hP hD [1, 2, 3, 8, 9, 10] rfl rfl rfl rfl rfl) rfl rfl hl.1 rfl (lv_room (Nat.le_of_ble_eq_true rfl)) dX2_copyFrom_8 ⟨Nat.zero_le _, Nat.zero_le _⟩) (st1 := []) rfl hP hD hS hA [1, 2, 3, 8, 9, 10] rfl rfl (wn := wX2 a cI cF (s_X2_cans S v1) ++ wX2 b cI cF S1) rfl rfl rfl (fun H locs hP hD hS => ?_)
  refine lv_aload_n hx hb dX2_copyFrom_11 rfl (lv_at hl 0 rfl) ?_
  refine va_get (D := (dC, dI)) (ci := 2) (v := .ref (a 4)) (C := RX2) (T := TX2) (N := 12) hx hb huX2 (fun _ h9 => h9) hown hK hP 0 rfl rfl 1 (by decide) w21 (fun _ h9 => h9) rfl dX2_copyFrom_12 ?_
  refine lv_aload_n hx hb dX2_copyFrom_15 rfl (lv_at hl 1 rfl) ?_
  refine va_get (D := (dC, dI)) (ci := 2) (v := .ref (b 4)) (C := RX2) (T := TX2) (N := 12) hx hb huX2 (fun _ h9 => h9) hown hK hP 7 rfl rfl 1 (by decide) w21 (fun _ h9 => h9) rfl dX2_copyFrom_16 ?_
  obtain ⟨v3, g4, h⟩ := o_b h
  refine k_rw (va_runV (As := [.ref (b 4)]) (rest := []) ⟨hx, hb, hml, hown, hts⟩ (c_X1_copyFrom l dC dI cI cF (fun i => a (i + 4)) (fun i => b (i + 4)) (g_X2_feeler S) (g_X2_feeler S1) v3 g4 H.size) (cwV 1 hts gX2_copyFrom_X1_copyFrom rfl rfl rfl (by decide +kernel) ⟨Nat.le_of_ble_eq_true rfl, Nat.le_of_ble_eq_true rfl⟩) (k_preVw (q0 := 0) (ci := 1) hK hP hD [4, 5, 11, 12] rfl rfl rfl rfl rfl) rfl rfl hl.1 rfl (lv_room (Nat.le_of_ble_eq_true rfl)) dX2_copyFrom_19 ⟨Nat.zero_le _, Nat.zero_le _⟩) (st1 := []) rfl hP hD hS hA [4, 5, 11, 12] rfl rfl (wn := wX2 a cI cF (s_X2_feeler (s_X2_cans S v1) v3) ++ wX2 b cI cF S1) rfl rfl rfl (fun H locs hP hD hS => ?_)
  refine lv_aload_n hx hb dX2_copyFrom_22 rfl (lv_at hl 1 rfl) ?_
  refine va_get (D := (dC, dI)) (ci := 2) (v := .ref (b 6)) (C := RX2) (T := TX2) (N := 12) hx hb huX2 (fun _ h9 => h9) hown hK hP 7 rfl rfl 2 (by decide) w25 (fun _ h9 => h9) rfl dX2_copyFrom_23 ?_
  refine lv_iconst (v := (0 : Int32)) hx hb dX2_copyFrom_26 (by decide) ?_
  refine lv_aload_n hx hb dX2_copyFrom_27 rfl (lv_at hl 0 rfl) ?_
  refine va_get (D := (dC, dI)) (ci := 2) (v := .ref (a 6)) (C := RX2) (T := TX2) (N := 12) hx hb huX2 (fun _ h9 => h9) hown hK hP 0 rfl rfl 2 (by decide) w25 (fun _ h9 => h9) rfl dX2_copyFrom_28 ?_
  refine lv_iconst (v := (0 : Int32)) hx hb dX2_copyFrom_31 (by decide) ?_
  refine lv_aload_n hx hb dX2_copyFrom_32 rfl (lv_at hl 1 rfl) ?_
  refine va_get (D := (dC, dI)) (ci := 2) (v := .ref (b 6)) (C := RX2) (T := TX2) (N := 12) hx hb huX2 (fun _ h9 => h9) hown hK hP 7 rfl rfl 2 (by decide) w25 (fun _ h9 => h9) rfl dX2_copyFrom_33 ?_
  refine va_alen (v := 5) hx hb hK hP 13 0 rfl rfl rfl dX2_copyFrom_36 ?_
  refine lv_aload_n hx hb dX2_copyFrom_37 rfl (lv_at hl 0 rfl) ?_
  refine va_get (D := (dC, dI)) (ci := 2) (v := .ref (a 6)) (C := RX2) (T := TX2) (N := 12) hx hb huX2 (fun _ h9 => h9) hown hK hP 0 rfl rfl 2 (by decide) w25 (fun _ h9 => h9) rfl dX2_copyFrom_38 ?_
  refine va_alen (v := 5) hx hb hK hP 6 0 rfl rfl rfl dX2_copyFrom_41 ?_
  refine va_mmin hx hb (by rw [hml]; exact hl.1.symm) hown w65 wlmins wlmi wlminc (Nat.le_of_ble_eq_true rfl) (Nat.le_of_ble_eq_true rfl) (Nat.zero_le _) (Nat.zero_le _) dX2_copyFrom_42 ?_
  refine lv_nmi (y := (5 : Int32)) (by decide) ?_
  obtain ⟨i5, h⟩ := o_in h
  refine va_copyi hx hb (by rw [hml]; exact hl.1.symm) hown w71 wcn wcs wci hK hP hD hS 13 6 0 0 rfl rfl rfl rfl rfl (k_cp0 i5) (k_cp1 i5) (k_cp2 i5) (k_cp3 i5) (k_cp4 i5) (fun _ _ => rfl) (Nat.le_of_ble_eq_true rfl) (by decide) dX2_copyFrom_45 (fun H locs hP hD hS => ?_)
  have hP : va_P (dC, dI) vwCl (wX2 a cI cF (s_X2_settings (s_X2_feeler (s_X2_cans S v1) v3) (va_cpy (g_X2_settings S1) (g_X2_settings S) (0 : Int32).toNatClampNeg (0 : Int32).toNatClampNeg (5 : Int32).toNatClampNeg)) ++ wX2 b cI cF S1) H := hP
  have hD : va_D A (wX2 a cI cF (s_X2_settings (s_X2_feeler (s_X2_cans S v1) v3) (va_cpy (g_X2_settings S1) (g_X2_settings S) (0 : Int32).toNatClampNeg (0 : Int32).toNatClampNeg (5 : Int32).toNatClampNeg)) ++ wX2 b cI cF S1) := hD
  refine lv_aload_n hx hb dX2_copyFrom_48 rfl (lv_at hl 0 rfl) ?_
  refine lv_aload_n hx hb dX2_copyFrom_49 rfl (lv_at hl 1 rfl) ?_
  refine va_get (D := (dC, dI)) (ci := 2) (v := .int (g_X2_fed S1)) (C := RX2) (T := TX2) (N := 12) hx hb huX2 (fun _ h9 => h9) hown hK hP 7 rfl rfl 3 (by decide) w29 (fun _ h9 => h9) rfl dX2_copyFrom_50 ?_
  refine va_put (D := (dC, dI)) (ci := 2) (v := .int (g_X2_fed S1)) (ty := .int) (C := RX2) (T := TX2) (N := 12) hx hb huX2 (fun _ h9 => h9) tyX2 tyX2_ok nmX2 hown hK hP hD hS 0 rfl rfl 3 (by decide) w29 (fun _ h9 => h9) rfl (by decide +kernel) rfl rfl (Nat.le_of_ble_eq_true rfl) dX2_copyFrom_53 (fun H locs hP hD hS => ?_)
  have hP : va_P (dC, dI) vwCl (wX2 a cI cF (s_X2_fed (s_X2_settings (s_X2_feeler (s_X2_cans S v1) v3) (va_cpy (g_X2_settings S1) (g_X2_settings S) (0 : Int32).toNatClampNeg (0 : Int32).toNatClampNeg (5 : Int32).toNatClampNeg)) (g_X2_fed S1)) ++ wX2 b cI cF S1) H := hP
  have hD : va_D A (wX2 a cI cF (s_X2_fed (s_X2_settings (s_X2_feeler (s_X2_cans S v1) v3) (va_cpy (g_X2_settings S1) (g_X2_settings S) (0 : Int32).toNatClampNeg (0 : Int32).toNatClampNeg (5 : Int32).toNatClampNeg)) (g_X2_fed S1)) ++ wX2 b cI cF S1) := hD
  refine lv_aload_n hx hb dX2_copyFrom_56 rfl (lv_at hl 0 rfl) ?_
  refine lv_aload_n hx hb dX2_copyFrom_57 rfl (lv_at hl 1 rfl) ?_
  refine va_get (D := (dC, dI)) (ci := 2) (v := .int (g_X2_taker S1)) (C := RX2) (T := TX2) (N := 12) hx hb huX2 (fun _ h9 => h9) hown hK hP 7 rfl rfl 4 (by decide) w33 (fun _ h9 => h9) rfl dX2_copyFrom_58 ?_
  refine va_put (D := (dC, dI)) (ci := 2) (v := .int (g_X2_taker S1)) (ty := .int) (C := RX2) (T := TX2) (N := 12) hx hb huX2 (fun _ h9 => h9) tyX2 tyX2_ok nmX2 hown hK hP hD hS 0 rfl rfl 4 (by decide) w33 (fun _ h9 => h9) rfl (by decide +kernel) rfl rfl (Nat.le_of_ble_eq_true rfl) dX2_copyFrom_61 (fun H locs hP hD hS => ?_)
  have hP : va_P (dC, dI) vwCl (wX2 a cI cF (s_X2_taker (s_X2_fed (s_X2_settings (s_X2_feeler (s_X2_cans S v1) v3) (va_cpy (g_X2_settings S1) (g_X2_settings S) (0 : Int32).toNatClampNeg (0 : Int32).toNatClampNeg (5 : Int32).toNatClampNeg)) (g_X2_fed S1)) (g_X2_taker S1)) ++ wX2 b cI cF S1) H := hP
  have hD : va_D A (wX2 a cI cF (s_X2_taker (s_X2_fed (s_X2_settings (s_X2_feeler (s_X2_cans S v1) v3) (va_cpy (g_X2_settings S1) (g_X2_settings S) (0 : Int32).toNatClampNeg (0 : Int32).toNatClampNeg (5 : Int32).toNatClampNeg)) (g_X2_fed S1)) (g_X2_taker S1)) ++ wX2 b cI cF S1) := hD
  refine lv_aload_n hx hb dX2_copyFrom_64 rfl (lv_at hl 0 rfl) ?_
  refine lv_aload_n hx hb dX2_copyFrom_65 rfl (lv_at hl 1 rfl) ?_
  refine va_get (D := (dC, dI)) (ci := 2) (v := .int (g_X2_stopped S1)) (C := RX2) (T := TX2) (N := 12) hx hb huX2 (fun _ h9 => h9) hown hK hP 7 rfl rfl 5 (by decide) w36 (fun _ h9 => h9) rfl dX2_copyFrom_66 ?_
  obtain ⟨b6, h⟩ := o_ok h
  refine va_put (D := (dC, dI)) (ci := 2) (v := .int (g_X2_stopped S1)) (ty := .boolean) (C := RX2) (T := TX2) (N := 12) hx hb huX2 (fun _ h9 => h9) tyX2 tyX2_ok nmX2 hown hK hP hD hS 0 rfl rfl 5 (by decide) w36 (fun _ h9 => h9) rfl (by decide +kernel) (k_bool b6) (k_fitb b6) (Nat.le_of_ble_eq_true rfl) dX2_copyFrom_69 (fun H locs hP hD hS => ?_)
  have hP : va_P (dC, dI) vwCl (wX2 a cI cF (s_X2_stopped (s_X2_taker (s_X2_fed (s_X2_settings (s_X2_feeler (s_X2_cans S v1) v3) (va_cpy (g_X2_settings S1) (g_X2_settings S) (0 : Int32).toNatClampNeg (0 : Int32).toNatClampNeg (5 : Int32).toNatClampNeg)) (g_X2_fed S1)) (g_X2_taker S1)) (g_X2_stopped S1)) ++ wX2 b cI cF S1) H := hP
  have hD : va_D A (wX2 a cI cF (s_X2_stopped (s_X2_taker (s_X2_fed (s_X2_settings (s_X2_feeler (s_X2_cans S v1) v3) (va_cpy (g_X2_settings S1) (g_X2_settings S) (0 : Int32).toNatClampNeg (0 : Int32).toNatClampNeg (5 : Int32).toNatClampNeg)) (g_X2_fed S1)) (g_X2_taker S1)) (g_X2_stopped S1)) ++ wX2 b cI cF S1) := hD
  refine lv_aload_n hx hb dX2_copyFrom_72 rfl (lv_at hl 0 rfl) ?_
  refine lv_aload_n hx hb dX2_copyFrom_73 rfl (lv_at hl 1 rfl) ?_
  refine va_get (D := (dC, dI)) (ci := 2) (v := .int (g_X2_steps S1)) (C := RX2) (T := TX2) (N := 12) hx hb huX2 (fun _ h9 => h9) hown hK hP 7 rfl rfl 6 (by decide) w40 (fun _ h9 => h9) rfl dX2_copyFrom_74 ?_
  refine va_put (D := (dC, dI)) (ci := 2) (v := .int (g_X2_steps S1)) (ty := .int) (C := RX2) (T := TX2) (N := 12) hx hb huX2 (fun _ h9 => h9) tyX2 tyX2_ok nmX2 hown hK hP hD hS 0 rfl rfl 6 (by decide) w40 (fun _ h9 => h9) rfl (by decide +kernel) rfl rfl (Nat.le_of_ble_eq_true rfl) dX2_copyFrom_77 (fun H locs hP hD hS => ?_)
  have hP : va_P (dC, dI) vwCl (wX2 a cI cF (s_X2_steps (s_X2_stopped (s_X2_taker (s_X2_fed (s_X2_settings (s_X2_feeler (s_X2_cans S v1) v3) (va_cpy (g_X2_settings S1) (g_X2_settings S) (0 : Int32).toNatClampNeg (0 : Int32).toNatClampNeg (5 : Int32).toNatClampNeg)) (g_X2_fed S1)) (g_X2_taker S1)) (g_X2_stopped S1)) (g_X2_steps S1)) ++ wX2 b cI cF S1) H := hP
  have hD : va_D A (wX2 a cI cF (s_X2_steps (s_X2_stopped (s_X2_taker (s_X2_fed (s_X2_settings (s_X2_feeler (s_X2_cans S v1) v3) (va_cpy (g_X2_settings S1) (g_X2_settings S) (0 : Int32).toNatClampNeg (0 : Int32).toNatClampNeg (5 : Int32).toNatClampNeg)) (g_X2_fed S1)) (g_X2_taker S1)) (g_X2_stopped S1)) (g_X2_steps S1)) ++ wX2 b cI cF S1) := hD
  refine lv_aload_n hx hb dX2_copyFrom_80 rfl (lv_at hl 0 rfl) ?_
  refine lv_aload_n hx hb dX2_copyFrom_81 rfl (lv_at hl 1 rfl) ?_
  refine va_get (D := (dC, dI)) (ci := 2) (v := .int (g_X2_latestDraft S1)) (C := RX2) (T := TX2) (N := 12) hx hb huX2 (fun _ h9 => h9) hown hK hP 7 rfl rfl 7 (by decide) w43 (fun _ h9 => h9) rfl dX2_copyFrom_82 ?_
  refine va_put (D := (dC, dI)) (ci := 2) (v := .int (g_X2_latestDraft S1)) (ty := .int) (C := RX2) (T := TX2) (N := 12) hx hb huX2 (fun _ h9 => h9) tyX2 tyX2_ok nmX2 hown hK hP hD hS 0 rfl rfl 7 (by decide) w43 (fun _ h9 => h9) rfl (by decide +kernel) rfl rfl (Nat.le_of_ble_eq_true rfl) dX2_copyFrom_85 (fun H locs hP hD hS => ?_)
  have hP : va_P (dC, dI) vwCl (wX2 a cI cF (s_X2_latestDraft (s_X2_steps (s_X2_stopped (s_X2_taker (s_X2_fed (s_X2_settings (s_X2_feeler (s_X2_cans S v1) v3) (va_cpy (g_X2_settings S1) (g_X2_settings S) (0 : Int32).toNatClampNeg (0 : Int32).toNatClampNeg (5 : Int32).toNatClampNeg)) (g_X2_fed S1)) (g_X2_taker S1)) (g_X2_stopped S1)) (g_X2_steps S1)) (g_X2_latestDraft S1)) ++ wX2 b cI cF S1) H := hP
  have hD : va_D A (wX2 a cI cF (s_X2_latestDraft (s_X2_steps (s_X2_stopped (s_X2_taker (s_X2_fed (s_X2_settings (s_X2_feeler (s_X2_cans S v1) v3) (va_cpy (g_X2_settings S1) (g_X2_settings S) (0 : Int32).toNatClampNeg (0 : Int32).toNatClampNeg (5 : Int32).toNatClampNeg)) (g_X2_fed S1)) (g_X2_taker S1)) (g_X2_stopped S1)) (g_X2_steps S1)) (g_X2_latestDraft S1)) ++ wX2 b cI cF S1) := hD
  refine lv_aload_n hx hb dX2_copyFrom_88 rfl (lv_at hl 0 rfl) ?_
  refine lv_aload_n hx hb dX2_copyFrom_89 rfl (lv_at hl 1 rfl) ?_
  refine va_get (D := (dC, dI)) (ci := 2) (v := .int (g_X2_lapped S1)) (C := RX2) (T := TX2) (N := 12) hx hb huX2 (fun _ h9 => h9) hown hK hP 7 rfl rfl 8 (by decide) w46 (fun _ h9 => h9) rfl dX2_copyFrom_90 ?_
  refine va_put (D := (dC, dI)) (ci := 2) (v := .int (g_X2_lapped S1)) (ty := .int) (C := RX2) (T := TX2) (N := 12) hx hb huX2 (fun _ h9 => h9) tyX2 tyX2_ok nmX2 hown hK hP hD hS 0 rfl rfl 8 (by decide) w46 (fun _ h9 => h9) rfl (by decide +kernel) rfl rfl (Nat.le_of_ble_eq_true rfl) dX2_copyFrom_93 (fun H locs hP hD hS => ?_)
  have hP : va_P (dC, dI) vwCl (wX2 a cI cF (s_X2_lapped (s_X2_latestDraft (s_X2_steps (s_X2_stopped (s_X2_taker (s_X2_fed (s_X2_settings (s_X2_feeler (s_X2_cans S v1) v3) (va_cpy (g_X2_settings S1) (g_X2_settings S) (0 : Int32).toNatClampNeg (0 : Int32).toNatClampNeg (5 : Int32).toNatClampNeg)) (g_X2_fed S1)) (g_X2_taker S1)) (g_X2_stopped S1)) (g_X2_steps S1)) (g_X2_latestDraft S1)) (g_X2_lapped S1)) ++ wX2 b cI cF S1) H := hP
  have hD : va_D A (wX2 a cI cF (s_X2_lapped (s_X2_latestDraft (s_X2_steps (s_X2_stopped (s_X2_taker (s_X2_fed (s_X2_settings (s_X2_feeler (s_X2_cans S v1) v3) (va_cpy (g_X2_settings S1) (g_X2_settings S) (0 : Int32).toNatClampNeg (0 : Int32).toNatClampNeg (5 : Int32).toNatClampNeg)) (g_X2_fed S1)) (g_X2_taker S1)) (g_X2_stopped S1)) (g_X2_steps S1)) (g_X2_latestDraft S1)) (g_X2_lapped S1)) ++ wX2 b cI cF S1) := hD
  refine lv_aload_n hx hb dX2_copyFrom_96 rfl (lv_at hl 0 rfl) ?_
  refine lv_aload_n hx hb dX2_copyFrom_97 rfl (lv_at hl 1 rfl) ?_
  refine va_get (D := (dC, dI)) (ci := 2) (v := .int (g_X2_waste S1)) (C := RX2) (T := TX2) (N := 12) hx hb huX2 (fun _ h9 => h9) hown hK hP 7 rfl rfl 9 (by decide) w49 (fun _ h9 => h9) rfl dX2_copyFrom_98 ?_
  refine va_put (D := (dC, dI)) (ci := 2) (v := .int (g_X2_waste S1)) (ty := .int) (C := RX2) (T := TX2) (N := 12) hx hb huX2 (fun _ h9 => h9) tyX2 tyX2_ok nmX2 hown hK hP hD hS 0 rfl rfl 9 (by decide) w49 (fun _ h9 => h9) rfl (by decide +kernel) rfl rfl (Nat.le_of_ble_eq_true rfl) dX2_copyFrom_101 (fun H locs hP hD hS => ?_)
  have hP : va_P (dC, dI) vwCl (wX2 a cI cF (s_X2_waste (s_X2_lapped (s_X2_latestDraft (s_X2_steps (s_X2_stopped (s_X2_taker (s_X2_fed (s_X2_settings (s_X2_feeler (s_X2_cans S v1) v3) (va_cpy (g_X2_settings S1) (g_X2_settings S) (0 : Int32).toNatClampNeg (0 : Int32).toNatClampNeg (5 : Int32).toNatClampNeg)) (g_X2_fed S1)) (g_X2_taker S1)) (g_X2_stopped S1)) (g_X2_steps S1)) (g_X2_latestDraft S1)) (g_X2_lapped S1)) (g_X2_waste S1)) ++ wX2 b cI cF S1) H := hP
  have hD : va_D A (wX2 a cI cF (s_X2_waste (s_X2_lapped (s_X2_latestDraft (s_X2_steps (s_X2_stopped (s_X2_taker (s_X2_fed (s_X2_settings (s_X2_feeler (s_X2_cans S v1) v3) (va_cpy (g_X2_settings S1) (g_X2_settings S) (0 : Int32).toNatClampNeg (0 : Int32).toNatClampNeg (5 : Int32).toNatClampNeg)) (g_X2_fed S1)) (g_X2_taker S1)) (g_X2_stopped S1)) (g_X2_steps S1)) (g_X2_latestDraft S1)) (g_X2_lapped S1)) (g_X2_waste S1)) ++ wX2 b cI cF S1) := hD
  refine lv_aload_n hx hb dX2_copyFrom_104 rfl (lv_at hl 0 rfl) ?_
  refine lv_aload_n hx hb dX2_copyFrom_105 rfl (lv_at hl 1 rfl) ?_
  refine va_get (D := (dC, dI)) (ci := 2) (v := .int (g_X2_filled S1)) (C := RX2) (T := TX2) (N := 12) hx hb huX2 (fun _ h9 => h9) hown hK hP 7 rfl rfl 10 (by decide) w52 (fun _ h9 => h9) rfl dX2_copyFrom_106 ?_
  refine va_put (D := (dC, dI)) (ci := 2) (v := .int (g_X2_filled S1)) (ty := .int) (C := RX2) (T := TX2) (N := 12) hx hb huX2 (fun _ h9 => h9) tyX2 tyX2_ok nmX2 hown hK hP hD hS 0 rfl rfl 10 (by decide) w52 (fun _ h9 => h9) rfl (by decide +kernel) rfl rfl (Nat.le_of_ble_eq_true rfl) dX2_copyFrom_109 (fun H locs hP hD hS => ?_)
  have hP : va_P (dC, dI) vwCl (wX2 a cI cF (s_X2_filled (s_X2_waste (s_X2_lapped (s_X2_latestDraft (s_X2_steps (s_X2_stopped (s_X2_taker (s_X2_fed (s_X2_settings (s_X2_feeler (s_X2_cans S v1) v3) (va_cpy (g_X2_settings S1) (g_X2_settings S) (0 : Int32).toNatClampNeg (0 : Int32).toNatClampNeg (5 : Int32).toNatClampNeg)) (g_X2_fed S1)) (g_X2_taker S1)) (g_X2_stopped S1)) (g_X2_steps S1)) (g_X2_latestDraft S1)) (g_X2_lapped S1)) (g_X2_waste S1)) (g_X2_filled S1)) ++ wX2 b cI cF S1) H := hP
  have hD : va_D A (wX2 a cI cF (s_X2_filled (s_X2_waste (s_X2_lapped (s_X2_latestDraft (s_X2_steps (s_X2_stopped (s_X2_taker (s_X2_fed (s_X2_settings (s_X2_feeler (s_X2_cans S v1) v3) (va_cpy (g_X2_settings S1) (g_X2_settings S) (0 : Int32).toNatClampNeg (0 : Int32).toNatClampNeg (5 : Int32).toNatClampNeg)) (g_X2_fed S1)) (g_X2_taker S1)) (g_X2_stopped S1)) (g_X2_steps S1)) (g_X2_latestDraft S1)) (g_X2_lapped S1)) (g_X2_waste S1)) (g_X2_filled S1)) ++ wX2 b cI cF S1) := hD
  refine lv_aload_n hx hb dX2_copyFrom_112 rfl (lv_at hl 0 rfl) ?_
  refine lv_aload_n hx hb dX2_copyFrom_113 rfl (lv_at hl 1 rfl) ?_
  refine va_get (D := (dC, dI)) (ci := 2) (v := .int (g_X2_cameOut S1)) (C := RX2) (T := TX2) (N := 12) hx hb huX2 (fun _ h9 => h9) hown hK hP 7 rfl rfl 11 (by decide) w55 (fun _ h9 => h9) rfl dX2_copyFrom_114 ?_
  refine va_put (D := (dC, dI)) (ci := 2) (v := .int (g_X2_cameOut S1)) (ty := .int) (C := RX2) (T := TX2) (N := 12) hx hb huX2 (fun _ h9 => h9) tyX2 tyX2_ok nmX2 hown hK hP hD hS 0 rfl rfl 11 (by decide) w55 (fun _ h9 => h9) rfl (by decide +kernel) rfl rfl (Nat.le_of_ble_eq_true rfl) dX2_copyFrom_117 (fun H locs hP hD hS => ?_)
  have hP : va_P (dC, dI) vwCl (wX2 a cI cF (s_X2_cameOut (s_X2_filled (s_X2_waste (s_X2_lapped (s_X2_latestDraft (s_X2_steps (s_X2_stopped (s_X2_taker (s_X2_fed (s_X2_settings (s_X2_feeler (s_X2_cans S v1) v3) (va_cpy (g_X2_settings S1) (g_X2_settings S) (0 : Int32).toNatClampNeg (0 : Int32).toNatClampNeg (5 : Int32).toNatClampNeg)) (g_X2_fed S1)) (g_X2_taker S1)) (g_X2_stopped S1)) (g_X2_steps S1)) (g_X2_latestDraft S1)) (g_X2_lapped S1)) (g_X2_waste S1)) (g_X2_filled S1)) (g_X2_cameOut S1)) ++ wX2 b cI cF S1) H := hP
  have hD : va_D A (wX2 a cI cF (s_X2_cameOut (s_X2_filled (s_X2_waste (s_X2_lapped (s_X2_latestDraft (s_X2_steps (s_X2_stopped (s_X2_taker (s_X2_fed (s_X2_settings (s_X2_feeler (s_X2_cans S v1) v3) (va_cpy (g_X2_settings S1) (g_X2_settings S) (0 : Int32).toNatClampNeg (0 : Int32).toNatClampNeg (5 : Int32).toNatClampNeg)) (g_X2_fed S1)) (g_X2_taker S1)) (g_X2_stopped S1)) (g_X2_steps S1)) (g_X2_latestDraft S1)) (g_X2_lapped S1)) (g_X2_waste S1)) (g_X2_filled S1)) (g_X2_cameOut S1)) ++ wX2 b cI cF S1) := hD
  have hu := Option.some.inj h
  exact W.vret hx hb hr (fun t ht hW => ⟨⟨rfl, by rw [ht, ← hu]; exact hP⟩, hS.F ht⟩) hS.2.2 dX2_copyFrom_120

def m_X2_settingOf (S : S_X2) (x1 : Int32) : Option (Int32) := if x1 < 0 then (some (-1 : Int32)) else (if (5 : Int32) ≤ x1 then (some (-1 : Int32)) else (if x1 < 0 ∨ 5 ≤ x1.toNatClampNeg then none else (some ((g_X2_settings S) x1.toNatClampNeg))))
set_option maxHeartbeats 4000000 in
set_option maxRecDepth 100000 in
theorem c_X2_settingOf (l : Launch) (dC : Nat → ClassId) (dI : Nat → Nat → Nat) (cI cF : ClassId) (a : Nat → Nat) (S : S_X2) (x1 : Int32) (u : Int32) (h : m_X2_settingOf S x1 = some u) : cRO l (dC, dI) cI cF yX2_settingOf wsX2_settingOf ({ frames := 0, cells := 0, slots := 0, locals := 0 } : Room) [.ref (a 0), .int x1] (wX2 a cI cF S) (some (.int u)) := by
  refine Met.ofW (cc := cX2_settingOf) (maxL := 2) (ret := (some .int)) (by decide) rfl ?_
  intro p e s m args below meth c s₁ B hml hv
  obtain ⟨hargs, hP, hK⟩ := hv
  subst hargs
  have hx := B.exec
  have hb := B.bytes
  have hr := B.returns
  have hts := atoms_spec (ws := wsX2_settingOf) B.pre
  have hown : s.vm.findClass RX2 = some m.cls := findClass_of_methodNamed B.named
  have hlocks := B.notSynchronized
  have w25 := hts (.fieldLink RX2 25 "DrawnSlivers$Frame" "settings" "[I") (List.mem_of_getElem? (i := 1) rfl)
  have huX2 : ∀ w ∈ u_ws RX2 TX2 12, w.before _ s = true := fun w h => hts w (List.mem_cons_of_mem _ (List.mem_append_right _ (h)))
  have hl := lv_entry ([.ref (a 0), .int x1]) (n := 2) (Nat.le_of_ble_eq_true rfl)
  rw [lg_entry_eq]
  generalize (lg_sl ([.ref (a 0), .int x1]) ++ List.replicate (2 - (lg_sl ([.ref (a 0), .int x1])).length) Slot.unset).toArray = ls at hl ⊢
  have hl : lv_has ls 2 [(0, .ref (a 0)), (1, .int x1)] := hl
  rw [m_X2_settingOf] at h
  refine lv_iload_n hx hb dX2_settingOf_0 rfl (lv_at hl 1 rfl) ?_
  refine lv_if_lt (tgt := 22) hx hb dX2_settingOf_1 (by decide) (fun c1 => ?_) (fun c1 => ?_)
  · have h := o_t h c1
    refine lv_iconst (v := (-1 : Int32)) hx hb dX2_settingOf_22 (by decide) ?_
    have hu := Option.some.inj h
    exact W.iret (v := (-1 : Int32)) hx hb hr (fun t ht hW => ⟨congrArg (fun z => Outcome.returned (some (Value.int z))) hu, ht⟩) (fun q hq => absurd hq List.not_mem_nil) dX2_settingOf_23
  have h := o_f h c1
  refine lv_iload_n hx hb dX2_settingOf_4 rfl (lv_at hl 1 rfl) ?_
  refine lv_aload_n hx hb dX2_settingOf_5 rfl (lv_at hl 0 rfl) ?_
  refine va_get (D := (dC, dI)) (ci := 2) (v := .ref (a 6)) (C := RX2) (T := TX2) (N := 12) hx hb huX2 (fun _ h9 => h9) hown hK hP 0 rfl rfl 2 (by decide) w25 (fun _ h9 => h9) rfl dX2_settingOf_6 ?_
  refine va_alen (v := 5) hx hb hK hP 6 0 rfl rfl rfl dX2_settingOf_9 ?_
  refine lv_icmp_ge (tgt := 22) hx hb dX2_settingOf_10 (by decide) (fun c2 => ?_) (fun c2 => ?_)
  · have h := o_t h c2
    refine lv_iconst (v := (-1 : Int32)) hx hb dX2_settingOf_22 (by decide) ?_
    have hu := Option.some.inj h
    exact W.iret (v := (-1 : Int32)) hx hb hr (fun t ht hW => ⟨congrArg (fun z => Outcome.returned (some (Value.int z))) hu, ht⟩) (fun q hq => absurd hq List.not_mem_nil) dX2_settingOf_23
  have h := o_f h c2
  refine lv_aload_n hx hb dX2_settingOf_13 rfl (lv_at hl 0 rfl) ?_
  refine va_get (D := (dC, dI)) (ci := 2) (v := .ref (a 6)) (C := RX2) (T := TX2) (N := 12) hx hb huX2 (fun _ h9 => h9) hown hK hP 0 rfl rfl 2 (by decide) w25 (fun _ h9 => h9) rfl dX2_settingOf_14 ?_
  refine lv_iload_n hx hb dX2_settingOf_17 rfl (lv_at hl 1 rfl) ?_
  obtain ⟨i3, h⟩ := o_in h
  refine va_iald hx hb hK hP 6 0 rfl rfl i3 dX2_settingOf_18 ?_
  refine lv_goto (tgt := 23) hx hb dX2_settingOf_19 (by decide) ?_
  have hu := Option.some.inj h
  exact W.iret (v := (g_X2_settings S) x1.toNatClampNeg) hx hb hr (fun t ht hW => ⟨congrArg (fun z => Outcome.returned (some (Value.int z))) hu, ht⟩) (fun q hq => absurd hq List.not_mem_nil) dX2_settingOf_23

def m_X2_changeSetting (S : S_X2) (x1 : Int32) (x2 : Int32) : Option (S_X2) := if x1 < 0 then (some S) else (if (5 : Int32) ≤ x1 then (some S) else (if x1 < 0 ∨ 5 ≤ x1.toNatClampNeg then none else (some (s_X2_settings S (upd (g_X2_settings S) x1.toNatClampNeg x2)))))
set_option maxHeartbeats 4000000 in
set_option maxRecDepth 100000 in
theorem c_X2_changeSetting (l : Launch) (dC : Nat → ClassId) (dI : Nat → Nat → Nat) (cI cF : ClassId) (a : Nat → Nat) (S : S_X2) (x1 : Int32) (x2 : Int32) (u : S_X2) (h : m_X2_changeSetting S x1 x2 = some u) : cRW l (dC, dI) cI cF yX2_changeSetting wsX2_changeSetting ({ frames := 0, cells := 0, slots := 0, locals := 0 } : Room) [.ref (a 0), .int x1, .int x2] (wX2 a cI cF S) (wX2 a cI cF u) (none) := by
  intro sz
  refine Met.ofW (cc := cX2_changeSetting) (maxL := 3) (ret := none) (by decide) rfl ?_
  intro p e s m args below meth c s₁ B hml hv
  obtain ⟨hargs, hsz, hP, hK, hD0⟩ := hv
  subst hargs
  have hx := B.exec
  have hb := B.bytes
  have hr := B.returns
  have hts := atoms_spec (ws := wsX2_changeSetting) B.pre
  have hown : s.vm.findClass RX2 = some m.cls := findClass_of_methodNamed B.named
  have hlocks := B.notSynchronized
  have w25 := hts (.fieldLink RX2 25 "DrawnSlivers$Frame" "settings" "[I") (List.mem_of_getElem? (i := 1) rfl)
  have huX2 : ∀ w ∈ u_ws RX2 TX2 12, w.before _ s = true := fun w h => hts w (List.mem_cons_of_mem _ (List.mem_append_right _ (h)))
  subst hsz
  have hD := hD0.self (sz := s.heap.size)
  generalize hAe : va_A (wX2 a cI cF S) s.heap.size = A at hD ⊢
  have hA : ∀ q : Nat, s.heap.size ≤ q → A q := fun q h => by rw [← hAe]; exact Or.inr h
  have hS : va_S A s.heap s.heap [] := va_S.rf
  have hl := lv_entry ([.ref (a 0), .int x1, .int x2]) (n := 3) (Nat.le_of_ble_eq_true rfl)
  rw [lg_entry_eq]
  generalize (lg_sl ([.ref (a 0), .int x1, .int x2]) ++ List.replicate (3 - (lg_sl ([.ref (a 0), .int x1, .int x2])).length) Slot.unset).toArray = ls at hl ⊢
  have hl : lv_has ls 3 [(0, .ref (a 0)), (1, .int x1), (2, .int x2)] := hl
  rw [m_X2_changeSetting] at h
  refine lv_iload_n hx hb dX2_changeSetting_0 rfl (lv_at hl 1 rfl) ?_
  refine lv_if_lt (tgt := 20) hx hb dX2_changeSetting_1 (by decide) (fun c1 => ?_) (fun c1 => ?_)
  · have h := o_t h c1
    have hu := Option.some.inj h
    exact W.vret hx hb hr (fun t ht hW => ⟨⟨rfl, by rw [ht, ← hu]; exact hP⟩, hS.F ht⟩) hS.2.2 dX2_changeSetting_20
  have h := o_f h c1
  refine lv_iload_n hx hb dX2_changeSetting_4 rfl (lv_at hl 1 rfl) ?_
  refine lv_aload_n hx hb dX2_changeSetting_5 rfl (lv_at hl 0 rfl) ?_
  refine va_get (D := (dC, dI)) (ci := 2) (v := .ref (a 6)) (C := RX2) (T := TX2) (N := 12) hx hb huX2 (fun _ h9 => h9) hown hK hP 0 rfl rfl 2 (by decide) w25 (fun _ h9 => h9) rfl dX2_changeSetting_6 ?_
  refine va_alen (v := 5) hx hb hK hP 6 0 rfl rfl rfl dX2_changeSetting_9 ?_
  refine lv_icmp_ge (tgt := 20) hx hb dX2_changeSetting_10 (by decide) (fun c2 => ?_) (fun c2 => ?_)
  · have h := o_t h c2
    have hu := Option.some.inj h
    exact W.vret hx hb hr (fun t ht hW => ⟨⟨rfl, by rw [ht, ← hu]; exact hP⟩, hS.F ht⟩) hS.2.2 dX2_changeSetting_20
  have h := o_f h c2
  refine lv_aload_n hx hb dX2_changeSetting_13 rfl (lv_at hl 0 rfl) ?_
  refine va_get (D := (dC, dI)) (ci := 2) (v := .ref (a 6)) (C := RX2) (T := TX2) (N := 12) hx hb huX2 (fun _ h9 => h9) hown hK hP 0 rfl rfl 2 (by decide) w25 (fun _ h9 => h9) rfl dX2_changeSetting_14 ?_
  refine lv_iload_n hx hb dX2_changeSetting_17 rfl (lv_at hl 1 rfl) ?_
  refine lv_iload_n hx hb dX2_changeSetting_18 rfl (lv_at hl 2 rfl) ?_
  obtain ⟨i3, h⟩ := o_in h
  refine va_iast hx hb hK hP hD hS 6 0 rfl rfl i3 dX2_changeSetting_19 (fun H locs hP hD hS => ?_)
  have hP : va_P (dC, dI) vwCl (wX2 a cI cF (s_X2_settings S (upd (g_X2_settings S) x1.toNatClampNeg x2))) H := hP
  have hD : va_D A (wX2 a cI cF (s_X2_settings S (upd (g_X2_settings S) x1.toNatClampNeg x2))) := hD
  have hu := Option.some.inj h
  exact W.vret hx hb hr (fun t ht hW => ⟨⟨rfl, by rw [ht, ← hu]; exact hP⟩, hS.F ht⟩) hS.2.2 dX2_changeSetting_20

def m_X2_isFed (S : S_X2) (x1 : Int32) : Option (Int32) := if (((g_X2_fed S) >>> (x1 &&& 31)) &&& (1 : Int32)) = (1 : Int32) then (some (1 : Int32)) else (some (0 : Int32))
set_option maxHeartbeats 4000000 in
set_option maxRecDepth 100000 in
theorem c_X2_isFed (l : Launch) (dC : Nat → ClassId) (dI : Nat → Nat → Nat) (cI cF : ClassId) (a : Nat → Nat) (S : S_X2) (x1 : Int32) (u : Int32) (h : m_X2_isFed S x1 = some u) : cRO l (dC, dI) cI cF yX2_isFed wsX2_isFed ({ frames := 0, cells := 0, slots := 0, locals := 0 } : Room) [.ref (a 0), .int x1] (wX2 a cI cF S) (some (.int u)) := by
  refine Met.ofW (cc := cX2_isFed) (maxL := 2) (ret := (some .boolean)) (by decide) rfl ?_
  intro p e s m args below meth c s₁ B hml hv
  obtain ⟨hargs, hP, hK⟩ := hv
  subst hargs
  have hx := B.exec
  have hb := B.bytes
  have hr := B.returns
  have hts := atoms_spec (ws := wsX2_isFed) B.pre
  have hown : s.vm.findClass RX2 = some m.cls := findClass_of_methodNamed B.named
  have hlocks := B.notSynchronized
  have w29 := hts (.fieldLink RX2 29 "DrawnSlivers$Frame" "fed" "I") (List.mem_of_getElem? (i := 1) rfl)
  have huX2 : ∀ w ∈ u_ws RX2 TX2 12, w.before _ s = true := fun w h => hts w (List.mem_cons_of_mem _ (List.mem_append_right _ (h)))
  have hl := lv_entry ([.ref (a 0), .int x1]) (n := 2) (Nat.le_of_ble_eq_true rfl)
  rw [lg_entry_eq]
  generalize (lg_sl ([.ref (a 0), .int x1]) ++ List.replicate (2 - (lg_sl ([.ref (a 0), .int x1])).length) Slot.unset).toArray = ls at hl ⊢
  have hl : lv_has ls 2 [(0, .ref (a 0)), (1, .int x1)] := hl
  rw [m_X2_isFed] at h
  refine lv_aload_n hx hb dX2_isFed_0 rfl (lv_at hl 0 rfl) ?_
  refine va_get (D := (dC, dI)) (ci := 2) (v := .int (g_X2_fed S)) (C := RX2) (T := TX2) (N := 12) hx hb huX2 (fun _ h9 => h9) hown hK hP 0 rfl rfl 3 (by decide) w29 (fun _ h9 => h9) rfl dX2_isFed_1 ?_
  refine lv_iload_n hx hb dX2_isFed_4 rfl (lv_at hl 1 rfl) ?_
  refine lv_ishr hx hb dX2_isFed_5 ?_
  refine lv_iconst (v := (1 : Int32)) hx hb dX2_isFed_6 (by decide) ?_
  refine lv_iand hx hb dX2_isFed_7 ?_
  refine lv_iconst (v := (1 : Int32)) hx hb dX2_isFed_8 (by decide) ?_
  refine lv_icmp_ne (tgt := 16) hx hb dX2_isFed_9 (by decide) (fun c1 => ?_) (fun c1 => ?_)
  · have h := o_f h c1
    refine lv_iconst (v := (0 : Int32)) hx hb dX2_isFed_16 (by decide) ?_
    have hu := Option.some.inj h
    exact W.zret (v := (0 : Int32)) hx hb hr rfl (fun t ht hW => ⟨congrArg (fun z => Outcome.returned (some (Value.int z))) hu, ht⟩) (fun q hq => absurd hq List.not_mem_nil) dX2_isFed_17
  have h := o_t h c1
  refine lv_iconst (v := (1 : Int32)) hx hb dX2_isFed_12 (by decide) ?_
  refine lv_goto (tgt := 17) hx hb dX2_isFed_13 (by decide) ?_
  have hu := Option.some.inj h
  exact W.zret (v := (1 : Int32)) hx hb hr rfl (fun t ht hW => ⟨congrArg (fun z => Outcome.returned (some (Value.int z))) hu, ht⟩) (fun q hq => absurd hq List.not_mem_nil) dX2_isFed_17

def m_X2_pour_L3 : Nat → Int32 → Int32 → Int32 → Int32 → S_X2 → Option (S_X2)
  | 0, _, _, _, _, _ => none
  | n + 1, y1, y2, y3, y4, S => if y3 ≤ y4 then (some S) else ((m_X0_addBack (g_X2_cans S) y1 y2).bind fun v2 => (nmL (y4 + 1) fun x4_4 => ((m_X2_pour_L3 n) y1 y2 y3 x4_4 (s_X2_filled (s_X2_cans S v2) ((g_X2_filled S) + y2)))))
def m_X2_pour (S : S_X2) (x1 : Int32) (x2 : Int32) (x3 : Int32) : Option (S_X2) := m_X2_pour_L3 4000 x1 x2 x3 (0 : Int32) S
set_option maxHeartbeats 4000000 in
set_option maxRecDepth 100000 in
theorem c_X2_pour (l : Launch) (dC : Nat → ClassId) (dI : Nat → Nat → Nat) (cI cF : ClassId) (a : Nat → Nat) (S : S_X2) (x1 : Int32) (x2 : Int32) (x3 : Int32) (u : S_X2) (h : m_X2_pour S x1 x2 x3 = some u) : cRW l (dC, dI) cI cF yX2_pour wsX2_pour ({ frames := 2, cells := 0, slots := 0, locals := 45 } : Room) [.ref (a 0), .int x1, .int x2, .int x3] (wX2 a cI cF S) (wX2 a cI cF u) (none) := by
  intro sz
  refine Met.ofW (cc := cX2_pour) (maxL := 5) (ret := none) (by decide) rfl ?_
  intro p e s m args below meth c s₁ B hml hv
  obtain ⟨hargs, hsz, hP, hK, hD0⟩ := hv
  subst hargs
  have hx := B.exec
  have hb := B.bytes
  have hr := B.returns
  have hts := atoms_spec (ws := wsX2_pour) B.pre
  have hown : s.vm.findClass RX2 = some m.cls := findClass_of_methodNamed B.named
  have hlocks := B.notSynchronized
  have w12 := hts (.fieldLink RX2 12 "DrawnSlivers$Frame" "cans" "LDrawnSlivers$Cans;") (List.mem_of_getElem? (i := 1) rfl)
  have w52 := hts (.fieldLink RX2 52 "DrawnSlivers$Frame" "filled" "I") (List.mem_of_getElem? (i := 2) rfl)
  have w77 := hts (.methodLink RX2 77 yX0_addBack) (List.mem_of_getElem? (i := 3) rfl)
  have huX2 : ∀ w ∈ u_ws RX2 TX2 12, w.before _ s = true := fun w h => hts w (List.mem_cons_of_mem _ (List.mem_append_left _ (List.mem_append_right _ (h))))
  subst hsz
  have hD := hD0.self (sz := s.heap.size)
  generalize hAe : va_A (wX2 a cI cF S) s.heap.size = A at hD ⊢
  have hA : ∀ q : Nat, s.heap.size ≤ q → A q := fun q h => by rw [← hAe]; exact Or.inr h
  have hS : va_S A s.heap s.heap [] := va_S.rf
  have L3 : ∀ (n : Nat), ∀ (y1 : Int32) (y2 : Int32) (y3 : Int32) (y4 : Int32) (S : S_X2), m_X2_pour_L3 n y1 y2 y3 y4 S = some u → ∀ (H : Heap) (locs : List Loc), va_P (dC, dI) vwCl (wX2 a cI cF S) H → va_D A (wX2 a cI cF S) → va_S A s.heap H locs → ∀ (ls : Array Slot), lv_has ls 5 [(0, .ref (a 0)), (1, .int y1), (2, .int y2), (3, .int y3), (4, .int y4)] → W p l e (headSpec wsX2_pour ({ frames := 2, cells := 0, slots := 0, locals := 45 } : Room)).room s m ([.ref (a 0), .int x1, .int x2, .int x3] : List Value).toArray below meth c H locs 0 0 (MQ below (qRW (dC, dI) (wX2 a cI cF u) (none) A) ([.ref (a 0), .int x1, .int x2, .int x3] : List Value).toArray s 0 0 A) (F0 m 3 ls []) := by
    intro  n
    induction n with
    | zero =>
      intro y1 y2 y3 y4 S h
      exact (o_0 h).elim
    | succ n ih3 =>
      intro y1 y2 y3 y4 S h H locs hP hD hS ls hl
      rw [m_X2_pour_L3] at h
      refine lv_iload hx hb dX2_pour_3 (lv_at hl 4 rfl) ?_
      refine lv_iload_n hx hb dX2_pour_5 rfl (lv_at hl 3 rfl) ?_
      refine lv_icmp_ge (tgt := 34) hx hb dX2_pour_6 (by decide) (fun c1 => ?_) (fun c1 => ?_)
      · have h := o_t h c1
        have hu := Option.some.inj h
        exact W.vret hx hb hr (fun t ht hW => ⟨⟨rfl, by rw [ht, ← hu]; exact hP⟩, hS.F ht⟩) hS.2.2 dX2_pour_34
      have h := o_f h c1
      refine lv_aload_n hx hb dX2_pour_9 rfl (lv_at hl 0 rfl) ?_
      refine va_get (D := (dC, dI)) (ci := 2) (v := .ref (a 1)) (C := RX2) (T := TX2) (N := 12) hx hb huX2 (fun _ h9 => h9) hown hK hP 0 rfl rfl 0 (by decide) w12 (fun _ h9 => h9) rfl dX2_pour_10 ?_
      refine lv_iload_n hx hb dX2_pour_13 rfl (lv_at hl 1 rfl) ?_
      refine lv_iload_n hx hb dX2_pour_14 rfl (lv_at hl 2 rfl) ?_
      obtain ⟨v2, g3, h⟩ := o_b h
      refine k_rw (va_runV (As := [.int y1, .int y2]) (rest := []) ⟨hx, hb, hml, hown, hts⟩ (c_X0_addBack l dC dI cI cF (fun i => a (i + 1)) (g_X2_cans S) y1 y2 v2 g3 H.size) (cwV 2 hts gX2_pour_X0_addBack rfl rfl rfl (by decide +kernel) ⟨Nat.le_of_ble_eq_true rfl, Nat.le_of_ble_eq_true rfl⟩) (k_preVw (q0 := 0) (ci := 0) hK hP hD [1, 2, 3] rfl rfl rfl rfl rfl) rfl rfl hl.1 rfl (lv_room (Nat.le_of_ble_eq_true rfl)) dX2_pour_15 ⟨Nat.zero_le _, Nat.zero_le _⟩) (st1 := []) rfl hP hD hS hA [1, 2, 3] rfl rfl (wn := wX2 a cI cF (s_X2_cans S v2)) rfl rfl rfl (fun H locs hP hD hS => ?_)
      refine lv_aload_n hx hb dX2_pour_18 rfl (lv_at hl 0 rfl) ?_
      refine lv_dup hx hb dX2_pour_19 rfl ?_
      refine va_get (D := (dC, dI)) (ci := 2) (v := .int (g_X2_filled S)) (C := RX2) (T := TX2) (N := 12) hx hb huX2 (fun _ h9 => h9) hown hK hP 0 rfl rfl 10 (by decide) w52 (fun _ h9 => h9) rfl dX2_pour_20 ?_
      refine lv_iload_n hx hb dX2_pour_23 rfl (lv_at hl 2 rfl) ?_
      refine lv_iadd hx hb dX2_pour_24 ?_
      refine va_put (D := (dC, dI)) (ci := 2) (v := .int ((g_X2_filled S) + y2)) (ty := .int) (C := RX2) (T := TX2) (N := 12) hx hb huX2 (fun _ h9 => h9) tyX2 tyX2_ok nmX2 hown hK hP hD hS 0 rfl rfl 10 (by decide) w52 (fun _ h9 => h9) rfl (by decide +kernel) rfl rfl (Nat.le_of_ble_eq_true rfl) dX2_pour_25 (fun H locs hP hD hS => ?_)
      have hP : va_P (dC, dI) vwCl (wX2 a cI cF (s_X2_filled (s_X2_cans S v2) ((g_X2_filled S) + y2))) H := hP
      have hD : va_D A (wX2 a cI cF (s_X2_filled (s_X2_cans S v2) ((g_X2_filled S) + y2))) := hD
      obtain ⟨x4_4, e5, h⟩ := o_n h
      refine lv_iinc (v := x4_4) (lv' := [(4, .int x4_4), (0, .ref (a 0)), (1, .int y1), (2, .int y2), (3, .int y3)]) hx hb dX2_pour_28 hl (k := 4) rfl (by rw [e5]; rfl) (by decide) rfl (fun ls hl => ?_)
      refine lv_goto (tgt := 3) hx hb dX2_pour_31 (by decide) ?_
      exact ih3 _ _ _ _ _ h _ _ hP hD hS _ (lv_sub hl [1, 2, 3, 4, 0] rfl)
  have hl := lv_entry ([.ref (a 0), .int x1, .int x2, .int x3]) (n := 5) (Nat.le_of_ble_eq_true rfl)
  rw [lg_entry_eq]
  generalize (lg_sl ([.ref (a 0), .int x1, .int x2, .int x3]) ++ List.replicate (5 - (lg_sl ([.ref (a 0), .int x1, .int x2, .int x3])).length) Slot.unset).toArray = ls at hl ⊢
  have hl : lv_has ls 5 [(0, .ref (a 0)), (1, .int x1), (2, .int x2), (3, .int x3)] := hl
  rw [m_X2_pour] at h
  refine lv_iconst (v := (0 : Int32)) hx hb dX2_pour_0 (by decide) ?_
  refine lv_istore (lv' := [(4, .int (0 : Int32)), (0, .ref (a 0)), (1, .int x1), (2, .int x2), (3, .int x3)]) hx hb dX2_pour_1 hl (by decide) rfl (fun ls hl => ?_)
  exact L3 _ _ _ _ _ _ h _ _ hP hD hS _ (lv_sub hl [1, 2, 3, 4, 0] rfl)

def m_X2_draftFor_L24 (S : S_X2) (t0 : Int32) : Option (Int32) := (m_X2_settingOf S (2 : Int32)).bind fun v6 => ((m_X2_settingOf S (3 : Int32)).bind fun v8 => (if v8 = 0 then ((m_X2_settingOf S (1 : Int32)).bind fun v11 => (some v11)) else (if t0 = (-1 : Int32) then ((m_X2_settingOf S (1 : Int32)).bind fun v14 => (some v14)) else (if (1 : Int32) ≤ v6 then (if v6 = 0 then none else (nmL ((t0 + (v6 / (2 : Int32))) / v6) fun x5_18 => (some (if (1 : Int32) < (if x5_18 < (8 : Int32) then x5_18 else (8 : Int32)) then (if x5_18 < (8 : Int32) then x5_18 else (8 : Int32)) else (1 : Int32))))) else ((m_X2_settingOf S (1 : Int32)).bind fun v20 => (some v20))))))
def m_X2_draftFor (S : S_X2) (x1 : Int32) : Option (Int32) := (m_X2_settingOf S (0 : Int32)).bind fun v1 => (if v1 = 0 then (m_X2_draftFor_L24 S x1) else ((m_X1_feedOf (g_X2_feeler S) (v1 - (1 : Int32))).bind fun v4 => (m_X2_draftFor_L24 S v4)))
set_option maxHeartbeats 4000000 in
set_option maxRecDepth 100000 in
theorem c_X2_draftFor (l : Launch) (dC : Nat → ClassId) (dI : Nat → Nat → Nat) (cI cF : ClassId) (a : Nat → Nat) (S : S_X2) (x1 : Int32) (u : Int32) (h : m_X2_draftFor S x1 = some u) : cRO l (dC, dI) cI cF yX2_draftFor wsX2_draftFor ({ frames := 1, cells := 0, slots := 0, locals := 40 } : Room) [.ref (a 0), .int x1] (wX2 a cI cF S) (some (.int u)) := by
  refine Met.ofW (cc := cX2_draftFor) (maxL := 6) (ret := (some .int)) (by decide) rfl ?_
  intro p e s m args below meth c s₁ B hml hv
  obtain ⟨hargs, hP, hK⟩ := hv
  subst hargs
  have hx := B.exec
  have hb := B.bytes
  have hr := B.returns
  have hts := atoms_spec (ws := wsX2_draftFor) B.pre
  have hown : s.vm.findClass RX2 = some m.cls := findClass_of_methodNamed B.named
  have hlocks := B.notSynchronized
  have w105 := hts (.methodLink RX2 105 yX2_settingOf) (List.mem_of_getElem? (i := 9) rfl)
  have w108 := hts (.methodLink RX2 108 yX1_feedOf) (List.mem_of_getElem? (i := 15) rfl)
  have w111 := hts (.methodLink RX2 111 Lib.Math.max.name) (List.mem_of_getElem? (i := 6) rfl)
  have w21 := hts (.fieldLink RX2 21 "DrawnSlivers$Frame" "feeler" "LDrawnSlivers$Feeler;") (List.mem_of_getElem? (i := 1) rfl)
  have w65 := hts (.methodLink RX2 65 Lib.Math.min.name) (List.mem_of_getElem? (i := 2) rfl)
  have wlmaxc := hts (.code Lib.Math.max.name Lib.Math.max.code 2 (some .int)) (List.mem_of_getElem? (i := 8) rfl)
  have wlmaxs := hts (.static Lib.Math.max.name) (List.mem_of_getElem? (i := 7) rfl)
  have wlmi := hts (.initialized "java/lang/Math") (List.mem_of_getElem? (i := 4) rfl)
  have wlminc := hts (.code Lib.Math.min.name Lib.Math.min.code 2 (some .int)) (List.mem_of_getElem? (i := 5) rfl)
  have wlmins := hts (.static Lib.Math.min.name) (List.mem_of_getElem? (i := 3) rfl)
  have huX2 : ∀ w ∈ u_ws RX2 TX2 12, w.before _ s = true := fun w h => hts w (List.mem_cons_of_mem _ (List.mem_append_left _ (List.mem_append_right _ (h))))
  have L24 : ∀ (t0 : Int32), m_X2_draftFor_L24 S t0 = some u → ∀ (ls : Array Slot), lv_has ls 6 [(0, .ref (a 0))] → W p l e (headSpec wsX2_draftFor ({ frames := 1, cells := 0, slots := 0, locals := 40 } : Room)).room s m ([.ref (a 0), .int x1] : List Value).toArray below meth c s.heap [] 0 0 (MQ below (qRO (some (.int u))) ([.ref (a 0), .int x1] : List Value).toArray s 0 0 (fun _ => False)) (F0 m 24 ls [.int t0]) := by
    intro  t0 h ls hl
    rw [m_X2_draftFor_L24] at h
    refine lv_istore_n (lv' := [(3, .int t0), (0, .ref (a 0))]) hx hb dX2_draftFor_24 rfl hl (by decide) rfl (fun ls hl => ?_)
    refine lv_aload_n hx hb dX2_draftFor_25 rfl (lv_at hl 1 rfl) ?_
    refine lv_iconst (v := (2 : Int32)) hx hb dX2_draftFor_26 (by decide) ?_
    obtain ⟨v6, g7, h⟩ := o_b h
    refine k_ro (va_runV (As := [.int (2 : Int32)]) (rest := []) ⟨hx, hb, hml, hown, hts⟩ (c_X2_settingOf l dC dI cI cF a S (2 : Int32) v6 g7) (cwV 1 hts gX2_draftFor_X2_settingOf rfl rfl rfl (by decide +kernel) ⟨Nat.le_of_ble_eq_true rfl, Nat.le_of_ble_eq_true rfl⟩) (k_preV (q0 := 0) (ci := 2) hK (hP.sub (ws' := wX2 a cI cF S) [0, 1, 2, 3, 4, 5, 6] rfl) rfl rfl rfl) rfl rfl hl.1 rfl (lv_room (Nat.le_of_ble_eq_true rfl)) dX2_draftFor_27 ⟨Nat.zero_le _, Nat.zero_le _⟩) (st1 := [.int v6]) rfl ?_
    refine lv_istore (lv' := [(4, .int v6), (3, .int t0), (0, .ref (a 0))]) hx hb dX2_draftFor_30 hl (by decide) rfl (fun ls hl => ?_)
    refine lv_aload_n hx hb dX2_draftFor_32 rfl (lv_at hl 2 rfl) ?_
    refine lv_iconst (v := (3 : Int32)) hx hb dX2_draftFor_33 (by decide) ?_
    obtain ⟨v8, g9, h⟩ := o_b h
    refine k_ro (va_runV (As := [.int (3 : Int32)]) (rest := []) ⟨hx, hb, hml, hown, hts⟩ (c_X2_settingOf l dC dI cI cF a S (3 : Int32) v8 g9) (cwV 1 hts gX2_draftFor_X2_settingOf rfl rfl rfl (by decide +kernel) ⟨Nat.le_of_ble_eq_true rfl, Nat.le_of_ble_eq_true rfl⟩) (k_preV (q0 := 0) (ci := 2) hK (hP.sub (ws' := wX2 a cI cF S) [0, 1, 2, 3, 4, 5, 6] rfl) rfl rfl rfl) rfl rfl hl.1 rfl (lv_room (Nat.le_of_ble_eq_true rfl)) dX2_draftFor_34 ⟨Nat.zero_le _, Nat.zero_le _⟩) (st1 := [.int v8]) rfl ?_
    refine lv_if_eq (tgt := 51) hx hb dX2_draftFor_37 (by decide) (fun c10 => ?_) (fun c10 => ?_)
    · have h := o_t h c10
      refine lv_aload_n hx hb dX2_draftFor_51 rfl (lv_at hl 2 rfl) ?_
      refine lv_iconst (v := (1 : Int32)) hx hb dX2_draftFor_52 (by decide) ?_
      obtain ⟨v11, g12, h⟩ := o_b h
      refine k_ro (va_runV (As := [.int (1 : Int32)]) (rest := []) ⟨hx, hb, hml, hown, hts⟩ (c_X2_settingOf l dC dI cI cF a S (1 : Int32) v11 g12) (cwV 1 hts gX2_draftFor_X2_settingOf rfl rfl rfl (by decide +kernel) ⟨Nat.le_of_ble_eq_true rfl, Nat.le_of_ble_eq_true rfl⟩) (k_preV (q0 := 0) (ci := 2) hK (hP.sub (ws' := wX2 a cI cF S) [0, 1, 2, 3, 4, 5, 6] rfl) rfl rfl rfl) rfl rfl hl.1 rfl (lv_room (Nat.le_of_ble_eq_true rfl)) dX2_draftFor_53 ⟨Nat.zero_le _, Nat.zero_le _⟩) (st1 := [.int v11]) rfl ?_
      have hu := Option.some.inj h
      exact W.iret (v := v11) hx hb hr (fun t ht hW => ⟨congrArg (fun z => Outcome.returned (some (Value.int z))) hu, ht⟩) (fun q hq => absurd hq List.not_mem_nil) dX2_draftFor_56
    have h := o_f h c10
    refine lv_iload_n hx hb dX2_draftFor_40 rfl (lv_at hl 1 rfl) ?_
    refine lv_iconst (v := (-1 : Int32)) hx hb dX2_draftFor_41 (by decide) ?_
    refine lv_icmp_eq (tgt := 51) hx hb dX2_draftFor_42 (by decide) (fun c13 => ?_) (fun c13 => ?_)
    · have h := o_t h c13
      refine lv_aload_n hx hb dX2_draftFor_51 rfl (lv_at hl 2 rfl) ?_
      refine lv_iconst (v := (1 : Int32)) hx hb dX2_draftFor_52 (by decide) ?_
      obtain ⟨v14, g15, h⟩ := o_b h
      refine k_ro (va_runV (As := [.int (1 : Int32)]) (rest := []) ⟨hx, hb, hml, hown, hts⟩ (c_X2_settingOf l dC dI cI cF a S (1 : Int32) v14 g15) (cwV 1 hts gX2_draftFor_X2_settingOf rfl rfl rfl (by decide +kernel) ⟨Nat.le_of_ble_eq_true rfl, Nat.le_of_ble_eq_true rfl⟩) (k_preV (q0 := 0) (ci := 2) hK (hP.sub (ws' := wX2 a cI cF S) [0, 1, 2, 3, 4, 5, 6] rfl) rfl rfl rfl) rfl rfl hl.1 rfl (lv_room (Nat.le_of_ble_eq_true rfl)) dX2_draftFor_53 ⟨Nat.zero_le _, Nat.zero_le _⟩) (st1 := [.int v14]) rfl ?_
      have hu := Option.some.inj h
      exact W.iret (v := v14) hx hb hr (fun t ht hW => ⟨congrArg (fun z => Outcome.returned (some (Value.int z))) hu, ht⟩) (fun q hq => absurd hq List.not_mem_nil) dX2_draftFor_56
    have h := o_f h c13
    refine lv_iload hx hb dX2_draftFor_45 (lv_at hl 0 rfl) ?_
    refine lv_iconst (v := (1 : Int32)) hx hb dX2_draftFor_47 (by decide) ?_
    refine lv_icmp_ge (tgt := 57) hx hb dX2_draftFor_48 (by decide) (fun c16 => ?_) (fun c16 => ?_)
    rotate_left
    · have h := o_f h c16
      refine lv_aload_n hx hb dX2_draftFor_51 rfl (lv_at hl 2 rfl) ?_
      refine lv_iconst (v := (1 : Int32)) hx hb dX2_draftFor_52 (by decide) ?_
      obtain ⟨v20, g21, h⟩ := o_b h
      refine k_ro (va_runV (As := [.int (1 : Int32)]) (rest := []) ⟨hx, hb, hml, hown, hts⟩ (c_X2_settingOf l dC dI cI cF a S (1 : Int32) v20 g21) (cwV 1 hts gX2_draftFor_X2_settingOf rfl rfl rfl (by decide +kernel) ⟨Nat.le_of_ble_eq_true rfl, Nat.le_of_ble_eq_true rfl⟩) (k_preV (q0 := 0) (ci := 2) hK (hP.sub (ws' := wX2 a cI cF S) [0, 1, 2, 3, 4, 5, 6] rfl) rfl rfl rfl) rfl rfl hl.1 rfl (lv_room (Nat.le_of_ble_eq_true rfl)) dX2_draftFor_53 ⟨Nat.zero_le _, Nat.zero_le _⟩) (st1 := [.int v20]) rfl ?_
      have hu := Option.some.inj h
      exact W.iret (v := v20) hx hb hr (fun t ht hW => ⟨congrArg (fun z => Outcome.returned (some (Value.int z))) hu, ht⟩) (fun q hq => absurd hq List.not_mem_nil) dX2_draftFor_56
    have h := o_t h c16
    refine lv_iload_n hx hb dX2_draftFor_57 rfl (lv_at hl 1 rfl) ?_
    refine lv_iload hx hb dX2_draftFor_58 (lv_at hl 0 rfl) ?_
    refine lv_iconst (v := (2 : Int32)) hx hb dX2_draftFor_60 (by decide) ?_
    refine lv_idiv hx hb dX2_draftFor_61 (by decide) ?_
    refine lv_iadd hx hb dX2_draftFor_62 ?_
    refine lv_iload hx hb dX2_draftFor_63 (lv_at hl 0 rfl) ?_
    obtain ⟨i17, h⟩ := o_in h
    refine lv_idiv hx hb dX2_draftFor_65 i17 ?_
    obtain ⟨x5_18, e19, h⟩ := o_n h
    refine lv_nmi e19 ?_
    refine lv_istore (lv' := [(5, .int x5_18), (4, .int v6), (3, .int t0), (0, .ref (a 0))]) hx hb dX2_draftFor_66 hl (by decide) rfl (fun ls hl => ?_)
    refine lv_iconst (v := (1 : Int32)) hx hb dX2_draftFor_68 (by decide) ?_
    refine lv_bipush (v := (8 : Int32)) hx hb dX2_draftFor_69 (by decide) ?_
    refine lv_iload hx hb dX2_draftFor_71 (lv_at hl 0 rfl) ?_
    refine va_mmin hx hb (by rw [hml]; exact hl.1.symm) hown w65 wlmins wlmi wlminc (Nat.le_of_ble_eq_true rfl) (Nat.le_of_ble_eq_true rfl) (Nat.zero_le _) (Nat.zero_le _) dX2_draftFor_73 ?_
    refine va_mmax hx hb (by rw [hml]; exact hl.1.symm) hown w111 wlmaxs wlmi wlmaxc (Nat.le_of_ble_eq_true rfl) (Nat.le_of_ble_eq_true rfl) (Nat.zero_le _) (Nat.zero_le _) dX2_draftFor_76 ?_
    have hu := Option.some.inj h
    exact W.iret (v := (if (1 : Int32) < (if x5_18 < (8 : Int32) then x5_18 else (8 : Int32)) then (if x5_18 < (8 : Int32) then x5_18 else (8 : Int32)) else (1 : Int32))) hx hb hr (fun t ht hW => ⟨congrArg (fun z => Outcome.returned (some (Value.int z))) hu, ht⟩) (fun q hq => absurd hq List.not_mem_nil) dX2_draftFor_79
  have hl := lv_entry ([.ref (a 0), .int x1]) (n := 6) (Nat.le_of_ble_eq_true rfl)
  rw [lg_entry_eq]
  generalize (lg_sl ([.ref (a 0), .int x1]) ++ List.replicate (6 - (lg_sl ([.ref (a 0), .int x1])).length) Slot.unset).toArray = ls at hl ⊢
  have hl : lv_has ls 6 [(0, .ref (a 0)), (1, .int x1)] := hl
  rw [m_X2_draftFor] at h
  refine lv_aload_n hx hb dX2_draftFor_0 rfl (lv_at hl 0 rfl) ?_
  refine lv_iconst (v := (0 : Int32)) hx hb dX2_draftFor_1 (by decide) ?_
  obtain ⟨v1, g2, h⟩ := o_b h
  refine k_ro (va_runV (As := [.int (0 : Int32)]) (rest := []) ⟨hx, hb, hml, hown, hts⟩ (c_X2_settingOf l dC dI cI cF a S (0 : Int32) v1 g2) (cwV 1 hts gX2_draftFor_X2_settingOf rfl rfl rfl (by decide +kernel) ⟨Nat.le_of_ble_eq_true rfl, Nat.le_of_ble_eq_true rfl⟩) (k_preV (q0 := 0) (ci := 2) hK (hP.sub (ws' := wX2 a cI cF S) [0, 1, 2, 3, 4, 5, 6] rfl) rfl rfl rfl) rfl rfl hl.1 rfl (lv_room (Nat.le_of_ble_eq_true rfl)) dX2_draftFor_2 ⟨Nat.zero_le _, Nat.zero_le _⟩) (st1 := [.int v1]) rfl ?_
  refine lv_istore_n (lv' := [(2, .int v1), (0, .ref (a 0)), (1, .int x1)]) hx hb dX2_draftFor_5 rfl hl (by decide) rfl (fun ls hl => ?_)
  refine lv_iload_n hx hb dX2_draftFor_6 rfl (lv_at hl 0 rfl) ?_
  refine lv_if_ne (tgt := 14) hx hb dX2_draftFor_7 (by decide) (fun c3 => ?_) (fun c3 => ?_)
  rotate_left
  · have h := o_t h c3
    refine lv_iload_n hx hb dX2_draftFor_10 rfl (lv_at hl 2 rfl) ?_
    refine lv_goto (tgt := 24) hx hb dX2_draftFor_11 (by decide) ?_
    exact L24 _ h _ (lv_sub hl [1] rfl)
  have h := o_f h c3
  refine lv_aload_n hx hb dX2_draftFor_14 rfl (lv_at hl 1 rfl) ?_
  refine va_get (D := (dC, dI)) (ci := 2) (v := .ref (a 4)) (C := RX2) (T := TX2) (N := 12) hx hb huX2 (fun _ h9 => h9) hown hK hP 0 rfl rfl 1 (by decide) w21 (fun _ h9 => h9) rfl dX2_draftFor_15 ?_
  refine lv_iload_n hx hb dX2_draftFor_18 rfl (lv_at hl 0 rfl) ?_
  refine lv_iconst (v := (1 : Int32)) hx hb dX2_draftFor_19 (by decide) ?_
  refine lv_isub hx hb dX2_draftFor_20 ?_
  obtain ⟨v4, g5, h⟩ := o_b h
  refine k_ro (va_runV (As := [.int (v1 - (1 : Int32))]) (rest := []) ⟨hx, hb, hml, hown, hts⟩ (c_X1_feedOf l dC dI cI cF (fun i => a (i + 4)) (g_X2_feeler S) (v1 - (1 : Int32)) v4 g5) (cwV 1 hts gX2_draftFor_X1_feedOf rfl rfl rfl (by decide +kernel) ⟨Nat.le_of_ble_eq_true rfl, Nat.le_of_ble_eq_true rfl⟩) (k_preV (q0 := 0) (ci := 1) hK (hP.sub (ws' := wX1 (fun i => a (i + 4)) cI cF (g_X2_feeler S)) [4, 5] rfl) rfl rfl rfl) rfl rfl hl.1 rfl (lv_room (Nat.le_of_ble_eq_true rfl)) dX2_draftFor_21 ⟨Nat.zero_le _, Nat.zero_le _⟩) (st1 := [.int v4]) rfl ?_
  exact L24 _ h _ (lv_sub hl [1] rfl)

def m_X2_layDown (S : S_X2) (x1 : Int32) : Option (S_X2) := (m_X2_settingOf S (4 : Int32)).bind fun v1 => (if x1 ≤ v1 then ((m_X0_addBack (g_X2_cans S) (g_X2_taker S) x1).bind fun v4 => (some (s_X2_cameOut (s_X2_cans S v4) ((g_X2_cameOut S) + (1 : Int32))))) else (some (s_X2_waste (s_X2_lapped (s_X2_stopped S (1 : Int32)) ((g_X2_lapped S) + (1 : Int32))) ((g_X2_waste S) + x1))))
set_option maxHeartbeats 4000000 in
set_option maxRecDepth 100000 in
theorem c_X2_layDown (l : Launch) (dC : Nat → ClassId) (dI : Nat → Nat → Nat) (cI cF : ClassId) (a : Nat → Nat) (S : S_X2) (x1 : Int32) (u : S_X2) (h : m_X2_layDown S x1 = some u) : cRW l (dC, dI) cI cF yX2_layDown wsX2_layDown ({ frames := 2, cells := 0, slots := 0, locals := 45 } : Room) [.ref (a 0), .int x1] (wX2 a cI cF S) (wX2 a cI cF u) (none) := by
  intro sz
  refine Met.ofW (cc := cX2_layDown) (maxL := 2) (ret := none) (by decide) rfl ?_
  intro p e s m args below meth c s₁ B hml hv
  obtain ⟨hargs, hsz, hP, hK, hD0⟩ := hv
  subst hargs
  have hx := B.exec
  have hb := B.bytes
  have hr := B.returns
  have hts := atoms_spec (ws := wsX2_layDown) B.pre
  have hown : s.vm.findClass RX2 = some m.cls := findClass_of_methodNamed B.named
  have hlocks := B.notSynchronized
  have w105 := hts (.methodLink RX2 105 yX2_settingOf) (List.mem_of_getElem? (i := 7) rfl)
  have w12 := hts (.fieldLink RX2 12 "DrawnSlivers$Frame" "cans" "LDrawnSlivers$Cans;") (List.mem_of_getElem? (i := 4) rfl)
  have w33 := hts (.fieldLink RX2 33 "DrawnSlivers$Frame" "taker" "I") (List.mem_of_getElem? (i := 5) rfl)
  have w36 := hts (.fieldLink RX2 36 "DrawnSlivers$Frame" "stopped" "Z") (List.mem_of_getElem? (i := 1) rfl)
  have w46 := hts (.fieldLink RX2 46 "DrawnSlivers$Frame" "lapped" "I") (List.mem_of_getElem? (i := 2) rfl)
  have w49 := hts (.fieldLink RX2 49 "DrawnSlivers$Frame" "waste" "I") (List.mem_of_getElem? (i := 3) rfl)
  have w55 := hts (.fieldLink RX2 55 "DrawnSlivers$Frame" "cameOut" "I") (List.mem_of_getElem? (i := 6) rfl)
  have w77 := hts (.methodLink RX2 77 yX0_addBack) (List.mem_of_getElem? (i := 13) rfl)
  have huX2 : ∀ w ∈ u_ws RX2 TX2 12, w.before _ s = true := fun w h => hts w (List.mem_cons_of_mem _ (List.mem_append_left _ (List.mem_append_right _ (h))))
  subst hsz
  have hD := hD0.self (sz := s.heap.size)
  generalize hAe : va_A (wX2 a cI cF S) s.heap.size = A at hD ⊢
  have hA : ∀ q : Nat, s.heap.size ≤ q → A q := fun q h => by rw [← hAe]; exact Or.inr h
  have hS : va_S A s.heap s.heap [] := va_S.rf
  have hl := lv_entry ([.ref (a 0), .int x1]) (n := 2) (Nat.le_of_ble_eq_true rfl)
  rw [lg_entry_eq]
  generalize (lg_sl ([.ref (a 0), .int x1]) ++ List.replicate (2 - (lg_sl ([.ref (a 0), .int x1])).length) Slot.unset).toArray = ls at hl ⊢
  have hl : lv_has ls 2 [(0, .ref (a 0)), (1, .int x1)] := hl
  rw [m_X2_layDown] at h
  refine lv_iload_n hx hb dX2_layDown_0 rfl (lv_at hl 1 rfl) ?_
  refine lv_aload_n hx hb dX2_layDown_1 rfl (lv_at hl 0 rfl) ?_
  refine lv_iconst (v := (4 : Int32)) hx hb dX2_layDown_2 (by decide) ?_
  obtain ⟨v1, g2, h⟩ := o_b h
  refine k_ro (va_runV (As := [.int (4 : Int32)]) (rest := [.int x1]) ⟨hx, hb, hml, hown, hts⟩ (c_X2_settingOf l dC dI cI cF a S (4 : Int32) v1 g2) (cwV 1 hts gX2_layDown_X2_settingOf rfl rfl rfl (by decide +kernel) ⟨Nat.le_of_ble_eq_true rfl, Nat.le_of_ble_eq_true rfl⟩) (k_preV (q0 := 0) (ci := 2) hK (hP.sub (ws' := wX2 a cI cF S) [0, 1, 2, 3, 4, 5, 6] rfl) rfl rfl rfl) rfl rfl hl.1 rfl (lv_room (Nat.le_of_ble_eq_true rfl)) dX2_layDown_3 ⟨Nat.zero_le _, Nat.zero_le _⟩) (st1 := [.int v1, .int x1]) rfl ?_
  refine lv_icmp_le (tgt := 37) hx hb dX2_layDown_6 (by decide) (fun c3 => ?_) (fun c3 => ?_)
  · have h := o_t h c3
    refine lv_aload_n hx hb dX2_layDown_37 rfl (lv_at hl 0 rfl) ?_
    refine va_get (D := (dC, dI)) (ci := 2) (v := .ref (a 1)) (C := RX2) (T := TX2) (N := 12) hx hb huX2 (fun _ h9 => h9) hown hK hP 0 rfl rfl 0 (by decide) w12 (fun _ h9 => h9) rfl dX2_layDown_38 ?_
    refine lv_aload_n hx hb dX2_layDown_41 rfl (lv_at hl 0 rfl) ?_
    refine va_get (D := (dC, dI)) (ci := 2) (v := .int (g_X2_taker S)) (C := RX2) (T := TX2) (N := 12) hx hb huX2 (fun _ h9 => h9) hown hK hP 0 rfl rfl 4 (by decide) w33 (fun _ h9 => h9) rfl dX2_layDown_42 ?_
    refine lv_iload_n hx hb dX2_layDown_45 rfl (lv_at hl 1 rfl) ?_
    obtain ⟨v4, g5, h⟩ := o_b h
    refine k_rw (va_runV (As := [.int (g_X2_taker S), .int x1]) (rest := []) ⟨hx, hb, hml, hown, hts⟩ (c_X0_addBack l dC dI cI cF (fun i => a (i + 1)) (g_X2_cans S) (g_X2_taker S) x1 v4 g5 s.heap.size) (cwV 2 hts gX2_layDown_X0_addBack rfl rfl rfl (by decide +kernel) ⟨Nat.le_of_ble_eq_true rfl, Nat.le_of_ble_eq_true rfl⟩) (k_preVw (q0 := 0) (ci := 0) hK hP hD [1, 2, 3] rfl rfl rfl rfl rfl) rfl rfl hl.1 rfl (lv_room (Nat.le_of_ble_eq_true rfl)) dX2_layDown_46 ⟨Nat.zero_le _, Nat.zero_le _⟩) (st1 := []) rfl hP hD hS hA [1, 2, 3] rfl rfl (wn := wX2 a cI cF (s_X2_cans S v4)) rfl rfl rfl (fun H locs hP hD hS => ?_)
    refine lv_aload_n hx hb dX2_layDown_49 rfl (lv_at hl 0 rfl) ?_
    refine lv_dup hx hb dX2_layDown_50 rfl ?_
    refine va_get (D := (dC, dI)) (ci := 2) (v := .int (g_X2_cameOut S)) (C := RX2) (T := TX2) (N := 12) hx hb huX2 (fun _ h9 => h9) hown hK hP 0 rfl rfl 11 (by decide) w55 (fun _ h9 => h9) rfl dX2_layDown_51 ?_
    refine lv_iconst (v := (1 : Int32)) hx hb dX2_layDown_54 (by decide) ?_
    refine lv_iadd hx hb dX2_layDown_55 ?_
    refine va_put (D := (dC, dI)) (ci := 2) (v := .int ((g_X2_cameOut S) + (1 : Int32))) (ty := .int) (C := RX2) (T := TX2) (N := 12) hx hb huX2 (fun _ h9 => h9) tyX2 tyX2_ok nmX2 hown hK hP hD hS 0 rfl rfl 11 (by decide) w55 (fun _ h9 => h9) rfl (by decide +kernel) rfl rfl (Nat.le_of_ble_eq_true rfl) dX2_layDown_56 (fun H locs hP hD hS => ?_)
    have hP : va_P (dC, dI) vwCl (wX2 a cI cF (s_X2_cameOut (s_X2_cans S v4) ((g_X2_cameOut S) + (1 : Int32)))) H := hP
    have hD : va_D A (wX2 a cI cF (s_X2_cameOut (s_X2_cans S v4) ((g_X2_cameOut S) + (1 : Int32)))) := hD
    have hu := Option.some.inj h
    exact W.vret hx hb hr (fun t ht hW => ⟨⟨rfl, by rw [ht, ← hu]; exact hP⟩, hS.F ht⟩) hS.2.2 dX2_layDown_59
  have h := o_f h c3
  refine lv_aload_n hx hb dX2_layDown_9 rfl (lv_at hl 0 rfl) ?_
  refine lv_iconst (v := (1 : Int32)) hx hb dX2_layDown_10 (by decide) ?_
  refine va_put (D := (dC, dI)) (ci := 2) (v := .int (1 : Int32)) (ty := .boolean) (C := RX2) (T := TX2) (N := 12) hx hb huX2 (fun _ h9 => h9) tyX2 tyX2_ok nmX2 hown hK hP hD hS 0 rfl rfl 5 (by decide) w36 (fun _ h9 => h9) rfl (by decide +kernel) rfl rfl (Nat.le_of_ble_eq_true rfl) dX2_layDown_11 (fun H locs hP hD hS => ?_)
  have hP : va_P (dC, dI) vwCl (wX2 a cI cF (s_X2_stopped S (1 : Int32))) H := hP
  have hD : va_D A (wX2 a cI cF (s_X2_stopped S (1 : Int32))) := hD
  refine lv_aload_n hx hb dX2_layDown_14 rfl (lv_at hl 0 rfl) ?_
  refine lv_dup hx hb dX2_layDown_15 rfl ?_
  refine va_get (D := (dC, dI)) (ci := 2) (v := .int (g_X2_lapped S)) (C := RX2) (T := TX2) (N := 12) hx hb huX2 (fun _ h9 => h9) hown hK hP 0 rfl rfl 8 (by decide) w46 (fun _ h9 => h9) rfl dX2_layDown_16 ?_
  refine lv_iconst (v := (1 : Int32)) hx hb dX2_layDown_19 (by decide) ?_
  refine lv_iadd hx hb dX2_layDown_20 ?_
  refine va_put (D := (dC, dI)) (ci := 2) (v := .int ((g_X2_lapped S) + (1 : Int32))) (ty := .int) (C := RX2) (T := TX2) (N := 12) hx hb huX2 (fun _ h9 => h9) tyX2 tyX2_ok nmX2 hown hK hP hD hS 0 rfl rfl 8 (by decide) w46 (fun _ h9 => h9) rfl (by decide +kernel) rfl rfl (Nat.le_of_ble_eq_true rfl) dX2_layDown_21 (fun H locs hP hD hS => ?_)
  have hP : va_P (dC, dI) vwCl (wX2 a cI cF (s_X2_lapped (s_X2_stopped S (1 : Int32)) ((g_X2_lapped S) + (1 : Int32)))) H := hP
  have hD : va_D A (wX2 a cI cF (s_X2_lapped (s_X2_stopped S (1 : Int32)) ((g_X2_lapped S) + (1 : Int32)))) := hD
  refine lv_aload_n hx hb dX2_layDown_24 rfl (lv_at hl 0 rfl) ?_
  refine lv_dup hx hb dX2_layDown_25 rfl ?_
  refine va_get (D := (dC, dI)) (ci := 2) (v := .int (g_X2_waste S)) (C := RX2) (T := TX2) (N := 12) hx hb huX2 (fun _ h9 => h9) hown hK hP 0 rfl rfl 9 (by decide) w49 (fun _ h9 => h9) rfl dX2_layDown_26 ?_
  refine lv_iload_n hx hb dX2_layDown_29 rfl (lv_at hl 1 rfl) ?_
  refine lv_iadd hx hb dX2_layDown_30 ?_
  refine va_put (D := (dC, dI)) (ci := 2) (v := .int ((g_X2_waste S) + x1)) (ty := .int) (C := RX2) (T := TX2) (N := 12) hx hb huX2 (fun _ h9 => h9) tyX2 tyX2_ok nmX2 hown hK hP hD hS 0 rfl rfl 9 (by decide) w49 (fun _ h9 => h9) rfl (by decide +kernel) rfl rfl (Nat.le_of_ble_eq_true rfl) dX2_layDown_31 (fun H locs hP hD hS => ?_)
  have hP : va_P (dC, dI) vwCl (wX2 a cI cF (s_X2_waste (s_X2_lapped (s_X2_stopped S (1 : Int32)) ((g_X2_lapped S) + (1 : Int32))) ((g_X2_waste S) + x1))) H := hP
  have hD : va_D A (wX2 a cI cF (s_X2_waste (s_X2_lapped (s_X2_stopped S (1 : Int32)) ((g_X2_lapped S) + (1 : Int32))) ((g_X2_waste S) + x1))) := hD
  refine lv_goto (tgt := 59) hx hb dX2_layDown_34 (by decide) ?_
  have hu := Option.some.inj h
  exact W.vret hx hb hr (fun t ht hW => ⟨⟨rfl, by rw [ht, ← hu]; exact hP⟩, hS.F ht⟩) hS.2.2 dX2_layDown_59

def m_X2_whyNot (S : S_X2) : Option (Int32) := if (g_X2_stopped S) = 0 then (if (g_X2_fed S) = 0 then (some (2 : Int32)) else ((m_X2_isFed S (g_X2_taker S)).bind fun v3 => (if v3 = 0 then ((m_X0_maskOfFilled (g_X2_cans S)).bind fun v6 => (if ((g_X2_fed S) &&& (v6 ^^^ (-1 : Int32))) = 0 then ((m_X0_frontsOf (g_X2_cans S) (g_X2_fed S)).bind fun v9 => ((m_X2_draftFor S v9).bind fun v11 => ((m_X0_sizeOf (g_X2_cans S) (g_X2_taker S)).bind fun v13 => (if (v13 + v11) ≤ (40 : Int32) then (some (0 : Int32)) else (some (5 : Int32)))))) else (some (4 : Int32)))) else (some (3 : Int32))))) else (some (1 : Int32))
set_option maxHeartbeats 4000000 in
set_option maxRecDepth 100000 in
theorem c_X2_whyNot (l : Launch) (dC : Nat → ClassId) (dI : Nat → Nat → Nat) (cI cF : ClassId) (a : Nat → Nat) (S : S_X2) (u : Int32) (h : m_X2_whyNot S = some u) : cRO l (dC, dI) cI cF yX2_whyNot wsX2_whyNot ({ frames := 3, cells := 0, slots := 0, locals := 67 } : Room) [.ref (a 0)] (wX2 a cI cF S) (some (.int u)) := by
  refine Met.ofW (cc := cX2_whyNot) (maxL := 2) (ret := (some .int)) (by decide) rfl ?_
  intro p e s m args below meth c s₁ B hml hv
  obtain ⟨hargs, hP, hK⟩ := hv
  subst hargs
  have hx := B.exec
  have hb := B.bytes
  have hr := B.returns
  have hts := atoms_spec (ws := wsX2_whyNot) B.pre
  have hown : s.vm.findClass RX2 = some m.cls := findClass_of_methodNamed B.named
  have hlocks := B.notSynchronized
  have w12 := hts (.fieldLink RX2 12 "DrawnSlivers$Frame" "cans" "LDrawnSlivers$Cans;") (List.mem_of_getElem? (i := 4) rfl)
  have w29 := hts (.fieldLink RX2 29 "DrawnSlivers$Frame" "fed" "I") (List.mem_of_getElem? (i := 2) rfl)
  have w33 := hts (.fieldLink RX2 33 "DrawnSlivers$Frame" "taker" "I") (List.mem_of_getElem? (i := 3) rfl)
  have w36 := hts (.fieldLink RX2 36 "DrawnSlivers$Frame" "stopped" "Z") (List.mem_of_getElem? (i := 1) rfl)
  have w81 := hts (.methodLink RX2 81 yX2_isFed) (List.mem_of_getElem? (i := 5) rfl)
  have w85 := hts (.methodLink RX2 85 yX0_maskOfFilled) (List.mem_of_getElem? (i := 10) rfl)
  have w89 := hts (.methodLink RX2 89 yX0_frontsOf) (List.mem_of_getElem? (i := 16) rfl)
  have w93 := hts (.methodLink RX2 93 yX2_draftFor) (List.mem_of_getElem? (i := 29) rfl)
  have w96 := hts (.methodLink RX2 96 yX0_sizeOf) (List.mem_of_getElem? (i := 53) rfl)
  have huX2 : ∀ w ∈ u_ws RX2 TX2 12, w.before _ s = true := fun w h => hts w (List.mem_cons_of_mem _ (List.mem_append_left _ (List.mem_append_left _ (List.mem_append_right _ (h)))))
  have hl := lv_entry ([.ref (a 0)]) (n := 2) (Nat.le_of_ble_eq_true rfl)
  rw [lg_entry_eq]
  generalize (lg_sl ([.ref (a 0)]) ++ List.replicate (2 - (lg_sl ([.ref (a 0)])).length) Slot.unset).toArray = ls at hl ⊢
  have hl : lv_has ls 2 [(0, .ref (a 0))] := hl
  rw [m_X2_whyNot] at h
  refine lv_aload_n hx hb dX2_whyNot_0 rfl (lv_at hl 0 rfl) ?_
  refine va_get (D := (dC, dI)) (ci := 2) (v := .int (g_X2_stopped S)) (C := RX2) (T := TX2) (N := 12) hx hb huX2 (fun _ h9 => h9) hown hK hP 0 rfl rfl 5 (by decide) w36 (fun _ h9 => h9) rfl dX2_whyNot_1 ?_
  refine lv_if_eq (tgt := 9) hx hb dX2_whyNot_4 (by decide) (fun c1 => ?_) (fun c1 => ?_)
  rotate_left
  · have h := o_f h c1
    refine lv_iconst (v := (1 : Int32)) hx hb dX2_whyNot_7 (by decide) ?_
    have hu := Option.some.inj h
    exact W.iret (v := (1 : Int32)) hx hb hr (fun t ht hW => ⟨congrArg (fun z => Outcome.returned (some (Value.int z))) hu, ht⟩) (fun q hq => absurd hq List.not_mem_nil) dX2_whyNot_8
  have h := o_t h c1
  refine lv_aload_n hx hb dX2_whyNot_9 rfl (lv_at hl 0 rfl) ?_
  refine va_get (D := (dC, dI)) (ci := 2) (v := .int (g_X2_fed S)) (C := RX2) (T := TX2) (N := 12) hx hb huX2 (fun _ h9 => h9) hown hK hP 0 rfl rfl 3 (by decide) w29 (fun _ h9 => h9) rfl dX2_whyNot_10 ?_
  refine lv_if_ne (tgt := 18) hx hb dX2_whyNot_13 (by decide) (fun c2 => ?_) (fun c2 => ?_)
  rotate_left
  · have h := o_t h c2
    refine lv_iconst (v := (2 : Int32)) hx hb dX2_whyNot_16 (by decide) ?_
    have hu := Option.some.inj h
    exact W.iret (v := (2 : Int32)) hx hb hr (fun t ht hW => ⟨congrArg (fun z => Outcome.returned (some (Value.int z))) hu, ht⟩) (fun q hq => absurd hq List.not_mem_nil) dX2_whyNot_17
  have h := o_f h c2
  refine lv_aload_n hx hb dX2_whyNot_18 rfl (lv_at hl 0 rfl) ?_
  refine lv_aload_n hx hb dX2_whyNot_19 rfl (lv_at hl 0 rfl) ?_
  refine va_get (D := (dC, dI)) (ci := 2) (v := .int (g_X2_taker S)) (C := RX2) (T := TX2) (N := 12) hx hb huX2 (fun _ h9 => h9) hown hK hP 0 rfl rfl 4 (by decide) w33 (fun _ h9 => h9) rfl dX2_whyNot_20 ?_
  obtain ⟨v3, g4, h⟩ := o_b h
  refine k_ro (va_runV (As := [.int (g_X2_taker S)]) (rest := []) ⟨hx, hb, hml, hown, hts⟩ (c_X2_isFed l dC dI cI cF a S (g_X2_taker S) v3 g4) (cwV 1 hts gX2_whyNot_X2_isFed rfl rfl rfl (by decide +kernel) ⟨Nat.le_of_ble_eq_true rfl, Nat.le_of_ble_eq_true rfl⟩) (k_preV (q0 := 0) (ci := 2) hK (hP.sub (ws' := wX2 a cI cF S) [0, 1, 2, 3, 4, 5, 6] rfl) rfl rfl rfl) rfl rfl hl.1 rfl (lv_room (Nat.le_of_ble_eq_true rfl)) dX2_whyNot_23 ⟨Nat.zero_le _, Nat.zero_le _⟩) (st1 := [.int v3]) rfl ?_
  refine lv_if_eq (tgt := 31) hx hb dX2_whyNot_26 (by decide) (fun c5 => ?_) (fun c5 => ?_)
  rotate_left
  · have h := o_f h c5
    refine lv_iconst (v := (3 : Int32)) hx hb dX2_whyNot_29 (by decide) ?_
    have hu := Option.some.inj h
    exact W.iret (v := (3 : Int32)) hx hb hr (fun t ht hW => ⟨congrArg (fun z => Outcome.returned (some (Value.int z))) hu, ht⟩) (fun q hq => absurd hq List.not_mem_nil) dX2_whyNot_30
  have h := o_t h c5
  refine lv_aload_n hx hb dX2_whyNot_31 rfl (lv_at hl 0 rfl) ?_
  refine va_get (D := (dC, dI)) (ci := 2) (v := .int (g_X2_fed S)) (C := RX2) (T := TX2) (N := 12) hx hb huX2 (fun _ h9 => h9) hown hK hP 0 rfl rfl 3 (by decide) w29 (fun _ h9 => h9) rfl dX2_whyNot_32 ?_
  refine lv_aload_n hx hb dX2_whyNot_35 rfl (lv_at hl 0 rfl) ?_
  refine va_get (D := (dC, dI)) (ci := 2) (v := .ref (a 1)) (C := RX2) (T := TX2) (N := 12) hx hb huX2 (fun _ h9 => h9) hown hK hP 0 rfl rfl 0 (by decide) w12 (fun _ h9 => h9) rfl dX2_whyNot_36 ?_
  obtain ⟨v6, g7, h⟩ := o_b h
  refine k_ro (va_runV (As := []) (rest := [.int (g_X2_fed S)]) ⟨hx, hb, hml, hown, hts⟩ (c_X0_maskOfFilled l dC dI cI cF (fun i => a (i + 1)) (g_X2_cans S) v6 g7) (cwV 0 hts gX2_whyNot_X0_maskOfFilled rfl rfl rfl (by decide +kernel) ⟨Nat.le_of_ble_eq_true rfl, Nat.le_of_ble_eq_true rfl⟩) (k_preV (q0 := 0) (ci := 0) hK (hP.sub (ws' := wX0 (fun i => a (i + 1)) cI cF (g_X2_cans S)) [1, 2, 3] rfl) rfl rfl rfl) rfl rfl hl.1 rfl (lv_room (Nat.le_of_ble_eq_true rfl)) dX2_whyNot_39 ⟨Nat.zero_le _, Nat.zero_le _⟩) (st1 := [.int v6, .int (g_X2_fed S)]) rfl ?_
  refine lv_iconst (v := (-1 : Int32)) hx hb dX2_whyNot_42 (by decide) ?_
  refine lv_ixor hx hb dX2_whyNot_43 ?_
  refine lv_iand hx hb dX2_whyNot_44 ?_
  refine lv_if_eq (tgt := 50) hx hb dX2_whyNot_45 (by decide) (fun c8 => ?_) (fun c8 => ?_)
  rotate_left
  · have h := o_f h c8
    refine lv_iconst (v := (4 : Int32)) hx hb dX2_whyNot_48 (by decide) ?_
    have hu := Option.some.inj h
    exact W.iret (v := (4 : Int32)) hx hb hr (fun t ht hW => ⟨congrArg (fun z => Outcome.returned (some (Value.int z))) hu, ht⟩) (fun q hq => absurd hq List.not_mem_nil) dX2_whyNot_49
  have h := o_t h c8
  refine lv_aload_n hx hb dX2_whyNot_50 rfl (lv_at hl 0 rfl) ?_
  refine lv_aload_n hx hb dX2_whyNot_51 rfl (lv_at hl 0 rfl) ?_
  refine va_get (D := (dC, dI)) (ci := 2) (v := .ref (a 1)) (C := RX2) (T := TX2) (N := 12) hx hb huX2 (fun _ h9 => h9) hown hK hP 0 rfl rfl 0 (by decide) w12 (fun _ h9 => h9) rfl dX2_whyNot_52 ?_
  refine lv_aload_n hx hb dX2_whyNot_55 rfl (lv_at hl 0 rfl) ?_
  refine va_get (D := (dC, dI)) (ci := 2) (v := .int (g_X2_fed S)) (C := RX2) (T := TX2) (N := 12) hx hb huX2 (fun _ h9 => h9) hown hK hP 0 rfl rfl 3 (by decide) w29 (fun _ h9 => h9) rfl dX2_whyNot_56 ?_
  obtain ⟨v9, g10, h⟩ := o_b h
  refine k_ro (va_runV (As := [.int (g_X2_fed S)]) (rest := [.ref (a 0)]) ⟨hx, hb, hml, hown, hts⟩ (c_X0_frontsOf l dC dI cI cF (fun i => a (i + 1)) (g_X2_cans S) (g_X2_fed S) v9 g10) (cwV 1 hts gX2_whyNot_X0_frontsOf rfl rfl rfl (by decide +kernel) ⟨Nat.le_of_ble_eq_true rfl, Nat.le_of_ble_eq_true rfl⟩) (k_preV (q0 := 0) (ci := 0) hK (hP.sub (ws' := wX0 (fun i => a (i + 1)) cI cF (g_X2_cans S)) [1, 2, 3] rfl) rfl rfl rfl) rfl rfl hl.1 rfl (lv_room (Nat.le_of_ble_eq_true rfl)) dX2_whyNot_59 ⟨Nat.zero_le _, Nat.zero_le _⟩) (st1 := [.int v9, .ref (a 0)]) rfl ?_
  obtain ⟨v11, g12, h⟩ := o_b h
  refine k_ro (va_runV (As := [.int v9]) (rest := []) ⟨hx, hb, hml, hown, hts⟩ (c_X2_draftFor l dC dI cI cF a S v9 v11 g12) (cwV 1 hts gX2_whyNot_X2_draftFor rfl rfl rfl (by decide +kernel) ⟨Nat.le_of_ble_eq_true rfl, Nat.le_of_ble_eq_true rfl⟩) (k_preV (q0 := 0) (ci := 2) hK (hP.sub (ws' := wX2 a cI cF S) [0, 1, 2, 3, 4, 5, 6] rfl) rfl rfl rfl) rfl rfl hl.1 rfl (lv_room (Nat.le_of_ble_eq_true rfl)) dX2_whyNot_62 ⟨Nat.zero_le _, Nat.zero_le _⟩) (st1 := [.int v11]) rfl ?_
  refine lv_istore_n (lv' := [(1, .int v11), (0, .ref (a 0))]) hx hb dX2_whyNot_65 rfl hl (by decide) rfl (fun ls hl => ?_)
  refine lv_aload_n hx hb dX2_whyNot_66 rfl (lv_at hl 1 rfl) ?_
  refine va_get (D := (dC, dI)) (ci := 2) (v := .ref (a 1)) (C := RX2) (T := TX2) (N := 12) hx hb huX2 (fun _ h9 => h9) hown hK hP 0 rfl rfl 0 (by decide) w12 (fun _ h9 => h9) rfl dX2_whyNot_67 ?_
  refine lv_aload_n hx hb dX2_whyNot_70 rfl (lv_at hl 1 rfl) ?_
  refine va_get (D := (dC, dI)) (ci := 2) (v := .int (g_X2_taker S)) (C := RX2) (T := TX2) (N := 12) hx hb huX2 (fun _ h9 => h9) hown hK hP 0 rfl rfl 4 (by decide) w33 (fun _ h9 => h9) rfl dX2_whyNot_71 ?_
  obtain ⟨v13, g14, h⟩ := o_b h
  refine k_ro (va_runV (As := [.int (g_X2_taker S)]) (rest := []) ⟨hx, hb, hml, hown, hts⟩ (c_X0_sizeOf l dC dI cI cF (fun i => a (i + 1)) (g_X2_cans S) (g_X2_taker S) v13 g14) (cwV 1 hts gX2_whyNot_X0_sizeOf rfl rfl rfl (by decide +kernel) ⟨Nat.le_of_ble_eq_true rfl, Nat.le_of_ble_eq_true rfl⟩) (k_preV (q0 := 0) (ci := 0) hK (hP.sub (ws' := wX0 (fun i => a (i + 1)) cI cF (g_X2_cans S)) [1, 2, 3] rfl) rfl rfl rfl) rfl rfl hl.1 rfl (lv_room (Nat.le_of_ble_eq_true rfl)) dX2_whyNot_74 ⟨Nat.zero_le _, Nat.zero_le _⟩) (st1 := [.int v13]) rfl ?_
  refine lv_iload_n hx hb dX2_whyNot_77 rfl (lv_at hl 0 rfl) ?_
  refine lv_iadd hx hb dX2_whyNot_78 ?_
  refine lv_bipush (v := (40 : Int32)) hx hb dX2_whyNot_79 (by decide) ?_
  refine lv_icmp_le (tgt := 88) hx hb dX2_whyNot_81 (by decide) (fun c15 => ?_) (fun c15 => ?_)
  · have h := o_t h c15
    refine lv_iconst (v := (0 : Int32)) hx hb dX2_whyNot_88 (by decide) ?_
    have hu := Option.some.inj h
    exact W.iret (v := (0 : Int32)) hx hb hr (fun t ht hW => ⟨congrArg (fun z => Outcome.returned (some (Value.int z))) hu, ht⟩) (fun q hq => absurd hq List.not_mem_nil) dX2_whyNot_89
  have h := o_f h c15
  refine lv_iconst (v := (5 : Int32)) hx hb dX2_whyNot_84 (by decide) ?_
  refine lv_goto (tgt := 89) hx hb dX2_whyNot_85 (by decide) ?_
  have hu := Option.some.inj h
  exact W.iret (v := (5 : Int32)) hx hb hr (fun t ht hW => ⟨congrArg (fun z => Outcome.returned (some (Value.int z))) hu, ht⟩) (fun q hq => absurd hq List.not_mem_nil) dX2_whyNot_89

def m_X2_makeStep_L85 (y2 : Int32) (S : S_X2) : Option (S_X2) := some (s_X2_latestDraft (s_X2_steps S ((g_X2_steps S) + (1 : Int32))) y2)
def m_X2_makeStep_L55 : Nat → Int32 → Int32 → Int32 → Int32 → S_X2 → Option (S_X2)
  | 0, _, _, _, _, _ => none
  | n + 1, y2, y3, y4, y5, S => if y2 ≤ y5 then (m_X2_makeStep_L85 y2 S) else (if y4 ≤ y5 then ((m_X2_layDown S y3).bind fun v18 => (nmL (y5 + 1) fun x5_20 => ((m_X2_makeStep_L55 n) y2 y3 y4 x5_20 v18))) else ((m_X2_layDown S (y3 + (1 : Int32))).bind fun v22 => (nmL (y5 + 1) fun x5_24 => ((m_X2_makeStep_L55 n) y2 y3 y4 x5_24 v22))))
def m_X2_makeStep (S : S_X2) : Option (S_X2) := (m_X0_frontsOf (g_X2_cans S) (g_X2_fed S)).bind fun v1 => ((m_X2_draftFor S v1).bind fun v3 => (if (1 : Int32) ≤ v3 then ((m_X0_dropFronts (g_X2_cans S) (g_X2_fed S)).bind fun v6 => ((m_X1_remember (g_X2_feeler S) v1).bind fun v8 => (if v3 = 0 then none else (nmL (v1 / v3) fun x3_11 => (if v3 = 0 then none else (nmL (v1 - v1 / v3 * v3) fun x4_14 => (m_X2_makeStep_L55 4000 v3 x3_11 x4_14 (0 : Int32) (s_X2_feeler (s_X2_cans S v6) v8)))))))) else (some S)))
set_option maxHeartbeats 4000000 in
set_option maxRecDepth 100000 in
theorem c_X2_makeStep (l : Launch) (dC : Nat → ClassId) (dI : Nat → Nat → Nat) (cI cF : ClassId) (a : Nat → Nat) (S : S_X2) (u : S_X2) (h : m_X2_makeStep S = some u) : cRW l (dC, dI) cI cF yX2_makeStep wsX2_makeStep ({ frames := 3, cells := 0, slots := 0, locals := 105 } : Room) [.ref (a 0)] (wX2 a cI cF S) (wX2 a cI cF u) (none) := by
  intro sz
  refine Met.ofW (cc := cX2_makeStep) (maxL := 6) (ret := none) (by decide) rfl ?_
  intro p e s m args below meth c s₁ B hml hv
  obtain ⟨hargs, hsz, hP, hK, hD0⟩ := hv
  subst hargs
  have hx := B.exec
  have hb := B.bytes
  have hr := B.returns
  have hts := atoms_spec (ws := wsX2_makeStep) B.pre
  have hown : s.vm.findClass RX2 = some m.cls := findClass_of_methodNamed B.named
  have hlocks := B.notSynchronized
  have w114 := hts (.methodLink RX2 114 yX0_dropFronts) (List.mem_of_getElem? (i := 45) rfl)
  have w118 := hts (.methodLink RX2 118 yX1_remember) (List.mem_of_getElem? (i := 57) rfl)
  have w12 := hts (.fieldLink RX2 12 "DrawnSlivers$Frame" "cans" "LDrawnSlivers$Cans;") (List.mem_of_getElem? (i := 1) rfl)
  have w121 := hts (.methodLink RX2 121 yX2_layDown) (List.mem_of_getElem? (i := 62) rfl)
  have w21 := hts (.fieldLink RX2 21 "DrawnSlivers$Frame" "feeler" "LDrawnSlivers$Feeler;") (List.mem_of_getElem? (i := 3) rfl)
  have w29 := hts (.fieldLink RX2 29 "DrawnSlivers$Frame" "fed" "I") (List.mem_of_getElem? (i := 2) rfl)
  have w40 := hts (.fieldLink RX2 40 "DrawnSlivers$Frame" "steps" "I") (List.mem_of_getElem? (i := 4) rfl)
  have w43 := hts (.fieldLink RX2 43 "DrawnSlivers$Frame" "latestDraft" "I") (List.mem_of_getElem? (i := 5) rfl)
  have w89 := hts (.methodLink RX2 89 yX0_frontsOf) (List.mem_of_getElem? (i := 6) rfl)
  have w93 := hts (.methodLink RX2 93 yX2_draftFor) (List.mem_of_getElem? (i := 21) rfl)
  have huX2 : ∀ w ∈ u_ws RX2 TX2 12, w.before _ s = true := fun w h => hts w (List.mem_cons_of_mem _ (List.mem_append_left _ (List.mem_append_left _ (List.mem_append_right _ (h)))))
  subst hsz
  have hD := hD0.self (sz := s.heap.size)
  generalize hAe : va_A (wX2 a cI cF S) s.heap.size = A at hD ⊢
  have hA : ∀ q : Nat, s.heap.size ≤ q → A q := fun q h => by rw [← hAe]; exact Or.inr h
  have hS : va_S A s.heap s.heap [] := va_S.rf
  have L85 : ∀ (y2 : Int32) (S : S_X2), m_X2_makeStep_L85 y2 S = some u → ∀ (H : Heap) (locs : List Loc), va_P (dC, dI) vwCl (wX2 a cI cF S) H → va_D A (wX2 a cI cF S) → va_S A s.heap H locs → ∀ (ls : Array Slot), lv_has ls 6 [(0, .ref (a 0)), (2, .int y2)] → W p l e (headSpec wsX2_makeStep ({ frames := 3, cells := 0, slots := 0, locals := 105 } : Room)).room s m ([.ref (a 0)] : List Value).toArray below meth c H locs 0 0 (MQ below (qRW (dC, dI) (wX2 a cI cF u) (none) A) ([.ref (a 0)] : List Value).toArray s 0 0 A) (F0 m 85 ls []) := by
    intro  y2 S h H locs hP hD hS ls hl
    rw [m_X2_makeStep_L85] at h
    refine lv_aload_n hx hb dX2_makeStep_85 rfl (lv_at hl 0 rfl) ?_
    refine lv_dup hx hb dX2_makeStep_86 rfl ?_
    refine va_get (D := (dC, dI)) (ci := 2) (v := .int (g_X2_steps S)) (C := RX2) (T := TX2) (N := 12) hx hb huX2 (fun _ h9 => h9) hown hK hP 0 rfl rfl 6 (by decide) w40 (fun _ h9 => h9) rfl dX2_makeStep_87 ?_
    refine lv_iconst (v := (1 : Int32)) hx hb dX2_makeStep_90 (by decide) ?_
    refine lv_iadd hx hb dX2_makeStep_91 ?_
    refine va_put (D := (dC, dI)) (ci := 2) (v := .int ((g_X2_steps S) + (1 : Int32))) (ty := .int) (C := RX2) (T := TX2) (N := 12) hx hb huX2 (fun _ h9 => h9) tyX2 tyX2_ok nmX2 hown hK hP hD hS 0 rfl rfl 6 (by decide) w40 (fun _ h9 => h9) rfl (by decide +kernel) rfl rfl (Nat.le_of_ble_eq_true rfl) dX2_makeStep_92 (fun H locs hP hD hS => ?_)
    have hP : va_P (dC, dI) vwCl (wX2 a cI cF (s_X2_steps S ((g_X2_steps S) + (1 : Int32)))) H := hP
    have hD : va_D A (wX2 a cI cF (s_X2_steps S ((g_X2_steps S) + (1 : Int32)))) := hD
    refine lv_aload_n hx hb dX2_makeStep_95 rfl (lv_at hl 0 rfl) ?_
    refine lv_iload_n hx hb dX2_makeStep_96 rfl (lv_at hl 1 rfl) ?_
    refine va_put (D := (dC, dI)) (ci := 2) (v := .int y2) (ty := .int) (C := RX2) (T := TX2) (N := 12) hx hb huX2 (fun _ h9 => h9) tyX2 tyX2_ok nmX2 hown hK hP hD hS 0 rfl rfl 7 (by decide) w43 (fun _ h9 => h9) rfl (by decide +kernel) rfl rfl (Nat.le_of_ble_eq_true rfl) dX2_makeStep_97 (fun H locs hP hD hS => ?_)
    have hP : va_P (dC, dI) vwCl (wX2 a cI cF (s_X2_latestDraft (s_X2_steps S ((g_X2_steps S) + (1 : Int32))) y2)) H := hP
    have hD : va_D A (wX2 a cI cF (s_X2_latestDraft (s_X2_steps S ((g_X2_steps S) + (1 : Int32))) y2)) := hD
    have hu := Option.some.inj h
    exact W.vret hx hb hr (fun t ht hW => ⟨⟨rfl, by rw [ht, ← hu]; exact hP⟩, hS.F ht⟩) hS.2.2 dX2_makeStep_100
  have L55 : ∀ (n : Nat), ∀ (y2 : Int32) (y3 : Int32) (y4 : Int32) (y5 : Int32) (S : S_X2), m_X2_makeStep_L55 n y2 y3 y4 y5 S = some u → ∀ (H : Heap) (locs : List Loc), va_P (dC, dI) vwCl (wX2 a cI cF S) H → va_D A (wX2 a cI cF S) → va_S A s.heap H locs → ∀ (ls : Array Slot), lv_has ls 6 [(0, .ref (a 0)), (2, .int y2), (3, .int y3), (4, .int y4), (5, .int y5)] → W p l e (headSpec wsX2_makeStep ({ frames := 3, cells := 0, slots := 0, locals := 105 } : Room)).room s m ([.ref (a 0)] : List Value).toArray below meth c H locs 0 0 (MQ below (qRW (dC, dI) (wX2 a cI cF u) (none) A) ([.ref (a 0)] : List Value).toArray s 0 0 A) (F0 m 55 ls []) := by
    intro  n
    induction n with
    | zero =>
      intro y2 y3 y4 y5 S h
      exact (o_0 h).elim
    | succ n ih55 =>
      intro y2 y3 y4 y5 S h H locs hP hD hS ls hl
      rw [m_X2_makeStep_L55] at h
      refine lv_iload hx hb dX2_makeStep_55 (lv_at hl 4 rfl) ?_
      refine lv_iload_n hx hb dX2_makeStep_57 rfl (lv_at hl 1 rfl) ?_
      refine lv_icmp_ge (tgt := 85) hx hb dX2_makeStep_58 (by decide) (fun c16 => ?_) (fun c16 => ?_)
      · have h := o_t h c16
        exact L85 _ _ h _ _ hP hD hS _ (lv_sub hl [0, 1] rfl)
      have h := o_f h c16
      refine lv_aload_n hx hb dX2_makeStep_61 rfl (lv_at hl 0 rfl) ?_
      refine lv_iload hx hb dX2_makeStep_62 (lv_at hl 4 rfl) ?_
      refine lv_iload hx hb dX2_makeStep_64 (lv_at hl 3 rfl) ?_
      refine lv_icmp_ge (tgt := 75) hx hb dX2_makeStep_66 (by decide) (fun c17 => ?_) (fun c17 => ?_)
      · have h := o_t h c17
        refine lv_iload_n hx hb dX2_makeStep_75 rfl (lv_at hl 2 rfl) ?_
        obtain ⟨v18, g19, h⟩ := o_b h
        refine k_rw (va_runV (As := [.int y3]) (rest := []) ⟨hx, hb, hml, hown, hts⟩ (c_X2_layDown l dC dI cI cF a S y3 v18 g19 H.size) (cwV 1 hts gX2_makeStep_X2_layDown rfl rfl rfl (by decide +kernel) ⟨Nat.le_of_ble_eq_true rfl, Nat.le_of_ble_eq_true rfl⟩) (k_preVw (q0 := 0) (ci := 2) hK hP hD [0, 1, 2, 3, 4, 5, 6] rfl rfl rfl rfl rfl) rfl rfl hl.1 rfl (lv_room (Nat.le_of_ble_eq_true rfl)) dX2_makeStep_76 ⟨Nat.zero_le _, Nat.zero_le _⟩) (st1 := []) rfl hP hD hS hA [0, 1, 2, 3, 4, 5, 6] rfl rfl (wn := wX2 a cI cF v18) rfl rfl rfl (fun H locs hP hD hS => ?_)
        obtain ⟨x5_20, e21, h⟩ := o_n h
        refine lv_iinc (v := x5_20) (lv' := [(5, .int x5_20), (0, .ref (a 0)), (2, .int y2), (3, .int y3), (4, .int y4)]) hx hb dX2_makeStep_79 hl (k := 4) rfl (by rw [e21]; rfl) (by decide) rfl (fun ls hl => ?_)
        refine lv_goto (tgt := 55) hx hb dX2_makeStep_82 (by decide) ?_
        exact ih55 _ _ _ _ _ h _ _ hP hD hS _ (lv_sub hl [1, 2, 3, 4, 0] rfl)
      have h := o_f h c17
      refine lv_iload_n hx hb dX2_makeStep_69 rfl (lv_at hl 2 rfl) ?_
      refine lv_iconst (v := (1 : Int32)) hx hb dX2_makeStep_70 (by decide) ?_
      refine lv_iadd hx hb dX2_makeStep_71 ?_
      refine lv_goto (tgt := 76) hx hb dX2_makeStep_72 (by decide) ?_
      obtain ⟨v22, g23, h⟩ := o_b h
      refine k_rw (va_runV (As := [.int (y3 + (1 : Int32))]) (rest := []) ⟨hx, hb, hml, hown, hts⟩ (c_X2_layDown l dC dI cI cF a S (y3 + (1 : Int32)) v22 g23 H.size) (cwV 1 hts gX2_makeStep_X2_layDown rfl rfl rfl (by decide +kernel) ⟨Nat.le_of_ble_eq_true rfl, Nat.le_of_ble_eq_true rfl⟩) (k_preVw (q0 := 0) (ci := 2) hK hP hD [0, 1, 2, 3, 4, 5, 6] rfl rfl rfl rfl rfl) rfl rfl hl.1 rfl (lv_room (Nat.le_of_ble_eq_true rfl)) dX2_makeStep_76 ⟨Nat.zero_le _, Nat.zero_le _⟩) (st1 := []) rfl hP hD hS hA [0, 1, 2, 3, 4, 5, 6] rfl rfl (wn := wX2 a cI cF v22) rfl rfl rfl (fun H locs hP hD hS => ?_)
      obtain ⟨x5_24, e25, h⟩ := o_n h
      refine lv_iinc (v := x5_24) (lv' := [(5, .int x5_24), (0, .ref (a 0)), (2, .int y2), (3, .int y3), (4, .int y4)]) hx hb dX2_makeStep_79 hl (k := 4) rfl (by rw [e25]; rfl) (by decide) rfl (fun ls hl => ?_)
      refine lv_goto (tgt := 55) hx hb dX2_makeStep_82 (by decide) ?_
      exact ih55 _ _ _ _ _ h _ _ hP hD hS _ (lv_sub hl [1, 2, 3, 4, 0] rfl)
  have hl := lv_entry ([.ref (a 0)]) (n := 6) (Nat.le_of_ble_eq_true rfl)
  rw [lg_entry_eq]
  generalize (lg_sl ([.ref (a 0)]) ++ List.replicate (6 - (lg_sl ([.ref (a 0)])).length) Slot.unset).toArray = ls at hl ⊢
  have hl : lv_has ls 6 [(0, .ref (a 0))] := hl
  rw [m_X2_makeStep] at h
  refine lv_aload_n hx hb dX2_makeStep_0 rfl (lv_at hl 0 rfl) ?_
  refine va_get (D := (dC, dI)) (ci := 2) (v := .ref (a 1)) (C := RX2) (T := TX2) (N := 12) hx hb huX2 (fun _ h9 => h9) hown hK hP 0 rfl rfl 0 (by decide) w12 (fun _ h9 => h9) rfl dX2_makeStep_1 ?_
  refine lv_aload_n hx hb dX2_makeStep_4 rfl (lv_at hl 0 rfl) ?_
  refine va_get (D := (dC, dI)) (ci := 2) (v := .int (g_X2_fed S)) (C := RX2) (T := TX2) (N := 12) hx hb huX2 (fun _ h9 => h9) hown hK hP 0 rfl rfl 3 (by decide) w29 (fun _ h9 => h9) rfl dX2_makeStep_5 ?_
  obtain ⟨v1, g2, h⟩ := o_b h
  refine k_ro (va_runV (As := [.int (g_X2_fed S)]) (rest := []) ⟨hx, hb, hml, hown, hts⟩ (c_X0_frontsOf l dC dI cI cF (fun i => a (i + 1)) (g_X2_cans S) (g_X2_fed S) v1 g2) (cwV 1 hts gX2_makeStep_X0_frontsOf rfl rfl rfl (by decide +kernel) ⟨Nat.le_of_ble_eq_true rfl, Nat.le_of_ble_eq_true rfl⟩) (k_preV (q0 := 0) (ci := 0) hK (hP.sub (ws' := wX0 (fun i => a (i + 1)) cI cF (g_X2_cans S)) [1, 2, 3] rfl) rfl rfl rfl) rfl rfl hl.1 rfl (lv_room (Nat.le_of_ble_eq_true rfl)) dX2_makeStep_8 ⟨Nat.zero_le _, Nat.zero_le _⟩) (st1 := [.int v1]) rfl ?_
  refine lv_istore_n (lv' := [(1, .int v1), (0, .ref (a 0))]) hx hb dX2_makeStep_11 rfl hl (by decide) rfl (fun ls hl => ?_)
  refine lv_aload_n hx hb dX2_makeStep_12 rfl (lv_at hl 1 rfl) ?_
  refine lv_iload_n hx hb dX2_makeStep_13 rfl (lv_at hl 0 rfl) ?_
  obtain ⟨v3, g4, h⟩ := o_b h
  refine k_ro (va_runV (As := [.int v1]) (rest := []) ⟨hx, hb, hml, hown, hts⟩ (c_X2_draftFor l dC dI cI cF a S v1 v3 g4) (cwV 1 hts gX2_makeStep_X2_draftFor rfl rfl rfl (by decide +kernel) ⟨Nat.le_of_ble_eq_true rfl, Nat.le_of_ble_eq_true rfl⟩) (k_preV (q0 := 0) (ci := 2) hK (hP.sub (ws' := wX2 a cI cF S) [0, 1, 2, 3, 4, 5, 6] rfl) rfl rfl rfl) rfl rfl hl.1 rfl (lv_room (Nat.le_of_ble_eq_true rfl)) dX2_makeStep_14 ⟨Nat.zero_le _, Nat.zero_le _⟩) (st1 := [.int v3]) rfl ?_
  refine lv_istore_n (lv' := [(2, .int v3), (1, .int v1), (0, .ref (a 0))]) hx hb dX2_makeStep_17 rfl hl (by decide) rfl (fun ls hl => ?_)
  refine lv_iload_n hx hb dX2_makeStep_18 rfl (lv_at hl 0 rfl) ?_
  refine lv_iconst (v := (1 : Int32)) hx hb dX2_makeStep_19 (by decide) ?_
  refine lv_icmp_ge (tgt := 24) hx hb dX2_makeStep_20 (by decide) (fun c5 => ?_) (fun c5 => ?_)
  rotate_left
  · have h := o_f h c5
    have hu := Option.some.inj h
    exact W.vret hx hb hr (fun t ht hW => ⟨⟨rfl, by rw [ht, ← hu]; exact hP⟩, hS.F ht⟩) hS.2.2 dX2_makeStep_23
  have h := o_t h c5
  refine lv_aload_n hx hb dX2_makeStep_24 rfl (lv_at hl 2 rfl) ?_
  refine va_get (D := (dC, dI)) (ci := 2) (v := .ref (a 1)) (C := RX2) (T := TX2) (N := 12) hx hb huX2 (fun _ h9 => h9) hown hK hP 0 rfl rfl 0 (by decide) w12 (fun _ h9 => h9) rfl dX2_makeStep_25 ?_
  refine lv_aload_n hx hb dX2_makeStep_28 rfl (lv_at hl 2 rfl) ?_
  refine va_get (D := (dC, dI)) (ci := 2) (v := .int (g_X2_fed S)) (C := RX2) (T := TX2) (N := 12) hx hb huX2 (fun _ h9 => h9) hown hK hP 0 rfl rfl 3 (by decide) w29 (fun _ h9 => h9) rfl dX2_makeStep_29 ?_
  obtain ⟨v6, g7, h⟩ := o_b h
  refine k_rw (va_runV (As := [.int (g_X2_fed S)]) (rest := []) ⟨hx, hb, hml, hown, hts⟩ (c_X0_dropFronts l dC dI cI cF (fun i => a (i + 1)) (g_X2_cans S) (g_X2_fed S) v6 g7 s.heap.size) (cwV 1 hts gX2_makeStep_X0_dropFronts rfl rfl rfl (by decide +kernel) ⟨Nat.le_of_ble_eq_true rfl, Nat.le_of_ble_eq_true rfl⟩) (k_preVw (q0 := 0) (ci := 0) hK hP hD [1, 2, 3] rfl rfl rfl rfl rfl) rfl rfl hl.1 rfl (lv_room (Nat.le_of_ble_eq_true rfl)) dX2_makeStep_32 ⟨Nat.zero_le _, Nat.zero_le _⟩) (st1 := []) rfl hP hD hS hA [1, 2, 3] rfl rfl (wn := wX2 a cI cF (s_X2_cans S v6)) rfl rfl rfl (fun H locs hP hD hS => ?_)
  refine lv_aload_n hx hb dX2_makeStep_35 rfl (lv_at hl 2 rfl) ?_
  refine va_get (D := (dC, dI)) (ci := 2) (v := .ref (a 4)) (C := RX2) (T := TX2) (N := 12) hx hb huX2 (fun _ h9 => h9) hown hK hP 0 rfl rfl 1 (by decide) w21 (fun _ h9 => h9) rfl dX2_makeStep_36 ?_
  refine lv_iload_n hx hb dX2_makeStep_39 rfl (lv_at hl 1 rfl) ?_
  obtain ⟨v8, g9, h⟩ := o_b h
  refine k_rw (va_runV (As := [.int v1]) (rest := []) ⟨hx, hb, hml, hown, hts⟩ (c_X1_remember l dC dI cI cF (fun i => a (i + 4)) (g_X2_feeler S) v1 v8 g9 H.size) (cwV 1 hts gX2_makeStep_X1_remember rfl rfl rfl (by decide +kernel) ⟨Nat.le_of_ble_eq_true rfl, Nat.le_of_ble_eq_true rfl⟩) (k_preVw (q0 := 0) (ci := 1) hK hP hD [4, 5] rfl rfl rfl rfl rfl) rfl rfl hl.1 rfl (lv_room (Nat.le_of_ble_eq_true rfl)) dX2_makeStep_40 ⟨Nat.zero_le _, Nat.zero_le _⟩) (st1 := []) rfl hP hD hS hA [4, 5] rfl rfl (wn := wX2 a cI cF (s_X2_feeler (s_X2_cans S v6) v8)) rfl rfl rfl (fun H locs hP hD hS => ?_)
  refine lv_iload_n hx hb dX2_makeStep_43 rfl (lv_at hl 1 rfl) ?_
  refine lv_iload_n hx hb dX2_makeStep_44 rfl (lv_at hl 0 rfl) ?_
  obtain ⟨i10, h⟩ := o_in h
  refine lv_idiv hx hb dX2_makeStep_45 i10 ?_
  obtain ⟨x3_11, e12, h⟩ := o_n h
  refine lv_nmi e12 ?_
  refine lv_istore_n (lv' := [(3, .int x3_11), (2, .int v3), (1, .int v1), (0, .ref (a 0))]) hx hb dX2_makeStep_46 rfl hl (by decide) rfl (fun ls hl => ?_)
  refine lv_iload_n hx hb dX2_makeStep_47 rfl (lv_at hl 2 rfl) ?_
  refine lv_iload_n hx hb dX2_makeStep_48 rfl (lv_at hl 1 rfl) ?_
  obtain ⟨i13, h⟩ := o_in h
  refine lv_irem hx hb dX2_makeStep_49 i13 ?_
  obtain ⟨x4_14, e15, h⟩ := o_n h
  refine lv_nmi e15 ?_
  refine lv_istore (lv' := [(4, .int x4_14), (3, .int x3_11), (2, .int v3), (1, .int v1), (0, .ref (a 0))]) hx hb dX2_makeStep_50 hl (by decide) rfl (fun ls hl => ?_)
  refine lv_iconst (v := (0 : Int32)) hx hb dX2_makeStep_52 (by decide) ?_
  refine lv_istore (lv' := [(5, .int (0 : Int32)), (4, .int x4_14), (3, .int x3_11), (2, .int v3), (1, .int v1), (0, .ref (a 0))]) hx hb dX2_makeStep_53 hl (by decide) rfl (fun ls hl => ?_)
  exact L55 _ _ _ _ _ _ h _ _ hP hD hS _ (lv_sub hl [5, 3, 2, 1, 0] rfl)

