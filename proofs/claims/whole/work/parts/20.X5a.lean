-- X5_feed X5_clear X5_append X5_clearBuffer X5_firstError X5_keep X5_goBack X5_undo
def m_X5_feed (S : S_X5) (x1 : Int32) : Option ((Nat × S_X5) ⊕ (Int32 × S_X5)) := if x1 < 0 then (some (.inl (2, S))) else (if x1 < (256 : Int32) then ((m_X3_save (g_X5_history S) (g_X5_frame S)).bind fun v3 => (nmL (g_X2_fed (g_X5_frame S)) fun x2_5 => (if x1 = x2_5 then (some (.inr (x2_5, s_X5_history (s_X5_frame S (s_X2_fed (g_X5_frame S) x1)) v3))) else ((m_X1_forget (g_X2_feeler (g_X5_frame S))).bind fun v8 => (some (.inr (x2_5, s_X5_history (s_X5_frame S (s_X2_fed (s_X2_feeler (g_X5_frame S) v8) x1)) v3))))))) else (some (.inl (2, S))))
set_option maxHeartbeats 4000000 in
set_option maxRecDepth 100000 in
theorem c_X5_feed (l : Launch) (dC : Nat → ClassId) (dI : Nat → Nat → Nat) (cI cF : ClassId) (a : Nat → Nat) (S : S_X5) (x1 : Int32) (u : Int32 × S_X5) (h : m_X5_feed S x1 = some (.inr u)) : cRW l (dC, dI) cI cF yX5_feed wsX5_feed ({ frames := 4, cells := 0, slots := 0, locals := 124 } : Room) [.ref (a 0), .int x1] (wX5 a cI cF S) (wX5 a cI cF u.2) (some (.int u.1)) := by
  intro sz
  refine Met.ofW (cc := cX5_feed) (maxL := 3) (ret := (some .int)) (by decide) rfl ?_
  intro p e s m args below meth c s₁ B hml hv
  obtain ⟨hargs, hsz, hP, hK, hD0⟩ := hv
  subst hargs
  have hx := B.exec
  have hb := B.bytes
  have hr := B.returns
  have hts := atoms_spec (ws := wsX5_feed) B.pre
  have hown : s.vm.findClass RX5 = some m.cls := findClass_of_methodNamed B.named
  have hlocks := B.notSynchronized
  have w10 := hts (.fieldLink RX5 10 "DrawnSlivers" "frame" "LDrawnSlivers$Frame;") (List.mem_of_getElem? (i := 4) rfl)
  have w112 := hts (.fieldLink RX5 112 "DrawnSlivers$Frame" "fed" "I") (List.mem_of_getElem? (i := 5) rfl)
  have w115 := hts (.fieldLink RX5 115 "DrawnSlivers$Frame" "feeler" "LDrawnSlivers$Feeler;") (List.mem_of_getElem? (i := 6) rfl)
  have w119 := hts (.methodLink RX5 119 yX1_forget) (List.mem_of_getElem? (i := 62) rfl)
  have w25 := hts (.fieldLink RX5 25 "DrawnSlivers" "history" "LDrawnSlivers$History;") (List.mem_of_getElem? (i := 3) rfl)
  have w79 := hts (.methodLink RX5 79 yX3_save) (List.mem_of_getElem? (i := 7) rfl)
  have huX2 : ∀ w ∈ u_ws RX2 TX2 12, w.before _ s = true := fun w h => hts w (List.mem_cons_of_mem _ (List.mem_append_left _ (List.mem_append_left _ (List.mem_append_left _ (List.mem_append_left _ (List.mem_append_right _ (h)))))))
  have huX5 : ∀ w ∈ u_ws RX5 TX5 6, w.before _ s = true := fun w h => hts w (List.mem_cons_of_mem _ (List.mem_append_left _ (List.mem_append_left _ (List.mem_append_left _ (List.mem_append_left _ (List.mem_append_left _ (List.mem_append_right _ (h))))))))
  subst hsz
  have hD := hD0.self (sz := s.heap.size)
  generalize hAe : va_A (wX5 a cI cF S) s.heap.size = A at hD ⊢
  have hA : ∀ q : Nat, s.heap.size ≤ q → A q := fun q h => by rw [← hAe]; exact Or.inr h
  have hS : va_S A s.heap s.heap [] := va_S.rf
  have hl := lv_entry ([.ref (a 0), .int x1]) (n := 3) (Nat.le_of_ble_eq_true rfl)
  rw [lg_entry_eq]
  generalize (lg_sl ([.ref (a 0), .int x1]) ++ List.replicate (3 - (lg_sl ([.ref (a 0), .int x1])).length) Slot.unset).toArray = ls at hl ⊢
  have hl : lv_has ls 3 [(0, .ref (a 0)), (1, .int x1)] := hl
  rw [m_X5_feed] at h
  refine lv_iload_n hx hb dX5_feed_0 rfl (lv_at hl 1 rfl) ?_
  refine lv_if_lt (tgt := 11) hx hb dX5_feed_1 (by decide) (fun c1 => ?_) (fun c1 => ?_)
  · have h := o_t h c1
    cases h
  have h := o_f h c1
  refine lv_iload_n hx hb dX5_feed_4 rfl (lv_at hl 1 rfl) ?_
  refine lv_sipush (v := (256 : Int32)) hx hb dX5_feed_5 (by decide) ?_
  refine lv_icmp_lt (tgt := 21) hx hb dX5_feed_8 (by decide) (fun c2 => ?_) (fun c2 => ?_)
  rotate_left
  · have h := o_f h c2
    cases h
  have h := o_t h c2
  refine lv_aload_n hx hb dX5_feed_21 rfl (lv_at hl 0 rfl) ?_
  refine va_get (D := (dC, dI)) (ci := 5) (v := .ref (a 26)) (C := RX5) (T := TX5) (N := 6) hx hb huX5 (fun _ h9 => h9) hown hK hP 0 rfl rfl 3 (by decide) w25 (fun _ h9 => h9) rfl dX5_feed_22 ?_
  refine lv_aload_n hx hb dX5_feed_25 rfl (lv_at hl 0 rfl) ?_
  refine va_get (D := (dC, dI)) (ci := 5) (v := .ref (a 1)) (C := RX5) (T := TX5) (N := 6) hx hb huX5 (fun _ h9 => h9) hown hK hP 0 rfl rfl 0 (by decide) w10 (fun _ h9 => h9) rfl dX5_feed_26 ?_
  obtain ⟨v3, g4, h⟩ := o_b h
  refine k_rwL (va_runV (As := [.ref (a 1)]) (rest := []) ⟨hx, hb, hml, hown, hts⟩ (c_X3_save l dC dI cI cF (fun i => a (i + 26)) (fun i => a (i + 1)) (g_X5_history S) (g_X5_frame S) v3 g4 s.heap.size) (cwV 1 hts gX5_feed_X3_save rfl rfl rfl (by decide +kernel) ⟨Nat.le_of_ble_eq_true rfl, Nat.le_of_ble_eq_true rfl⟩) (k_preLw (q0 := 0) (ci := 3) hK hP hD (LN_sw (LX5_frame_history a cI cF S (g_X5_frame S) v3)) rfl rfl rfl) rfl rfl hl.1 rfl (lv_room (Nat.le_of_ble_eq_true rfl)) dX5_feed_29 ⟨Nat.zero_le _, Nat.zero_le _⟩) (st1 := []) rfl hP hD hS hA (wn := wX5 a cI cF (s_X5_history S v3)) (LN_sw (LX5_frame_history a cI cF S (g_X5_frame S) v3)) (fun H locs hP hD hS => ?_)
  refine lv_aload_n hx hb dX5_feed_32 rfl (lv_at hl 0 rfl) ?_
  refine va_get (D := (dC, dI)) (ci := 5) (v := .ref (a 1)) (C := RX5) (T := TX5) (N := 6) hx hb huX5 (fun _ h9 => h9) hown hK hP 0 rfl rfl 0 (by decide) w10 (fun _ h9 => h9) rfl dX5_feed_33 ?_
  refine va_get (D := (dC, dI)) (ci := 2) (v := .int (g_X2_fed (g_X5_frame S))) (C := RX2) (T := TX2) (N := 12) hx hb huX2 (fun _ h9 => h9) hown hK hP 1 rfl rfl 3 (by decide) w112 (fun _ h9 => h9) rfl dX5_feed_36 ?_
  obtain ⟨x2_5, e6, h⟩ := o_n h
  refine lv_nmi e6 ?_
  refine lv_istore_n (lv' := [(2, .int x2_5), (0, .ref (a 0)), (1, .int x1)]) hx hb dX5_feed_39 rfl hl (by decide) rfl (fun ls hl => ?_)
  refine lv_iload_n hx hb dX5_feed_40 rfl (lv_at hl 2 rfl) ?_
  refine lv_iload_n hx hb dX5_feed_41 rfl (lv_at hl 0 rfl) ?_
  refine lv_icmp_eq (tgt := 55) hx hb dX5_feed_42 (by decide) (fun c7 => ?_) (fun c7 => ?_)
  · have h := o_t h c7
    refine lv_aload_n hx hb dX5_feed_55 rfl (lv_at hl 1 rfl) ?_
    refine va_get (D := (dC, dI)) (ci := 5) (v := .ref (a 1)) (C := RX5) (T := TX5) (N := 6) hx hb huX5 (fun _ h9 => h9) hown hK hP 0 rfl rfl 0 (by decide) w10 (fun _ h9 => h9) rfl dX5_feed_56 ?_
    refine lv_iload_n hx hb dX5_feed_59 rfl (lv_at hl 2 rfl) ?_
    refine va_put (D := (dC, dI)) (ci := 2) (v := .int x1) (ty := .int) (C := RX2) (T := TX2) (N := 12) hx hb huX2 (fun _ h9 => h9) tyX2 tyX2_ok nmX2 hown hK hP hD hS 1 rfl rfl 3 (by decide) w112 (fun _ h9 => h9) rfl (by decide +kernel) rfl rfl (Nat.le_of_ble_eq_true rfl) dX5_feed_60 (fun H locs hP2 hD2 hS => ?_)
    obtain ⟨hP, hD⟩ : va_P (dC, dI) vwCl (wX5 a cI cF (s_X5_history (s_X5_frame S (s_X2_fed (g_X5_frame S) x1)) v3)) H ∧ va_D A (wX5 a cI cF (s_X5_history (s_X5_frame S (s_X2_fed (g_X5_frame S) x1)) v3)) := LN.set (LX5_frame a cI cF (s_X5_history S v3) (s_X2_fed (g_X5_frame S) x1) (LX2_fed (fun i => a (i + 1)) cI cF (g_X5_frame S) x1)) (p := 1) rfl rfl hD hP2 hD2
    refine lv_iload_n hx hb dX5_feed_63 rfl (lv_at hl 0 rfl) ?_
    have hu := Sum.inr.inj (Option.some.inj h)
    exact W.iret (v := x2_5) hx hb hr (fun t ht hW => ⟨⟨congrArg (fun z => Outcome.returned (some (Value.int z.1))) hu, by rw [ht, ← hu]; exact hP⟩, hS.F ht⟩) hS.2.2 dX5_feed_64
  have h := o_f h c7
  refine lv_aload_n hx hb dX5_feed_45 rfl (lv_at hl 1 rfl) ?_
  refine va_get (D := (dC, dI)) (ci := 5) (v := .ref (a 1)) (C := RX5) (T := TX5) (N := 6) hx hb huX5 (fun _ h9 => h9) hown hK hP 0 rfl rfl 0 (by decide) w10 (fun _ h9 => h9) rfl dX5_feed_46 ?_
  refine va_get (D := (dC, dI)) (ci := 2) (v := .ref (a 5)) (C := RX2) (T := TX2) (N := 12) hx hb huX2 (fun _ h9 => h9) hown hK hP 1 rfl rfl 1 (by decide) w115 (fun _ h9 => h9) rfl dX5_feed_49 ?_
  obtain ⟨v8, g9, h⟩ := o_b h
  refine k_rwL (va_runV (As := []) (rest := []) ⟨hx, hb, hml, hown, hts⟩ (c_X1_forget l dC dI cI cF (fun i => a (i + 5)) (g_X2_feeler (g_X5_frame S)) v8 g9 H.size) (cwV 0 hts gX5_feed_X1_forget rfl rfl rfl (by decide +kernel) ⟨Nat.le_of_ble_eq_true rfl, Nat.le_of_ble_eq_true rfl⟩) (k_preLw (q0 := 0) (ci := 1) hK hP hD (LX5_frame a cI cF (s_X5_history S v3) (s_X2_feeler (g_X5_frame S) v8) (LX2_feeler (fun i => a (i + 1)) cI cF (g_X5_frame S) v8 (LN_id (fX1 (fun i => a (i + 5)) cI cF (g_X2_feeler (g_X5_frame S)) v8)))) rfl rfl rfl) rfl rfl hl.1 rfl (lv_room (Nat.le_of_ble_eq_true rfl)) dX5_feed_52 ⟨Nat.zero_le _, Nat.zero_le _⟩) (st1 := []) rfl hP hD hS hA (wn := wX5 a cI cF (s_X5_history (s_X5_frame S (s_X2_feeler (g_X5_frame S) v8)) v3)) (LX5_frame a cI cF (s_X5_history S v3) (s_X2_feeler (g_X5_frame S) v8) (LX2_feeler (fun i => a (i + 1)) cI cF (g_X5_frame S) v8 (LN_id (fX1 (fun i => a (i + 5)) cI cF (g_X2_feeler (g_X5_frame S)) v8)))) (fun H locs hP hD hS => ?_)
  refine lv_aload_n hx hb dX5_feed_55 rfl (lv_at hl 1 rfl) ?_
  refine va_get (D := (dC, dI)) (ci := 5) (v := .ref (a 1)) (C := RX5) (T := TX5) (N := 6) hx hb huX5 (fun _ h9 => h9) hown hK hP 0 rfl rfl 0 (by decide) w10 (fun _ h9 => h9) rfl dX5_feed_56 ?_
  refine lv_iload_n hx hb dX5_feed_59 rfl (lv_at hl 2 rfl) ?_
  refine va_put (D := (dC, dI)) (ci := 2) (v := .int x1) (ty := .int) (C := RX2) (T := TX2) (N := 12) hx hb huX2 (fun _ h9 => h9) tyX2 tyX2_ok nmX2 hown hK hP hD hS 1 rfl rfl 3 (by decide) w112 (fun _ h9 => h9) rfl (by decide +kernel) rfl rfl (Nat.le_of_ble_eq_true rfl) dX5_feed_60 (fun H locs hP2 hD2 hS => ?_)
  obtain ⟨hP, hD⟩ : va_P (dC, dI) vwCl (wX5 a cI cF (s_X5_history (s_X5_frame S (s_X2_fed (s_X2_feeler (g_X5_frame S) v8) x1)) v3)) H ∧ va_D A (wX5 a cI cF (s_X5_history (s_X5_frame S (s_X2_fed (s_X2_feeler (g_X5_frame S) v8) x1)) v3)) := LN.set (LX5_frame a cI cF (s_X5_history (s_X5_frame S (s_X2_feeler (g_X5_frame S) v8)) v3) (s_X2_fed (s_X2_feeler (g_X5_frame S) v8) x1) (LX2_fed (fun i => a (i + 1)) cI cF (s_X2_feeler (g_X5_frame S) v8) x1)) (p := 1) rfl rfl hD hP2 hD2
  refine lv_iload_n hx hb dX5_feed_63 rfl (lv_at hl 0 rfl) ?_
  have hu := Sum.inr.inj (Option.some.inj h)
  exact W.iret (v := x2_5) hx hb hr (fun t ht hW => ⟨⟨congrArg (fun z => Outcome.returned (some (Value.int z.1))) hu, by rw [ht, ← hu]; exact hP⟩, hS.F ht⟩) hS.2.2 dX5_feed_64

set_option maxHeartbeats 4000000 in
set_option maxRecDepth 100000 in
theorem c_X5_feed_x (l : Launch) (hfl : l.stackTraces = false) (dC : Nat → ClassId) (dI : Nat → Nat → Nat) (cI cF : ClassId) (a : Nat → Nat) (S : S_X5) (x1 : Int32) (u : Nat × S_X5) (h : m_X5_feed S x1 = some (.inl u)) : ∀ sz : Nat, vx_Met l yX5_feed wsX5_feed ({ frames := 6, cells := 1, slots := 6, locals := 124 } : Room) (va_Pc [.ref (a 0), .int x1] (pRWe (dC, dI) cI cF (wX5 a cI cF S) sz)) (fun _ _ _ _ => False) (qX (dC, dI) (wX5 a cI cF u.2) (xnm u.1) (va_A (wX5 a cI cF S) sz)) 1 6 (va_A (wX5 a cI cF S) sz) := by
  intro sz
  refine vx_ofW (cc := cX5_feed) (maxL := 3) (ret := (some .int)) (by decide) rfl ?_
  intro p e s m args below meth c s₁ B hml hnx hv
  obtain ⟨hargs, ⟨hsz, hP, hK, hD0⟩, hE⟩ := hv
  subst hargs
  have hx := B.exec
  have hb := B.bytes
  have hr := B.returns
  have hts := atoms_spec (ws := wsX5_feed) B.pre
  have hown : s.vm.findClass RX5 = some m.cls := findClass_of_methodNamed B.named
  have hlocks := B.notSynchronized
  have w10 := hts (.fieldLink RX5 10 "DrawnSlivers" "frame" "LDrawnSlivers$Frame;") (List.mem_of_getElem? (i := 4) rfl)
  have w112 := hts (.fieldLink RX5 112 "DrawnSlivers$Frame" "fed" "I") (List.mem_of_getElem? (i := 5) rfl)
  have w115 := hts (.fieldLink RX5 115 "DrawnSlivers$Frame" "feeler" "LDrawnSlivers$Feeler;") (List.mem_of_getElem? (i := 6) rfl)
  have w119 := hts (.methodLink RX5 119 yX1_forget) (List.mem_of_getElem? (i := 62) rfl)
  have w25 := hts (.fieldLink RX5 25 "DrawnSlivers" "history" "LDrawnSlivers$History;") (List.mem_of_getElem? (i := 3) rfl)
  have w55 := hts (.classLink RX5 55 "java/lang/IllegalArgumentException") (List.mem_of_getElem? (i := 1) rfl)
  have w79 := hts (.methodLink RX5 79 yX3_save) (List.mem_of_getElem? (i := 7) rfl)
  have wix2 := hts (.initialized "java/lang/IllegalArgumentException") (List.mem_of_getElem? (i := 2) rfl)
  have huX2 : ∀ w ∈ u_ws RX2 TX2 12, w.before _ s = true := fun w h => hts w (List.mem_cons_of_mem _ (List.mem_append_left _ (List.mem_append_left _ (List.mem_append_left _ (List.mem_append_left _ (List.mem_append_right _ (h)))))))
  have huX5 : ∀ w ∈ u_ws RX5 TX5 6, w.before _ s = true := fun w h => hts w (List.mem_cons_of_mem _ (List.mem_append_left _ (List.mem_append_left _ (List.mem_append_left _ (List.mem_append_left _ (List.mem_append_left _ (List.mem_append_right _ (h))))))))
  subst hsz
  have hD := hD0.self (sz := s.heap.size)
  generalize hAe : va_A (wX5 a cI cF S) s.heap.size = A at hD hE ⊢
  have hA : ∀ q : Nat, s.heap.size ≤ q → A q := fun q h => by rw [← hAe]; exact Or.inr h
  have hS : va_S A s.heap s.heap [] := va_S.rf
  have hl := lv_entry ([.ref (a 0), .int x1]) (n := 3) (Nat.le_of_ble_eq_true rfl)
  rw [lg_entry_eq]
  generalize (lg_sl ([.ref (a 0), .int x1]) ++ List.replicate (3 - (lg_sl ([.ref (a 0), .int x1])).length) Slot.unset).toArray = ls at hl ⊢
  have hl : lv_has ls 3 [(0, .ref (a 0)), (1, .int x1)] := hl
  rw [m_X5_feed] at h
  refine lv_iload_n hx hb dX5_feed_0 rfl (lv_at hl 1 rfl) ?_
  refine lv_if_lt (tgt := 11) hx hb dX5_feed_1 (by decide) (fun c1 => ?_) (fun c1 => ?_)
  · have h := o_t h c1
    have hu := Sum.inl.inj (Option.some.inj h)
    obtain ⟨sa, hsa⟩ := hE.2.1 (110, "no mask of cans") (by decide)
    exact vx_throwS (own := RX5) (cls := "java/lang/IllegalArgumentException") (text := "no mask of cans") (names := ["java/lang/RuntimeException", "java/lang/Exception"]) (ik := 55) (is := 110) (ic := 59) (sa := sa) (A := A) hx hb hfl hown (by decide +kernel) (by decide +kernel) w55 wix2 hsa (vx_hat (fun w h => hts w (List.mem_cons_of_mem _ (List.mem_append_right _ (h)))) (B := xW) (by decide +kernel) (fun w h => va_Nw.use (xW_ot w h) (hE.2.2.1 w h))) (by decide +kernel) hE.1.1 hE.1.2 hS (by rw [hml]; exact hl.1) dX5_feed_11 dX5_feed_14 dX5_feed_15 dX5_feed_17 dX5_feed_20 (fun z hz => (hnx z hz).elim) (Nat.le_of_ble_eq_true rfl) (Nat.le_of_ble_eq_true rfl) (Nat.le_of_ble_eq_true rfl) (Nat.le_of_ble_eq_true rfl) hlocks (fun t hv hz hq => ⟨⟨by rw [← hu]; rfl, by rw [← hu]; exact k_Pkeep hP hq⟩, k_Fkeep hS hz hq⟩) hS.2.2 (Nat.le_refl _) (Nat.le_refl _)
  have h := o_f h c1
  refine lv_iload_n hx hb dX5_feed_4 rfl (lv_at hl 1 rfl) ?_
  refine lv_sipush (v := (256 : Int32)) hx hb dX5_feed_5 (by decide) ?_
  refine lv_icmp_lt (tgt := 21) hx hb dX5_feed_8 (by decide) (fun c2 => ?_) (fun c2 => ?_)
  rotate_left
  · have h := o_f h c2
    have hu := Sum.inl.inj (Option.some.inj h)
    obtain ⟨sa, hsa⟩ := hE.2.1 (110, "no mask of cans") (by decide)
    exact vx_throwS (own := RX5) (cls := "java/lang/IllegalArgumentException") (text := "no mask of cans") (names := ["java/lang/RuntimeException", "java/lang/Exception"]) (ik := 55) (is := 110) (ic := 59) (sa := sa) (A := A) hx hb hfl hown (by decide +kernel) (by decide +kernel) w55 wix2 hsa (vx_hat (fun w h => hts w (List.mem_cons_of_mem _ (List.mem_append_right _ (h)))) (B := xW) (by decide +kernel) (fun w h => va_Nw.use (xW_ot w h) (hE.2.2.1 w h))) (by decide +kernel) hE.1.1 hE.1.2 hS (by rw [hml]; exact hl.1) dX5_feed_11 dX5_feed_14 dX5_feed_15 dX5_feed_17 dX5_feed_20 (fun z hz => (hnx z hz).elim) (Nat.le_of_ble_eq_true rfl) (Nat.le_of_ble_eq_true rfl) (Nat.le_of_ble_eq_true rfl) (Nat.le_of_ble_eq_true rfl) hlocks (fun t hv hz hq => ⟨⟨by rw [← hu]; rfl, by rw [← hu]; exact k_Pkeep hP hq⟩, k_Fkeep hS hz hq⟩) hS.2.2 (Nat.le_refl _) (Nat.le_refl _)
  have h := o_t h c2
  refine lv_aload_n hx hb dX5_feed_21 rfl (lv_at hl 0 rfl) ?_
  refine va_get (D := (dC, dI)) (ci := 5) (v := .ref (a 26)) (C := RX5) (T := TX5) (N := 6) hx hb huX5 (fun _ h9 => h9) hown hK hP 0 rfl rfl 3 (by decide) w25 (fun _ h9 => h9) rfl dX5_feed_22 ?_
  refine lv_aload_n hx hb dX5_feed_25 rfl (lv_at hl 0 rfl) ?_
  refine va_get (D := (dC, dI)) (ci := 5) (v := .ref (a 1)) (C := RX5) (T := TX5) (N := 6) hx hb huX5 (fun _ h9 => h9) hown hK hP 0 rfl rfl 0 (by decide) w10 (fun _ h9 => h9) rfl dX5_feed_26 ?_
  obtain ⟨v3, g4, h⟩ := o_b h
  refine k_rwL (va_runV (As := [.ref (a 1)]) (rest := []) ⟨hx, hb, hml, hown, hts⟩ (c_X3_save l dC dI cI cF (fun i => a (i + 26)) (fun i => a (i + 1)) (g_X5_history S) (g_X5_frame S) v3 g4 s.heap.size) (cwV 1 hts gX5_feed_X3_save rfl rfl rfl (by decide +kernel) ⟨Nat.le_of_ble_eq_true rfl, Nat.le_of_ble_eq_true rfl⟩) (k_preLw (q0 := 0) (ci := 3) hK hP hD (LN_sw (LX5_frame_history a cI cF S (g_X5_frame S) v3)) rfl rfl rfl) rfl rfl hl.1 rfl (lv_room (Nat.le_of_ble_eq_true rfl)) dX5_feed_29 ⟨Nat.zero_le _, Nat.zero_le _⟩) (st1 := []) rfl hP hD hS hA (wn := wX5 a cI cF (s_X5_history S v3)) (LN_sw (LX5_frame_history a cI cF S (g_X5_frame S) v3)) (fun H locs hP hD hS => ?_)
  refine lv_aload_n hx hb dX5_feed_32 rfl (lv_at hl 0 rfl) ?_
  refine va_get (D := (dC, dI)) (ci := 5) (v := .ref (a 1)) (C := RX5) (T := TX5) (N := 6) hx hb huX5 (fun _ h9 => h9) hown hK hP 0 rfl rfl 0 (by decide) w10 (fun _ h9 => h9) rfl dX5_feed_33 ?_
  refine va_get (D := (dC, dI)) (ci := 2) (v := .int (g_X2_fed (g_X5_frame S))) (C := RX2) (T := TX2) (N := 12) hx hb huX2 (fun _ h9 => h9) hown hK hP 1 rfl rfl 3 (by decide) w112 (fun _ h9 => h9) rfl dX5_feed_36 ?_
  obtain ⟨x2_5, e6, h⟩ := o_n h
  refine lv_nmi e6 ?_
  refine lv_istore_n (lv' := [(2, .int x2_5), (0, .ref (a 0)), (1, .int x1)]) hx hb dX5_feed_39 rfl hl (by decide) rfl (fun ls hl => ?_)
  refine lv_iload_n hx hb dX5_feed_40 rfl (lv_at hl 2 rfl) ?_
  refine lv_iload_n hx hb dX5_feed_41 rfl (lv_at hl 0 rfl) ?_
  refine lv_icmp_eq (tgt := 55) hx hb dX5_feed_42 (by decide) (fun c7 => ?_) (fun c7 => ?_)
  · have h := o_t h c7
    refine lv_aload_n hx hb dX5_feed_55 rfl (lv_at hl 1 rfl) ?_
    refine va_get (D := (dC, dI)) (ci := 5) (v := .ref (a 1)) (C := RX5) (T := TX5) (N := 6) hx hb huX5 (fun _ h9 => h9) hown hK hP 0 rfl rfl 0 (by decide) w10 (fun _ h9 => h9) rfl dX5_feed_56 ?_
    refine lv_iload_n hx hb dX5_feed_59 rfl (lv_at hl 2 rfl) ?_
    refine va_put (D := (dC, dI)) (ci := 2) (v := .int x1) (ty := .int) (C := RX2) (T := TX2) (N := 12) hx hb huX2 (fun _ h9 => h9) tyX2 tyX2_ok nmX2 hown hK hP hD hS 1 rfl rfl 3 (by decide) w112 (fun _ h9 => h9) rfl (by decide +kernel) rfl rfl (Nat.le_of_ble_eq_true rfl) dX5_feed_60 (fun H locs hP2 hD2 hS => ?_)
    obtain ⟨hP, hD⟩ : va_P (dC, dI) vwCl (wX5 a cI cF (s_X5_history (s_X5_frame S (s_X2_fed (g_X5_frame S) x1)) v3)) H ∧ va_D A (wX5 a cI cF (s_X5_history (s_X5_frame S (s_X2_fed (g_X5_frame S) x1)) v3)) := LN.set (LX5_frame a cI cF (s_X5_history S v3) (s_X2_fed (g_X5_frame S) x1) (LX2_fed (fun i => a (i + 1)) cI cF (g_X5_frame S) x1)) (p := 1) rfl rfl hD hP2 hD2
    refine lv_iload_n hx hb dX5_feed_63 rfl (lv_at hl 0 rfl) ?_
    cases h
  have h := o_f h c7
  refine lv_aload_n hx hb dX5_feed_45 rfl (lv_at hl 1 rfl) ?_
  refine va_get (D := (dC, dI)) (ci := 5) (v := .ref (a 1)) (C := RX5) (T := TX5) (N := 6) hx hb huX5 (fun _ h9 => h9) hown hK hP 0 rfl rfl 0 (by decide) w10 (fun _ h9 => h9) rfl dX5_feed_46 ?_
  refine va_get (D := (dC, dI)) (ci := 2) (v := .ref (a 5)) (C := RX2) (T := TX2) (N := 12) hx hb huX2 (fun _ h9 => h9) hown hK hP 1 rfl rfl 1 (by decide) w115 (fun _ h9 => h9) rfl dX5_feed_49 ?_
  obtain ⟨v8, g9, h⟩ := o_b h
  refine k_rwL (va_runV (As := []) (rest := []) ⟨hx, hb, hml, hown, hts⟩ (c_X1_forget l dC dI cI cF (fun i => a (i + 5)) (g_X2_feeler (g_X5_frame S)) v8 g9 H.size) (cwV 0 hts gX5_feed_X1_forget rfl rfl rfl (by decide +kernel) ⟨Nat.le_of_ble_eq_true rfl, Nat.le_of_ble_eq_true rfl⟩) (k_preLw (q0 := 0) (ci := 1) hK hP hD (LX5_frame a cI cF (s_X5_history S v3) (s_X2_feeler (g_X5_frame S) v8) (LX2_feeler (fun i => a (i + 1)) cI cF (g_X5_frame S) v8 (LN_id (fX1 (fun i => a (i + 5)) cI cF (g_X2_feeler (g_X5_frame S)) v8)))) rfl rfl rfl) rfl rfl hl.1 rfl (lv_room (Nat.le_of_ble_eq_true rfl)) dX5_feed_52 ⟨Nat.zero_le _, Nat.zero_le _⟩) (st1 := []) rfl hP hD hS hA (wn := wX5 a cI cF (s_X5_history (s_X5_frame S (s_X2_feeler (g_X5_frame S) v8)) v3)) (LX5_frame a cI cF (s_X5_history S v3) (s_X2_feeler (g_X5_frame S) v8) (LX2_feeler (fun i => a (i + 1)) cI cF (g_X5_frame S) v8 (LN_id (fX1 (fun i => a (i + 5)) cI cF (g_X2_feeler (g_X5_frame S)) v8)))) (fun H locs hP hD hS => ?_)
  refine lv_aload_n hx hb dX5_feed_55 rfl (lv_at hl 1 rfl) ?_
  refine va_get (D := (dC, dI)) (ci := 5) (v := .ref (a 1)) (C := RX5) (T := TX5) (N := 6) hx hb huX5 (fun _ h9 => h9) hown hK hP 0 rfl rfl 0 (by decide) w10 (fun _ h9 => h9) rfl dX5_feed_56 ?_
  refine lv_iload_n hx hb dX5_feed_59 rfl (lv_at hl 2 rfl) ?_
  refine va_put (D := (dC, dI)) (ci := 2) (v := .int x1) (ty := .int) (C := RX2) (T := TX2) (N := 12) hx hb huX2 (fun _ h9 => h9) tyX2 tyX2_ok nmX2 hown hK hP hD hS 1 rfl rfl 3 (by decide) w112 (fun _ h9 => h9) rfl (by decide +kernel) rfl rfl (Nat.le_of_ble_eq_true rfl) dX5_feed_60 (fun H locs hP2 hD2 hS => ?_)
  obtain ⟨hP, hD⟩ : va_P (dC, dI) vwCl (wX5 a cI cF (s_X5_history (s_X5_frame S (s_X2_fed (s_X2_feeler (g_X5_frame S) v8) x1)) v3)) H ∧ va_D A (wX5 a cI cF (s_X5_history (s_X5_frame S (s_X2_fed (s_X2_feeler (g_X5_frame S) v8) x1)) v3)) := LN.set (LX5_frame a cI cF (s_X5_history (s_X5_frame S (s_X2_feeler (g_X5_frame S) v8)) v3) (s_X2_fed (s_X2_feeler (g_X5_frame S) v8) x1) (LX2_fed (fun i => a (i + 1)) cI cF (s_X2_feeler (g_X5_frame S) v8) x1)) (p := 1) rfl rfl hD hP2 hD2
  refine lv_iload_n hx hb dX5_feed_63 rfl (lv_at hl 0 rfl) ?_
  cases h

def m_X5_clear_L26 (t0 : Int32) (S : S_X5) : Option (Int32 × S_X5) := (m_X1_forget (g_X2_feeler (g_X5_frame S))).bind fun v4 => (some (t0, s_X5_frame S (s_X2_stopped (s_X2_feeler (g_X5_frame S) v4) (0 : Int32))))
def m_X5_clear (S : S_X5) : Option (Int32 × S_X5) := (m_X3_save (g_X5_history S) (g_X5_frame S)).bind fun v1 => (if (g_X2_stopped (g_X5_frame S)) = 0 then (m_X5_clear_L26 (0 : Int32) (s_X5_history S v1)) else (m_X5_clear_L26 (1 : Int32) (s_X5_history S v1)))
set_option maxHeartbeats 4000000 in
set_option maxRecDepth 100000 in
theorem c_X5_clear (l : Launch) (dC : Nat → ClassId) (dI : Nat → Nat → Nat) (cI cF : ClassId) (a : Nat → Nat) (S : S_X5) (u : Int32 × S_X5) (h : m_X5_clear S = some u) : cRW l (dC, dI) cI cF yX5_clear wsX5_clear ({ frames := 4, cells := 0, slots := 0, locals := 124 } : Room) [.ref (a 0)] (wX5 a cI cF S) (wX5 a cI cF u.2) (some (.int u.1)) := by
  intro sz
  refine Met.ofW (cc := cX5_clear) (maxL := 2) (ret := (some .int)) (by decide) rfl ?_
  intro p e s m args below meth c s₁ B hml hv
  obtain ⟨hargs, hsz, hP, hK, hD0⟩ := hv
  subst hargs
  have hx := B.exec
  have hb := B.bytes
  have hr := B.returns
  have hts := atoms_spec (ws := wsX5_clear) B.pre
  have hown : s.vm.findClass RX5 = some m.cls := findClass_of_methodNamed B.named
  have hlocks := B.notSynchronized
  have w10 := hts (.fieldLink RX5 10 "DrawnSlivers" "frame" "LDrawnSlivers$Frame;") (List.mem_of_getElem? (i := 2) rfl)
  have w115 := hts (.fieldLink RX5 115 "DrawnSlivers$Frame" "feeler" "LDrawnSlivers$Feeler;") (List.mem_of_getElem? (i := 4) rfl)
  have w119 := hts (.methodLink RX5 119 yX1_forget) (List.mem_of_getElem? (i := 60) rfl)
  have w135 := hts (.fieldLink RX5 135 "DrawnSlivers$Frame" "stopped" "Z") (List.mem_of_getElem? (i := 3) rfl)
  have w25 := hts (.fieldLink RX5 25 "DrawnSlivers" "history" "LDrawnSlivers$History;") (List.mem_of_getElem? (i := 1) rfl)
  have w79 := hts (.methodLink RX5 79 yX3_save) (List.mem_of_getElem? (i := 5) rfl)
  have huX2 : ∀ w ∈ u_ws RX2 TX2 12, w.before _ s = true := fun w h => hts w (List.mem_cons_of_mem _ (List.mem_append_left _ (List.mem_append_left _ (List.mem_append_left _ (List.mem_append_right _ (h))))))
  have huX5 : ∀ w ∈ u_ws RX5 TX5 6, w.before _ s = true := fun w h => hts w (List.mem_cons_of_mem _ (List.mem_append_left _ (List.mem_append_left _ (List.mem_append_left _ (List.mem_append_left _ (List.mem_append_right _ (h)))))))
  subst hsz
  have hD := hD0.self (sz := s.heap.size)
  generalize hAe : va_A (wX5 a cI cF S) s.heap.size = A at hD ⊢
  have hA : ∀ q : Nat, s.heap.size ≤ q → A q := fun q h => by rw [← hAe]; exact Or.inr h
  have hS : va_S A s.heap s.heap [] := va_S.rf
  have L26 : ∀ (t0 : Int32) (S : S_X5), m_X5_clear_L26 t0 S = some u → ∀ (H : Heap) (locs : List Loc), va_P (dC, dI) vwCl (wX5 a cI cF S) H → va_D A (wX5 a cI cF S) → va_S A s.heap H locs → ∀ (ls : Array Slot), lv_has ls 2 [(0, .ref (a 0))] → W p l e (headSpec wsX5_clear ({ frames := 4, cells := 0, slots := 0, locals := 124 } : Room)).room s m ([.ref (a 0)] : List Value).toArray below meth c H locs 0 0 (MQ below (qRW (dC, dI) (wX5 a cI cF u.2) (some (.int u.1)) A) ([.ref (a 0)] : List Value).toArray s 0 0 A) (F0 m 26 ls [.int t0]) := by
    intro  t0 S h H locs hP hD hS ls hl
    rw [m_X5_clear_L26] at h
    refine lv_istore_n (lv' := [(1, .int t0), (0, .ref (a 0))]) hx hb dX5_clear_26 rfl hl (by decide) rfl (fun ls hl => ?_)
    refine lv_aload_n hx hb dX5_clear_27 rfl (lv_at hl 1 rfl) ?_
    refine va_get (D := (dC, dI)) (ci := 5) (v := .ref (a 1)) (C := RX5) (T := TX5) (N := 6) hx hb huX5 (fun _ h9 => h9) hown hK hP 0 rfl rfl 0 (by decide) w10 (fun _ h9 => h9) rfl dX5_clear_28 ?_
    refine lv_iconst (v := (0 : Int32)) hx hb dX5_clear_31 (by decide) ?_
    refine va_put (D := (dC, dI)) (ci := 2) (v := .int (0 : Int32)) (ty := .boolean) (C := RX2) (T := TX2) (N := 12) hx hb huX2 (fun _ h9 => h9) tyX2 tyX2_ok nmX2 hown hK hP hD hS 1 rfl rfl 5 (by decide) w135 (fun _ h9 => h9) rfl (by decide +kernel) rfl rfl (Nat.le_of_ble_eq_true rfl) dX5_clear_32 (fun H locs hP2 hD2 hS => ?_)
    obtain ⟨hP, hD⟩ : va_P (dC, dI) vwCl (wX5 a cI cF (s_X5_frame S (s_X2_stopped (g_X5_frame S) (0 : Int32)))) H ∧ va_D A (wX5 a cI cF (s_X5_frame S (s_X2_stopped (g_X5_frame S) (0 : Int32)))) := LN.set (LX5_frame a cI cF S (s_X2_stopped (g_X5_frame S) (0 : Int32)) (LX2_stopped (fun i => a (i + 1)) cI cF (g_X5_frame S) (0 : Int32))) (p := 1) rfl rfl hD hP2 hD2
    refine lv_aload_n hx hb dX5_clear_35 rfl (lv_at hl 1 rfl) ?_
    refine va_get (D := (dC, dI)) (ci := 5) (v := .ref (a 1)) (C := RX5) (T := TX5) (N := 6) hx hb huX5 (fun _ h9 => h9) hown hK hP 0 rfl rfl 0 (by decide) w10 (fun _ h9 => h9) rfl dX5_clear_36 ?_
    refine va_get (D := (dC, dI)) (ci := 2) (v := .ref (a 5)) (C := RX2) (T := TX2) (N := 12) hx hb huX2 (fun _ h9 => h9) hown hK hP 1 rfl rfl 1 (by decide) w115 (fun _ h9 => h9) rfl dX5_clear_39 ?_
    obtain ⟨v4, g5, h⟩ := o_b h
    refine k_rwL (va_runV (As := []) (rest := []) ⟨hx, hb, hml, hown, hts⟩ (c_X1_forget l dC dI cI cF (fun i => a (i + 5)) (g_X2_feeler (g_X5_frame S)) v4 g5 H.size) (cwV 0 hts gX5_clear_X1_forget rfl rfl rfl (by decide +kernel) ⟨Nat.le_of_ble_eq_true rfl, Nat.le_of_ble_eq_true rfl⟩) (k_preLw (q0 := 0) (ci := 1) hK hP hD (LX5_frame a cI cF (s_X5_frame S (s_X2_stopped (g_X5_frame S) (0 : Int32))) (s_X2_feeler (s_X2_stopped (g_X5_frame S) (0 : Int32)) v4) (LX2_feeler (fun i => a (i + 1)) cI cF (s_X2_stopped (g_X5_frame S) (0 : Int32)) v4 (LN_id (fX1 (fun i => a (i + 5)) cI cF (g_X2_feeler (g_X5_frame S)) v4)))) rfl rfl rfl) rfl rfl hl.1 rfl (lv_room (Nat.le_of_ble_eq_true rfl)) dX5_clear_42 ⟨Nat.zero_le _, Nat.zero_le _⟩) (st1 := []) rfl hP hD hS hA (wn := wX5 a cI cF (s_X5_frame S (s_X2_stopped (s_X2_feeler (g_X5_frame S) v4) (0 : Int32)))) (LX5_frame a cI cF (s_X5_frame S (s_X2_stopped (g_X5_frame S) (0 : Int32))) (s_X2_feeler (s_X2_stopped (g_X5_frame S) (0 : Int32)) v4) (LX2_feeler (fun i => a (i + 1)) cI cF (s_X2_stopped (g_X5_frame S) (0 : Int32)) v4 (LN_id (fX1 (fun i => a (i + 5)) cI cF (g_X2_feeler (g_X5_frame S)) v4)))) (fun H locs hP hD hS => ?_)
    refine lv_iload_n hx hb dX5_clear_45 rfl (lv_at hl 0 rfl) ?_
    have hu := Option.some.inj h
    exact W.iret (v := t0) hx hb hr (fun t ht hW => ⟨⟨congrArg (fun z => Outcome.returned (some (Value.int z.1))) hu, by rw [ht, ← hu]; exact hP⟩, hS.F ht⟩) hS.2.2 dX5_clear_46
  have hl := lv_entry ([.ref (a 0)]) (n := 2) (Nat.le_of_ble_eq_true rfl)
  rw [lg_entry_eq]
  generalize (lg_sl ([.ref (a 0)]) ++ List.replicate (2 - (lg_sl ([.ref (a 0)])).length) Slot.unset).toArray = ls at hl ⊢
  have hl : lv_has ls 2 [(0, .ref (a 0))] := hl
  rw [m_X5_clear] at h
  refine lv_aload_n hx hb dX5_clear_0 rfl (lv_at hl 0 rfl) ?_
  refine va_get (D := (dC, dI)) (ci := 5) (v := .ref (a 26)) (C := RX5) (T := TX5) (N := 6) hx hb huX5 (fun _ h9 => h9) hown hK hP 0 rfl rfl 3 (by decide) w25 (fun _ h9 => h9) rfl dX5_clear_1 ?_
  refine lv_aload_n hx hb dX5_clear_4 rfl (lv_at hl 0 rfl) ?_
  refine va_get (D := (dC, dI)) (ci := 5) (v := .ref (a 1)) (C := RX5) (T := TX5) (N := 6) hx hb huX5 (fun _ h9 => h9) hown hK hP 0 rfl rfl 0 (by decide) w10 (fun _ h9 => h9) rfl dX5_clear_5 ?_
  obtain ⟨v1, g2, h⟩ := o_b h
  refine k_rwL (va_runV (As := [.ref (a 1)]) (rest := []) ⟨hx, hb, hml, hown, hts⟩ (c_X3_save l dC dI cI cF (fun i => a (i + 26)) (fun i => a (i + 1)) (g_X5_history S) (g_X5_frame S) v1 g2 s.heap.size) (cwV 1 hts gX5_clear_X3_save rfl rfl rfl (by decide +kernel) ⟨Nat.le_of_ble_eq_true rfl, Nat.le_of_ble_eq_true rfl⟩) (k_preLw (q0 := 0) (ci := 3) hK hP hD (LN_sw (LX5_frame_history a cI cF S (g_X5_frame S) v1)) rfl rfl rfl) rfl rfl hl.1 rfl (lv_room (Nat.le_of_ble_eq_true rfl)) dX5_clear_8 ⟨Nat.zero_le _, Nat.zero_le _⟩) (st1 := []) rfl hP hD hS hA (wn := wX5 a cI cF (s_X5_history S v1)) (LN_sw (LX5_frame_history a cI cF S (g_X5_frame S) v1)) (fun H locs hP hD hS => ?_)
  refine lv_aload_n hx hb dX5_clear_11 rfl (lv_at hl 0 rfl) ?_
  refine va_get (D := (dC, dI)) (ci := 5) (v := .ref (a 1)) (C := RX5) (T := TX5) (N := 6) hx hb huX5 (fun _ h9 => h9) hown hK hP 0 rfl rfl 0 (by decide) w10 (fun _ h9 => h9) rfl dX5_clear_12 ?_
  refine va_get (D := (dC, dI)) (ci := 2) (v := .int (g_X2_stopped (g_X5_frame S))) (C := RX2) (T := TX2) (N := 12) hx hb huX2 (fun _ h9 => h9) hown hK hP 1 rfl rfl 5 (by decide) w135 (fun _ h9 => h9) rfl dX5_clear_15 ?_
  refine lv_if_eq (tgt := 25) hx hb dX5_clear_18 (by decide) (fun c3 => ?_) (fun c3 => ?_)
  · have h := o_t h c3
    refine lv_iconst (v := (0 : Int32)) hx hb dX5_clear_25 (by decide) ?_
    exact L26 _ _ h _ _ hP hD hS _ (lv_sub hl [0] rfl)
  have h := o_f h c3
  refine lv_iconst (v := (1 : Int32)) hx hb dX5_clear_21 (by decide) ?_
  refine lv_goto (tgt := 26) hx hb dX5_clear_22 (by decide) ?_
  exact L26 _ _ h _ _ hP hD hS _ (lv_sub hl [0] rfl)

def m_X5_append (S : S_X5) (x1 : Int32) : Option ((Nat × S_X5) ⊕ (Int32 × S_X5)) := if x1 < (33 : Int32) then (some (.inl (2, S))) else (if x1 ≤ (126 : Int32) then ((m_X4_isFull (g_X5_text S)).bind fun v3 => (if v3 = 0 then ((m_X4_add (g_X5_text S) x1).bind fun v6 => ((m_X4_length v6).bind fun v8 => (some (.inr (v8, s_X5_text S v6))))) else (some (.inl (3, S))))) else (some (.inl (2, S))))
set_option maxHeartbeats 4000000 in
set_option maxRecDepth 100000 in
theorem c_X5_append (l : Launch) (dC : Nat → ClassId) (dI : Nat → Nat → Nat) (cI cF : ClassId) (a : Nat → Nat) (S : S_X5) (x1 : Int32) (u : Int32 × S_X5) (h : m_X5_append S x1 = some (.inr u)) : cRW l (dC, dI) cI cF yX5_append wsX5_append ({ frames := 1, cells := 0, slots := 0, locals := 21 } : Room) [.ref (a 0), .int x1] (wX5 a cI cF S) (wX5 a cI cF u.2) (some (.int u.1)) := by
  intro sz
  refine Met.ofW (cc := cX5_append) (maxL := 2) (ret := (some .int)) (by decide) rfl ?_
  intro p e s m args below meth c s₁ B hml hv
  obtain ⟨hargs, hsz, hP, hK, hD0⟩ := hv
  subst hargs
  have hx := B.exec
  have hb := B.bytes
  have hr := B.returns
  have hts := atoms_spec (ws := wsX5_append) B.pre
  have hown : s.vm.findClass RX5 = some m.cls := findClass_of_methodNamed B.named
  have hlocks := B.notSynchronized
  have w158 := hts (.methodLink RX5 158 yX4_isFull) (List.mem_of_getElem? (i := 6) rfl)
  have w163 := hts (.methodLink RX5 163 yX4_add) (List.mem_of_getElem? (i := 12) rfl)
  have w166 := hts (.methodLink RX5 166 yX4_length) (List.mem_of_getElem? (i := 17) rfl)
  have w32 := hts (.fieldLink RX5 32 "DrawnSlivers" "text" "LDrawnSlivers$SliverText;") (List.mem_of_getElem? (i := 5) rfl)
  have huX5 : ∀ w ∈ u_ws RX5 TX5 6, w.before _ s = true := fun w h => hts w (List.mem_cons_of_mem _ (List.mem_append_left _ (List.mem_append_left _ (List.mem_append_left _ (List.mem_append_right _ (h))))))
  subst hsz
  have hD := hD0.self (sz := s.heap.size)
  generalize hAe : va_A (wX5 a cI cF S) s.heap.size = A at hD ⊢
  have hA : ∀ q : Nat, s.heap.size ≤ q → A q := fun q h => by rw [← hAe]; exact Or.inr h
  have hS : va_S A s.heap s.heap [] := va_S.rf
  have hl := lv_entry ([.ref (a 0), .int x1]) (n := 2) (Nat.le_of_ble_eq_true rfl)
  rw [lg_entry_eq]
  generalize (lg_sl ([.ref (a 0), .int x1]) ++ List.replicate (2 - (lg_sl ([.ref (a 0), .int x1])).length) Slot.unset).toArray = ls at hl ⊢
  have hl : lv_has ls 2 [(0, .ref (a 0)), (1, .int x1)] := hl
  rw [m_X5_append] at h
  refine lv_iload_n hx hb dX5_append_0 rfl (lv_at hl 1 rfl) ?_
  refine lv_bipush (v := (33 : Int32)) hx hb dX5_append_1 (by decide) ?_
  refine lv_icmp_lt (tgt := 12) hx hb dX5_append_3 (by decide) (fun c1 => ?_) (fun c1 => ?_)
  · have h := o_t h c1
    cases h
  have h := o_f h c1
  refine lv_iload_n hx hb dX5_append_6 rfl (lv_at hl 1 rfl) ?_
  refine lv_bipush (v := (126 : Int32)) hx hb dX5_append_7 (by decide) ?_
  refine lv_icmp_le (tgt := 22) hx hb dX5_append_9 (by decide) (fun c2 => ?_) (fun c2 => ?_)
  rotate_left
  · have h := o_f h c2
    cases h
  have h := o_t h c2
  refine lv_aload_n hx hb dX5_append_22 rfl (lv_at hl 0 rfl) ?_
  refine va_get (D := (dC, dI)) (ci := 5) (v := .ref (a 22)) (C := RX5) (T := TX5) (N := 6) hx hb huX5 (fun _ h9 => h9) hown hK hP 0 rfl rfl 4 (by decide) w32 (fun _ h9 => h9) rfl dX5_append_23 ?_
  obtain ⟨v3, g4, h⟩ := o_b h
  refine k_ro (va_runV (As := []) (rest := []) ⟨hx, hb, hml, hown, hts⟩ (c_X4_isFull l dC dI cI cF (fun i => a (i + 22)) (g_X5_text S) v3 g4) (cwV 0 hts gX5_append_X4_isFull rfl rfl rfl (by decide +kernel) ⟨Nat.le_of_ble_eq_true rfl, Nat.le_of_ble_eq_true rfl⟩) (k_preL (q0 := 0) (ci := 4) hK hP (LX5_text a cI cF S (g_X5_text S) (LN_id (fX4 (fun i => a (i + 22)) cI cF (g_X5_text S) (g_X5_text S)))) rfl rfl rfl) rfl rfl hl.1 rfl (lv_room (Nat.le_of_ble_eq_true rfl)) dX5_append_26 ⟨Nat.zero_le _, Nat.zero_le _⟩) (st1 := [.int v3]) rfl ?_
  refine lv_if_eq (tgt := 42) hx hb dX5_append_29 (by decide) (fun c5 => ?_) (fun c5 => ?_)
  rotate_left
  · have h := o_f h c5
    cases h
  have h := o_t h c5
  refine lv_aload_n hx hb dX5_append_42 rfl (lv_at hl 0 rfl) ?_
  refine va_get (D := (dC, dI)) (ci := 5) (v := .ref (a 22)) (C := RX5) (T := TX5) (N := 6) hx hb huX5 (fun _ h9 => h9) hown hK hP 0 rfl rfl 4 (by decide) w32 (fun _ h9 => h9) rfl dX5_append_43 ?_
  refine lv_iload_n hx hb dX5_append_46 rfl (lv_at hl 1 rfl) ?_
  obtain ⟨v6, g7, h⟩ := o_b h
  refine k_rwL (va_runV (As := [.int x1]) (rest := []) ⟨hx, hb, hml, hown, hts⟩ (c_X4_add l dC dI cI cF (fun i => a (i + 22)) (g_X5_text S) x1 v6 g7 s.heap.size) (cwV 1 hts gX5_append_X4_add rfl rfl rfl (by decide +kernel) ⟨Nat.le_of_ble_eq_true rfl, Nat.le_of_ble_eq_true rfl⟩) (k_preLw (q0 := 0) (ci := 4) hK hP hD (LX5_text a cI cF S v6 (LN_id (fX4 (fun i => a (i + 22)) cI cF (g_X5_text S) v6))) rfl rfl rfl) rfl rfl hl.1 rfl (lv_room (Nat.le_of_ble_eq_true rfl)) dX5_append_47 ⟨Nat.zero_le _, Nat.zero_le _⟩) (st1 := []) rfl hP hD hS hA (wn := wX5 a cI cF (s_X5_text S v6)) (LX5_text a cI cF S v6 (LN_id (fX4 (fun i => a (i + 22)) cI cF (g_X5_text S) v6))) (fun H locs hP hD hS => ?_)
  refine lv_aload_n hx hb dX5_append_50 rfl (lv_at hl 0 rfl) ?_
  refine va_get (D := (dC, dI)) (ci := 5) (v := .ref (a 22)) (C := RX5) (T := TX5) (N := 6) hx hb huX5 (fun _ h9 => h9) hown hK hP 0 rfl rfl 4 (by decide) w32 (fun _ h9 => h9) rfl dX5_append_51 ?_
  obtain ⟨v8, g9, h⟩ := o_b h
  refine k_ro (va_runV (As := []) (rest := []) ⟨hx, hb, hml, hown, hts⟩ (c_X4_length l dC dI cI cF (fun i => a (i + 22)) v6 v8 g9) (cwV 0 hts gX5_append_X4_length rfl rfl rfl (by decide +kernel) ⟨Nat.le_of_ble_eq_true rfl, Nat.le_of_ble_eq_true rfl⟩) (k_preL (q0 := 0) (ci := 4) hK hP (LX5_text a cI cF (s_X5_text S v6) v6 (LN_id (fX4 (fun i => a (i + 22)) cI cF v6 v6))) rfl rfl rfl) rfl rfl hl.1 rfl (lv_room (Nat.le_of_ble_eq_true rfl)) dX5_append_54 ⟨Nat.zero_le _, Nat.zero_le _⟩) (st1 := [.int v8]) rfl ?_
  have hu := Sum.inr.inj (Option.some.inj h)
  exact W.iret (v := v8) hx hb hr (fun t ht hW => ⟨⟨congrArg (fun z => Outcome.returned (some (Value.int z.1))) hu, by rw [ht, ← hu]; exact hP⟩, hS.F ht⟩) hS.2.2 dX5_append_57

set_option maxHeartbeats 4000000 in
set_option maxRecDepth 100000 in
theorem c_X5_append_x (l : Launch) (hfl : l.stackTraces = false) (dC : Nat → ClassId) (dI : Nat → Nat → Nat) (cI cF : ClassId) (a : Nat → Nat) (S : S_X5) (x1 : Int32) (u : Nat × S_X5) (h : m_X5_append S x1 = some (.inl u)) : ∀ sz : Nat, vx_Met l yX5_append wsX5_append ({ frames := 6, cells := 1, slots := 6, locals := 100 } : Room) (va_Pc [.ref (a 0), .int x1] (pRWe (dC, dI) cI cF (wX5 a cI cF S) sz)) (fun _ _ _ _ => False) (qX (dC, dI) (wX5 a cI cF u.2) (xnm u.1) (va_A (wX5 a cI cF S) sz)) 1 6 (va_A (wX5 a cI cF S) sz) := by
  intro sz
  refine vx_ofW (cc := cX5_append) (maxL := 2) (ret := (some .int)) (by decide) rfl ?_
  intro p e s m args below meth c s₁ B hml hnx hv
  obtain ⟨hargs, ⟨hsz, hP, hK, hD0⟩, hE⟩ := hv
  subst hargs
  have hx := B.exec
  have hb := B.bytes
  have hr := B.returns
  have hts := atoms_spec (ws := wsX5_append) B.pre
  have hown : s.vm.findClass RX5 = some m.cls := findClass_of_methodNamed B.named
  have hlocks := B.notSynchronized
  have w158 := hts (.methodLink RX5 158 yX4_isFull) (List.mem_of_getElem? (i := 6) rfl)
  have w163 := hts (.methodLink RX5 163 yX4_add) (List.mem_of_getElem? (i := 12) rfl)
  have w166 := hts (.methodLink RX5 166 yX4_length) (List.mem_of_getElem? (i := 17) rfl)
  have w32 := hts (.fieldLink RX5 32 "DrawnSlivers" "text" "LDrawnSlivers$SliverText;") (List.mem_of_getElem? (i := 5) rfl)
  have w55 := hts (.classLink RX5 55 "java/lang/IllegalArgumentException") (List.mem_of_getElem? (i := 1) rfl)
  have w74 := hts (.classLink RX5 74 "java/lang/IllegalStateException") (List.mem_of_getElem? (i := 3) rfl)
  have wix2 := hts (.initialized "java/lang/IllegalArgumentException") (List.mem_of_getElem? (i := 2) rfl)
  have wix3 := hts (.initialized "java/lang/IllegalStateException") (List.mem_of_getElem? (i := 4) rfl)
  have huX5 : ∀ w ∈ u_ws RX5 TX5 6, w.before _ s = true := fun w h => hts w (List.mem_cons_of_mem _ (List.mem_append_left _ (List.mem_append_left _ (List.mem_append_left _ (List.mem_append_right _ (h))))))
  subst hsz
  have hD := hD0.self (sz := s.heap.size)
  generalize hAe : va_A (wX5 a cI cF S) s.heap.size = A at hD hE ⊢
  have hA : ∀ q : Nat, s.heap.size ≤ q → A q := fun q h => by rw [← hAe]; exact Or.inr h
  have hS : va_S A s.heap s.heap [] := va_S.rf
  have hl := lv_entry ([.ref (a 0), .int x1]) (n := 2) (Nat.le_of_ble_eq_true rfl)
  rw [lg_entry_eq]
  generalize (lg_sl ([.ref (a 0), .int x1]) ++ List.replicate (2 - (lg_sl ([.ref (a 0), .int x1])).length) Slot.unset).toArray = ls at hl ⊢
  have hl : lv_has ls 2 [(0, .ref (a 0)), (1, .int x1)] := hl
  rw [m_X5_append] at h
  refine lv_iload_n hx hb dX5_append_0 rfl (lv_at hl 1 rfl) ?_
  refine lv_bipush (v := (33 : Int32)) hx hb dX5_append_1 (by decide) ?_
  refine lv_icmp_lt (tgt := 12) hx hb dX5_append_3 (by decide) (fun c1 => ?_) (fun c1 => ?_)
  · have h := o_t h c1
    have hu := Sum.inl.inj (Option.some.inj h)
    obtain ⟨sa, hsa⟩ := hE.2.1 (156, "codes are 33 to 126") (by decide)
    exact vx_throwS (own := RX5) (cls := "java/lang/IllegalArgumentException") (text := "codes are 33 to 126") (names := ["java/lang/RuntimeException", "java/lang/Exception"]) (ik := 55) (is := 156) (ic := 59) (sa := sa) (A := A) hx hb hfl hown (by decide +kernel) (by decide +kernel) w55 wix2 hsa (vx_hat (fun w h => hts w (List.mem_cons_of_mem _ (List.mem_append_left _ (List.mem_append_right _ (h))))) (B := xW) (by decide +kernel) (fun w h => va_Nw.use (xW_ot w h) (hE.2.2.1 w h))) (by decide +kernel) hE.1.1 hE.1.2 hS (by rw [hml]; exact hl.1) dX5_append_12 dX5_append_15 dX5_append_16 dX5_append_18 dX5_append_21 (fun z hz => (hnx z hz).elim) (Nat.le_of_ble_eq_true rfl) (Nat.le_of_ble_eq_true rfl) (Nat.le_of_ble_eq_true rfl) (Nat.le_of_ble_eq_true rfl) hlocks (fun t hv hz hq => ⟨⟨by rw [← hu]; rfl, by rw [← hu]; exact k_Pkeep hP hq⟩, k_Fkeep hS hz hq⟩) hS.2.2 (Nat.le_refl _) (Nat.le_refl _)
  have h := o_f h c1
  refine lv_iload_n hx hb dX5_append_6 rfl (lv_at hl 1 rfl) ?_
  refine lv_bipush (v := (126 : Int32)) hx hb dX5_append_7 (by decide) ?_
  refine lv_icmp_le (tgt := 22) hx hb dX5_append_9 (by decide) (fun c2 => ?_) (fun c2 => ?_)
  rotate_left
  · have h := o_f h c2
    have hu := Sum.inl.inj (Option.some.inj h)
    obtain ⟨sa, hsa⟩ := hE.2.1 (156, "codes are 33 to 126") (by decide)
    exact vx_throwS (own := RX5) (cls := "java/lang/IllegalArgumentException") (text := "codes are 33 to 126") (names := ["java/lang/RuntimeException", "java/lang/Exception"]) (ik := 55) (is := 156) (ic := 59) (sa := sa) (A := A) hx hb hfl hown (by decide +kernel) (by decide +kernel) w55 wix2 hsa (vx_hat (fun w h => hts w (List.mem_cons_of_mem _ (List.mem_append_left _ (List.mem_append_right _ (h))))) (B := xW) (by decide +kernel) (fun w h => va_Nw.use (xW_ot w h) (hE.2.2.1 w h))) (by decide +kernel) hE.1.1 hE.1.2 hS (by rw [hml]; exact hl.1) dX5_append_12 dX5_append_15 dX5_append_16 dX5_append_18 dX5_append_21 (fun z hz => (hnx z hz).elim) (Nat.le_of_ble_eq_true rfl) (Nat.le_of_ble_eq_true rfl) (Nat.le_of_ble_eq_true rfl) (Nat.le_of_ble_eq_true rfl) hlocks (fun t hv hz hq => ⟨⟨by rw [← hu]; rfl, by rw [← hu]; exact k_Pkeep hP hq⟩, k_Fkeep hS hz hq⟩) hS.2.2 (Nat.le_refl _) (Nat.le_refl _)
  have h := o_t h c2
  refine lv_aload_n hx hb dX5_append_22 rfl (lv_at hl 0 rfl) ?_
  refine va_get (D := (dC, dI)) (ci := 5) (v := .ref (a 22)) (C := RX5) (T := TX5) (N := 6) hx hb huX5 (fun _ h9 => h9) hown hK hP 0 rfl rfl 4 (by decide) w32 (fun _ h9 => h9) rfl dX5_append_23 ?_
  obtain ⟨v3, g4, h⟩ := o_b h
  refine k_ro (va_runV (As := []) (rest := []) ⟨hx, hb, hml, hown, hts⟩ (c_X4_isFull l dC dI cI cF (fun i => a (i + 22)) (g_X5_text S) v3 g4) (cwV 0 hts gX5_append_X4_isFull rfl rfl rfl (by decide +kernel) ⟨Nat.le_of_ble_eq_true rfl, Nat.le_of_ble_eq_true rfl⟩) (k_preL (q0 := 0) (ci := 4) hK hP (LX5_text a cI cF S (g_X5_text S) (LN_id (fX4 (fun i => a (i + 22)) cI cF (g_X5_text S) (g_X5_text S)))) rfl rfl rfl) rfl rfl hl.1 rfl (lv_room (Nat.le_of_ble_eq_true rfl)) dX5_append_26 ⟨Nat.zero_le _, Nat.zero_le _⟩) (st1 := [.int v3]) rfl ?_
  refine lv_if_eq (tgt := 42) hx hb dX5_append_29 (by decide) (fun c5 => ?_) (fun c5 => ?_)
  rotate_left
  · have h := o_f h c5
    have hu := Sum.inl.inj (Option.some.inj h)
    obtain ⟨sa, hsa⟩ := hE.2.1 (161, "the buffer is full") (by decide)
    exact vx_throwS (own := RX5) (cls := "java/lang/IllegalStateException") (text := "the buffer is full") (names := ["java/lang/RuntimeException", "java/lang/Exception"]) (ik := 74) (is := 161) (ic := 78) (sa := sa) (A := A) hx hb hfl hown (by decide +kernel) (by decide +kernel) w74 wix3 hsa (vx_hat (fun w h => hts w (List.mem_cons_of_mem _ (List.mem_append_right _ (h)))) (B := xW) (by decide +kernel) (fun w h => va_Nw.use (xW_ot w h) (hE.2.2.1 w h))) (by decide +kernel) hE.1.1 hE.1.2 hS (by rw [hml]; exact hl.1) dX5_append_32 dX5_append_35 dX5_append_36 dX5_append_38 dX5_append_41 (fun z hz => (hnx z hz).elim) (Nat.le_of_ble_eq_true rfl) (Nat.le_of_ble_eq_true rfl) (Nat.le_of_ble_eq_true rfl) (Nat.le_of_ble_eq_true rfl) hlocks (fun t hv hz hq => ⟨⟨by rw [← hu]; rfl, by rw [← hu]; exact k_Pkeep hP hq⟩, k_Fkeep hS hz hq⟩) hS.2.2 (Nat.le_refl _) (Nat.le_refl _)
  have h := o_t h c5
  refine lv_aload_n hx hb dX5_append_42 rfl (lv_at hl 0 rfl) ?_
  refine va_get (D := (dC, dI)) (ci := 5) (v := .ref (a 22)) (C := RX5) (T := TX5) (N := 6) hx hb huX5 (fun _ h9 => h9) hown hK hP 0 rfl rfl 4 (by decide) w32 (fun _ h9 => h9) rfl dX5_append_43 ?_
  refine lv_iload_n hx hb dX5_append_46 rfl (lv_at hl 1 rfl) ?_
  obtain ⟨v6, g7, h⟩ := o_b h
  refine k_rwL (va_runV (As := [.int x1]) (rest := []) ⟨hx, hb, hml, hown, hts⟩ (c_X4_add l dC dI cI cF (fun i => a (i + 22)) (g_X5_text S) x1 v6 g7 s.heap.size) (cwV 1 hts gX5_append_X4_add rfl rfl rfl (by decide +kernel) ⟨Nat.le_of_ble_eq_true rfl, Nat.le_of_ble_eq_true rfl⟩) (k_preLw (q0 := 0) (ci := 4) hK hP hD (LX5_text a cI cF S v6 (LN_id (fX4 (fun i => a (i + 22)) cI cF (g_X5_text S) v6))) rfl rfl rfl) rfl rfl hl.1 rfl (lv_room (Nat.le_of_ble_eq_true rfl)) dX5_append_47 ⟨Nat.zero_le _, Nat.zero_le _⟩) (st1 := []) rfl hP hD hS hA (wn := wX5 a cI cF (s_X5_text S v6)) (LX5_text a cI cF S v6 (LN_id (fX4 (fun i => a (i + 22)) cI cF (g_X5_text S) v6))) (fun H locs hP hD hS => ?_)
  refine lv_aload_n hx hb dX5_append_50 rfl (lv_at hl 0 rfl) ?_
  refine va_get (D := (dC, dI)) (ci := 5) (v := .ref (a 22)) (C := RX5) (T := TX5) (N := 6) hx hb huX5 (fun _ h9 => h9) hown hK hP 0 rfl rfl 4 (by decide) w32 (fun _ h9 => h9) rfl dX5_append_51 ?_
  obtain ⟨v8, g9, h⟩ := o_b h
  refine k_ro (va_runV (As := []) (rest := []) ⟨hx, hb, hml, hown, hts⟩ (c_X4_length l dC dI cI cF (fun i => a (i + 22)) v6 v8 g9) (cwV 0 hts gX5_append_X4_length rfl rfl rfl (by decide +kernel) ⟨Nat.le_of_ble_eq_true rfl, Nat.le_of_ble_eq_true rfl⟩) (k_preL (q0 := 0) (ci := 4) hK hP (LX5_text a cI cF (s_X5_text S v6) v6 (LN_id (fX4 (fun i => a (i + 22)) cI cF v6 v6))) rfl rfl rfl) rfl rfl hl.1 rfl (lv_room (Nat.le_of_ble_eq_true rfl)) dX5_append_54 ⟨Nat.zero_le _, Nat.zero_le _⟩) (st1 := [.int v8]) rfl ?_
  cases h

def m_X5_clearBuffer (S : S_X5) : Option (Int32 × S_X5) := (m_X4_length (g_X5_text S)).bind fun v1 => ((m_X4_wipe (g_X5_text S)).bind fun v3 => (some (v1, s_X5_text S v3)))
set_option maxHeartbeats 4000000 in
set_option maxRecDepth 100000 in
theorem c_X5_clearBuffer (l : Launch) (dC : Nat → ClassId) (dI : Nat → Nat → Nat) (cI cF : ClassId) (a : Nat → Nat) (S : S_X5) (u : Int32 × S_X5) (h : m_X5_clearBuffer S = some u) : cRW l (dC, dI) cI cF yX5_clearBuffer wsX5_clearBuffer ({ frames := 1, cells := 0, slots := 0, locals := 20 } : Room) [.ref (a 0)] (wX5 a cI cF S) (wX5 a cI cF u.2) (some (.int u.1)) := by
  intro sz
  refine Met.ofW (cc := cX5_clearBuffer) (maxL := 2) (ret := (some .int)) (by decide) rfl ?_
  intro p e s m args below meth c s₁ B hml hv
  obtain ⟨hargs, hsz, hP, hK, hD0⟩ := hv
  subst hargs
  have hx := B.exec
  have hb := B.bytes
  have hr := B.returns
  have hts := atoms_spec (ws := wsX5_clearBuffer) B.pre
  have hown : s.vm.findClass RX5 = some m.cls := findClass_of_methodNamed B.named
  have hlocks := B.notSynchronized
  have w166 := hts (.methodLink RX5 166 yX4_length) (List.mem_of_getElem? (i := 2) rfl)
  have w32 := hts (.fieldLink RX5 32 "DrawnSlivers" "text" "LDrawnSlivers$SliverText;") (List.mem_of_getElem? (i := 1) rfl)
  have w96 := hts (.methodLink RX5 96 yX4_wipe) (List.mem_of_getElem? (i := 8) rfl)
  have huX5 : ∀ w ∈ u_ws RX5 TX5 6, w.before _ s = true := fun w h => hts w (List.mem_cons_of_mem _ (List.mem_append_left _ (List.mem_append_right _ (h))))
  subst hsz
  have hD := hD0.self (sz := s.heap.size)
  generalize hAe : va_A (wX5 a cI cF S) s.heap.size = A at hD ⊢
  have hA : ∀ q : Nat, s.heap.size ≤ q → A q := fun q h => by rw [← hAe]; exact Or.inr h
  have hS : va_S A s.heap s.heap [] := va_S.rf
  have hl := lv_entry ([.ref (a 0)]) (n := 2) (Nat.le_of_ble_eq_true rfl)
  rw [lg_entry_eq]
  generalize (lg_sl ([.ref (a 0)]) ++ List.replicate (2 - (lg_sl ([.ref (a 0)])).length) Slot.unset).toArray = ls at hl ⊢
  have hl : lv_has ls 2 [(0, .ref (a 0))] := hl
  rw [m_X5_clearBuffer] at h
  refine lv_aload_n hx hb dX5_clearBuffer_0 rfl (lv_at hl 0 rfl) ?_
  refine va_get (D := (dC, dI)) (ci := 5) (v := .ref (a 22)) (C := RX5) (T := TX5) (N := 6) hx hb huX5 (fun _ h9 => h9) hown hK hP 0 rfl rfl 4 (by decide) w32 (fun _ h9 => h9) rfl dX5_clearBuffer_1 ?_
  obtain ⟨v1, g2, h⟩ := o_b h
  refine k_ro (va_runV (As := []) (rest := []) ⟨hx, hb, hml, hown, hts⟩ (c_X4_length l dC dI cI cF (fun i => a (i + 22)) (g_X5_text S) v1 g2) (cwV 0 hts gX5_clearBuffer_X4_length rfl rfl rfl (by decide +kernel) ⟨Nat.le_of_ble_eq_true rfl, Nat.le_of_ble_eq_true rfl⟩) (k_preL (q0 := 0) (ci := 4) hK hP (LX5_text a cI cF S (g_X5_text S) (LN_id (fX4 (fun i => a (i + 22)) cI cF (g_X5_text S) (g_X5_text S)))) rfl rfl rfl) rfl rfl hl.1 rfl (lv_room (Nat.le_of_ble_eq_true rfl)) dX5_clearBuffer_4 ⟨Nat.zero_le _, Nat.zero_le _⟩) (st1 := [.int v1]) rfl ?_
  refine lv_istore_n (lv' := [(1, .int v1), (0, .ref (a 0))]) hx hb dX5_clearBuffer_7 rfl hl (by decide) rfl (fun ls hl => ?_)
  refine lv_aload_n hx hb dX5_clearBuffer_8 rfl (lv_at hl 1 rfl) ?_
  refine va_get (D := (dC, dI)) (ci := 5) (v := .ref (a 22)) (C := RX5) (T := TX5) (N := 6) hx hb huX5 (fun _ h9 => h9) hown hK hP 0 rfl rfl 4 (by decide) w32 (fun _ h9 => h9) rfl dX5_clearBuffer_9 ?_
  obtain ⟨v3, g4, h⟩ := o_b h
  refine k_rwL (va_runV (As := []) (rest := []) ⟨hx, hb, hml, hown, hts⟩ (c_X4_wipe l dC dI cI cF (fun i => a (i + 22)) (g_X5_text S) v3 g4 s.heap.size) (cwV 0 hts gX5_clearBuffer_X4_wipe rfl rfl rfl (by decide +kernel) ⟨Nat.le_of_ble_eq_true rfl, Nat.le_of_ble_eq_true rfl⟩) (k_preLw (q0 := 0) (ci := 4) hK hP hD (LX5_text a cI cF S v3 (LN_id (fX4 (fun i => a (i + 22)) cI cF (g_X5_text S) v3))) rfl rfl rfl) rfl rfl hl.1 rfl (lv_room (Nat.le_of_ble_eq_true rfl)) dX5_clearBuffer_12 ⟨Nat.zero_le _, Nat.zero_le _⟩) (st1 := []) rfl hP hD hS hA (wn := wX5 a cI cF (s_X5_text S v3)) (LX5_text a cI cF S v3 (LN_id (fX4 (fun i => a (i + 22)) cI cF (g_X5_text S) v3))) (fun H locs hP hD hS => ?_)
  refine lv_iload_n hx hb dX5_clearBuffer_15 rfl (lv_at hl 0 rfl) ?_
  have hu := Option.some.inj h
  exact W.iret (v := v1) hx hb hr (fun t ht hW => ⟨⟨congrArg (fun z => Outcome.returned (some (Value.int z.1))) hu, by rw [ht, ← hu]; exact hP⟩, hS.F ht⟩) hS.2.2 dX5_clearBuffer_16

def m_X5_firstError (S : S_X5) : Option (Int32 × S_X5) := (m_X4_readToError (g_X5_text S)).bind fun v1 => (some (v1.1, s_X5_text S v1.2))
set_option maxHeartbeats 4000000 in
set_option maxRecDepth 100000 in
theorem c_X5_firstError (l : Launch) (dC : Nat → ClassId) (dI : Nat → Nat → Nat) (cI cF : ClassId) (a : Nat → Nat) (S : S_X5) (u : Int32 × S_X5) (h : m_X5_firstError S = some u) : cRW l (dC, dI) cI cF yX5_firstError wsX5_firstError ({ frames := 4, cells := 0, slots := 0, locals := 88 } : Room) [.ref (a 0)] (wX5 a cI cF S) (wX5 a cI cF u.2) (some (.int u.1)) := by
  intro sz
  refine Met.ofW (cc := cX5_firstError) (maxL := 1) (ret := (some .int)) (by decide) rfl ?_
  intro p e s m args below meth c s₁ B hml hv
  obtain ⟨hargs, hsz, hP, hK, hD0⟩ := hv
  subst hargs
  have hx := B.exec
  have hb := B.bytes
  have hr := B.returns
  have hts := atoms_spec (ws := wsX5_firstError) B.pre
  have hown : s.vm.findClass RX5 = some m.cls := findClass_of_methodNamed B.named
  have hlocks := B.notSynchronized
  have w169 := hts (.methodLink RX5 169 yX4_readToError) (List.mem_of_getElem? (i := 2) rfl)
  have w32 := hts (.fieldLink RX5 32 "DrawnSlivers" "text" "LDrawnSlivers$SliverText;") (List.mem_of_getElem? (i := 1) rfl)
  have huX5 : ∀ w ∈ u_ws RX5 TX5 6, w.before _ s = true := fun w h => hts w (List.mem_cons_of_mem _ (List.mem_append_left _ (List.mem_append_right _ (h))))
  subst hsz
  have hD := hD0.self (sz := s.heap.size)
  generalize hAe : va_A (wX5 a cI cF S) s.heap.size = A at hD ⊢
  have hA : ∀ q : Nat, s.heap.size ≤ q → A q := fun q h => by rw [← hAe]; exact Or.inr h
  have hS : va_S A s.heap s.heap [] := va_S.rf
  have hl := lv_entry ([.ref (a 0)]) (n := 1) (Nat.le_of_ble_eq_true rfl)
  rw [lg_entry_eq]
  generalize (lg_sl ([.ref (a 0)]) ++ List.replicate (1 - (lg_sl ([.ref (a 0)])).length) Slot.unset).toArray = ls at hl ⊢
  have hl : lv_has ls 1 [(0, .ref (a 0))] := hl
  rw [m_X5_firstError] at h
  refine lv_aload_n hx hb dX5_firstError_0 rfl (lv_at hl 0 rfl) ?_
  refine va_get (D := (dC, dI)) (ci := 5) (v := .ref (a 22)) (C := RX5) (T := TX5) (N := 6) hx hb huX5 (fun _ h9 => h9) hown hK hP 0 rfl rfl 4 (by decide) w32 (fun _ h9 => h9) rfl dX5_firstError_1 ?_
  obtain ⟨v1, g2, h⟩ := o_b h
  refine k_rwL (va_runV (As := []) (rest := []) ⟨hx, hb, hml, hown, hts⟩ (c_X4_readToError l dC dI cI cF (fun i => a (i + 22)) (g_X5_text S) v1 g2 s.heap.size) (cwV 0 hts gX5_firstError_X4_readToError rfl rfl rfl (by decide +kernel) ⟨Nat.le_of_ble_eq_true rfl, Nat.le_of_ble_eq_true rfl⟩) (k_preLw (q0 := 0) (ci := 4) hK hP hD (LX5_text a cI cF S v1.2 (LN_id (fX4 (fun i => a (i + 22)) cI cF (g_X5_text S) v1.2))) rfl rfl rfl) rfl rfl hl.1 rfl (lv_room (Nat.le_of_ble_eq_true rfl)) dX5_firstError_4 ⟨Nat.zero_le _, Nat.zero_le _⟩) (st1 := [.int v1.1]) rfl hP hD hS hA (wn := wX5 a cI cF (s_X5_text S v1.2)) (LX5_text a cI cF S v1.2 (LN_id (fX4 (fun i => a (i + 22)) cI cF (g_X5_text S) v1.2))) (fun H locs hP hD hS => ?_)
  have hu := Option.some.inj h
  exact W.iret (v := v1.1) hx hb hr (fun t ht hW => ⟨⟨congrArg (fun z => Outcome.returned (some (Value.int z.1))) hu, by rw [ht, ← hu]; exact hP⟩, hS.F ht⟩) hS.2.2 dX5_firstError_7

def m_X5_keep (S : S_X5) : Option (Int32 × S_X5) := (m_X2_copyFrom (g_X5_snapshot S) (g_X5_frame S)).bind fun v1 => (some (g_X2_steps (g_X5_frame S), s_X5_hasSnapshot (s_X5_snapshot S v1) (1 : Int32)))
set_option maxHeartbeats 4000000 in
set_option maxRecDepth 100000 in
theorem c_X5_keep (l : Launch) (dC : Nat → ClassId) (dI : Nat → Nat → Nat) (cI cF : ClassId) (a : Nat → Nat) (S : S_X5) (u : Int32 × S_X5) (h : m_X5_keep S = some u) : cRW l (dC, dI) cI cF yX5_keep wsX5_keep ({ frames := 3, cells := 0, slots := 0, locals := 102 } : Room) [.ref (a 0)] (wX5 a cI cF S) (wX5 a cI cF u.2) (some (.int u.1)) := by
  intro sz
  refine Met.ofW (cc := cX5_keep) (maxL := 1) (ret := (some .int)) (by decide) rfl ?_
  intro p e s m args below meth c s₁ B hml hv
  obtain ⟨hargs, hsz, hP, hK, hD0⟩ := hv
  subst hargs
  have hx := B.exec
  have hb := B.bytes
  have hr := B.returns
  have hts := atoms_spec (ws := wsX5_keep) B.pre
  have hown : s.vm.findClass RX5 = some m.cls := findClass_of_methodNamed B.named
  have hlocks := B.notSynchronized
  have w10 := hts (.fieldLink RX5 10 "DrawnSlivers" "frame" "LDrawnSlivers$Frame;") (List.mem_of_getElem? (i := 2) rfl)
  have w16 := hts (.fieldLink RX5 16 "DrawnSlivers" "snapshot" "LDrawnSlivers$Frame;") (List.mem_of_getElem? (i := 1) rfl)
  have w172 := hts (.methodLink RX5 172 yX2_copyFrom) (List.mem_of_getElem? (i := 5) rfl)
  have w175 := hts (.fieldLink RX5 175 "DrawnSlivers$Frame" "steps" "I") (List.mem_of_getElem? (i := 4) rfl)
  have w36 := hts (.fieldLink RX5 36 "DrawnSlivers" "hasSnapshot" "Z") (List.mem_of_getElem? (i := 3) rfl)
  have huX2 : ∀ w ∈ u_ws RX2 TX2 12, w.before _ s = true := fun w h => hts w (List.mem_cons_of_mem _ (List.mem_append_left _ (List.mem_append_left _ (List.mem_append_right _ (h)))))
  have huX5 : ∀ w ∈ u_ws RX5 TX5 6, w.before _ s = true := fun w h => hts w (List.mem_cons_of_mem _ (List.mem_append_left _ (List.mem_append_left _ (List.mem_append_left _ (List.mem_append_right _ (h))))))
  subst hsz
  have hD := hD0.self (sz := s.heap.size)
  generalize hAe : va_A (wX5 a cI cF S) s.heap.size = A at hD ⊢
  have hA : ∀ q : Nat, s.heap.size ≤ q → A q := fun q h => by rw [← hAe]; exact Or.inr h
  have hS : va_S A s.heap s.heap [] := va_S.rf
  have hl := lv_entry ([.ref (a 0)]) (n := 1) (Nat.le_of_ble_eq_true rfl)
  rw [lg_entry_eq]
  generalize (lg_sl ([.ref (a 0)]) ++ List.replicate (1 - (lg_sl ([.ref (a 0)])).length) Slot.unset).toArray = ls at hl ⊢
  have hl : lv_has ls 1 [(0, .ref (a 0))] := hl
  rw [m_X5_keep] at h
  refine lv_aload_n hx hb dX5_keep_0 rfl (lv_at hl 0 rfl) ?_
  refine va_get (D := (dC, dI)) (ci := 5) (v := .ref (a 8)) (C := RX5) (T := TX5) (N := 6) hx hb huX5 (fun _ h9 => h9) hown hK hP 0 rfl rfl 1 (by decide) w16 (fun _ h9 => h9) rfl dX5_keep_1 ?_
  refine lv_aload_n hx hb dX5_keep_4 rfl (lv_at hl 0 rfl) ?_
  refine va_get (D := (dC, dI)) (ci := 5) (v := .ref (a 1)) (C := RX5) (T := TX5) (N := 6) hx hb huX5 (fun _ h9 => h9) hown hK hP 0 rfl rfl 0 (by decide) w10 (fun _ h9 => h9) rfl dX5_keep_5 ?_
  obtain ⟨v1, g2, h⟩ := o_b h
  refine k_rwL (va_runV (As := [.ref (a 1)]) (rest := []) ⟨hx, hb, hml, hown, hts⟩ (c_X2_copyFrom l dC dI cI cF (fun i => a (i + 8)) (fun i => a (i + 1)) (g_X5_snapshot S) (g_X5_frame S) v1 g2 s.heap.size) (cwV 1 hts gX5_keep_X2_copyFrom rfl rfl rfl (by decide +kernel) ⟨Nat.le_of_ble_eq_true rfl, Nat.le_of_ble_eq_true rfl⟩) (k_preLw (q0 := 0) (ci := 2) hK hP hD (LN_sw (LX5_frame_snapshot a cI cF S (g_X5_frame S) v1)) rfl rfl rfl) rfl rfl hl.1 rfl (lv_room (Nat.le_of_ble_eq_true rfl)) dX5_keep_8 ⟨Nat.zero_le _, Nat.zero_le _⟩) (st1 := []) rfl hP hD hS hA (wn := wX5 a cI cF (s_X5_snapshot S v1)) (LN_sw (LX5_frame_snapshot a cI cF S (g_X5_frame S) v1)) (fun H locs hP hD hS => ?_)
  refine lv_aload_n hx hb dX5_keep_11 rfl (lv_at hl 0 rfl) ?_
  refine lv_iconst (v := (1 : Int32)) hx hb dX5_keep_12 (by decide) ?_
  refine va_put (D := (dC, dI)) (ci := 5) (v := .int (1 : Int32)) (ty := .boolean) (C := RX5) (T := TX5) (N := 6) hx hb huX5 (fun _ h9 => h9) tyX5 tyX5_ok nmX5 hown hK hP hD hS 0 rfl rfl 5 (by decide) w36 (fun _ h9 => h9) rfl (by decide +kernel) rfl rfl (Nat.le_of_ble_eq_true rfl) dX5_keep_13 (fun H locs hP2 hD2 hS => ?_)
  obtain ⟨hP, hD⟩ : va_P (dC, dI) vwCl (wX5 a cI cF (s_X5_hasSnapshot (s_X5_snapshot S v1) (1 : Int32))) H ∧ va_D A (wX5 a cI cF (s_X5_hasSnapshot (s_X5_snapshot S v1) (1 : Int32))) := LN.set (LX5_hasSnapshot a cI cF (s_X5_snapshot S v1) (1 : Int32)) (p := 0) rfl rfl hD hP2 hD2
  refine lv_aload_n hx hb dX5_keep_16 rfl (lv_at hl 0 rfl) ?_
  refine va_get (D := (dC, dI)) (ci := 5) (v := .ref (a 1)) (C := RX5) (T := TX5) (N := 6) hx hb huX5 (fun _ h9 => h9) hown hK hP 0 rfl rfl 0 (by decide) w10 (fun _ h9 => h9) rfl dX5_keep_17 ?_
  refine va_get (D := (dC, dI)) (ci := 2) (v := .int (g_X2_steps (g_X5_frame S))) (C := RX2) (T := TX2) (N := 12) hx hb huX2 (fun _ h9 => h9) hown hK hP 1 rfl rfl 6 (by decide) w175 (fun _ h9 => h9) rfl dX5_keep_20 ?_
  have hu := Option.some.inj h
  exact W.iret (v := g_X2_steps (g_X5_frame S)) hx hb hr (fun t ht hW => ⟨⟨congrArg (fun z => Outcome.returned (some (Value.int z.1))) hu, by rw [ht, ← hu]; exact hP⟩, hS.F ht⟩) hS.2.2 dX5_keep_23

def m_X5_goBack (S : S_X5) : Option ((Nat × S_X5) ⊕ (Int32 × S_X5)) := if (g_X5_hasSnapshot S) = 0 then (some (.inl (3, S))) else ((m_X3_save (g_X5_history S) (g_X5_frame S)).bind fun v2 => ((m_X2_copyFrom (g_X5_frame S) (g_X5_snapshot S)).bind fun v4 => (some (.inr (g_X2_steps v4, s_X5_history (s_X5_frame S v4) v2)))))
set_option maxHeartbeats 4000000 in
set_option maxRecDepth 100000 in
theorem c_X5_goBack (l : Launch) (dC : Nat → ClassId) (dI : Nat → Nat → Nat) (cI cF : ClassId) (a : Nat → Nat) (S : S_X5) (u : Int32 × S_X5) (h : m_X5_goBack S = some (.inr u)) : cRW l (dC, dI) cI cF yX5_goBack wsX5_goBack ({ frames := 4, cells := 0, slots := 0, locals := 124 } : Room) [.ref (a 0)] (wX5 a cI cF S) (wX5 a cI cF u.2) (some (.int u.1)) := by
  intro sz
  refine Met.ofW (cc := cX5_goBack) (maxL := 1) (ret := (some .int)) (by decide) rfl ?_
  intro p e s m args below meth c s₁ B hml hv
  obtain ⟨hargs, hsz, hP, hK, hD0⟩ := hv
  subst hargs
  have hx := B.exec
  have hb := B.bytes
  have hr := B.returns
  have hts := atoms_spec (ws := wsX5_goBack) B.pre
  have hown : s.vm.findClass RX5 = some m.cls := findClass_of_methodNamed B.named
  have hlocks := B.notSynchronized
  have w10 := hts (.fieldLink RX5 10 "DrawnSlivers" "frame" "LDrawnSlivers$Frame;") (List.mem_of_getElem? (i := 5) rfl)
  have w16 := hts (.fieldLink RX5 16 "DrawnSlivers" "snapshot" "LDrawnSlivers$Frame;") (List.mem_of_getElem? (i := 6) rfl)
  have w172 := hts (.methodLink RX5 172 yX2_copyFrom) (List.mem_of_getElem? (i := 63) rfl)
  have w175 := hts (.fieldLink RX5 175 "DrawnSlivers$Frame" "steps" "I") (List.mem_of_getElem? (i := 7) rfl)
  have w25 := hts (.fieldLink RX5 25 "DrawnSlivers" "history" "LDrawnSlivers$History;") (List.mem_of_getElem? (i := 4) rfl)
  have w36 := hts (.fieldLink RX5 36 "DrawnSlivers" "hasSnapshot" "Z") (List.mem_of_getElem? (i := 3) rfl)
  have w79 := hts (.methodLink RX5 79 yX3_save) (List.mem_of_getElem? (i := 8) rfl)
  have huX2 : ∀ w ∈ u_ws RX2 TX2 12, w.before _ s = true := fun w h => hts w (List.mem_cons_of_mem _ (List.mem_append_left _ (List.mem_append_left _ (List.mem_append_left _ (List.mem_append_left _ (List.mem_append_right _ (h)))))))
  have huX5 : ∀ w ∈ u_ws RX5 TX5 6, w.before _ s = true := fun w h => hts w (List.mem_cons_of_mem _ (List.mem_append_left _ (List.mem_append_left _ (List.mem_append_left _ (List.mem_append_left _ (List.mem_append_left _ (List.mem_append_right _ (h))))))))
  subst hsz
  have hD := hD0.self (sz := s.heap.size)
  generalize hAe : va_A (wX5 a cI cF S) s.heap.size = A at hD ⊢
  have hA : ∀ q : Nat, s.heap.size ≤ q → A q := fun q h => by rw [← hAe]; exact Or.inr h
  have hS : va_S A s.heap s.heap [] := va_S.rf
  have hl := lv_entry ([.ref (a 0)]) (n := 1) (Nat.le_of_ble_eq_true rfl)
  rw [lg_entry_eq]
  generalize (lg_sl ([.ref (a 0)]) ++ List.replicate (1 - (lg_sl ([.ref (a 0)])).length) Slot.unset).toArray = ls at hl ⊢
  have hl : lv_has ls 1 [(0, .ref (a 0))] := hl
  rw [m_X5_goBack] at h
  refine lv_aload_n hx hb dX5_goBack_0 rfl (lv_at hl 0 rfl) ?_
  refine va_get (D := (dC, dI)) (ci := 5) (v := .int (g_X5_hasSnapshot S)) (C := RX5) (T := TX5) (N := 6) hx hb huX5 (fun _ h9 => h9) hown hK hP 0 rfl rfl 5 (by decide) w36 (fun _ h9 => h9) rfl dX5_goBack_1 ?_
  refine lv_if_ne (tgt := 17) hx hb dX5_goBack_4 (by decide) (fun c1 => ?_) (fun c1 => ?_)
  rotate_left
  · have h := o_t h c1
    cases h
  have h := o_f h c1
  refine lv_aload_n hx hb dX5_goBack_17 rfl (lv_at hl 0 rfl) ?_
  refine va_get (D := (dC, dI)) (ci := 5) (v := .ref (a 26)) (C := RX5) (T := TX5) (N := 6) hx hb huX5 (fun _ h9 => h9) hown hK hP 0 rfl rfl 3 (by decide) w25 (fun _ h9 => h9) rfl dX5_goBack_18 ?_
  refine lv_aload_n hx hb dX5_goBack_21 rfl (lv_at hl 0 rfl) ?_
  refine va_get (D := (dC, dI)) (ci := 5) (v := .ref (a 1)) (C := RX5) (T := TX5) (N := 6) hx hb huX5 (fun _ h9 => h9) hown hK hP 0 rfl rfl 0 (by decide) w10 (fun _ h9 => h9) rfl dX5_goBack_22 ?_
  obtain ⟨v2, g3, h⟩ := o_b h
  refine k_rwL (va_runV (As := [.ref (a 1)]) (rest := []) ⟨hx, hb, hml, hown, hts⟩ (c_X3_save l dC dI cI cF (fun i => a (i + 26)) (fun i => a (i + 1)) (g_X5_history S) (g_X5_frame S) v2 g3 s.heap.size) (cwV 1 hts gX5_goBack_X3_save rfl rfl rfl (by decide +kernel) ⟨Nat.le_of_ble_eq_true rfl, Nat.le_of_ble_eq_true rfl⟩) (k_preLw (q0 := 0) (ci := 3) hK hP hD (LN_sw (LX5_frame_history a cI cF S (g_X5_frame S) v2)) rfl rfl rfl) rfl rfl hl.1 rfl (lv_room (Nat.le_of_ble_eq_true rfl)) dX5_goBack_25 ⟨Nat.zero_le _, Nat.zero_le _⟩) (st1 := []) rfl hP hD hS hA (wn := wX5 a cI cF (s_X5_history S v2)) (LN_sw (LX5_frame_history a cI cF S (g_X5_frame S) v2)) (fun H locs hP hD hS => ?_)
  refine lv_aload_n hx hb dX5_goBack_28 rfl (lv_at hl 0 rfl) ?_
  refine va_get (D := (dC, dI)) (ci := 5) (v := .ref (a 1)) (C := RX5) (T := TX5) (N := 6) hx hb huX5 (fun _ h9 => h9) hown hK hP 0 rfl rfl 0 (by decide) w10 (fun _ h9 => h9) rfl dX5_goBack_29 ?_
  refine lv_aload_n hx hb dX5_goBack_32 rfl (lv_at hl 0 rfl) ?_
  refine va_get (D := (dC, dI)) (ci := 5) (v := .ref (a 8)) (C := RX5) (T := TX5) (N := 6) hx hb huX5 (fun _ h9 => h9) hown hK hP 0 rfl rfl 1 (by decide) w16 (fun _ h9 => h9) rfl dX5_goBack_33 ?_
  obtain ⟨v4, g5, h⟩ := o_b h
  refine k_rwL (va_runV (As := [.ref (a 8)]) (rest := []) ⟨hx, hb, hml, hown, hts⟩ (c_X2_copyFrom l dC dI cI cF (fun i => a (i + 1)) (fun i => a (i + 8)) (g_X5_frame S) (g_X5_snapshot S) v4 g5 H.size) (cwV 1 hts gX5_goBack_X2_copyFrom rfl rfl rfl (by decide +kernel) ⟨Nat.le_of_ble_eq_true rfl, Nat.le_of_ble_eq_true rfl⟩) (k_preLw (q0 := 0) (ci := 2) hK hP hD (LX5_frame_snapshot a cI cF (s_X5_history S v2) v4 (g_X5_snapshot S)) rfl rfl rfl) rfl rfl hl.1 rfl (lv_room (Nat.le_of_ble_eq_true rfl)) dX5_goBack_36 ⟨Nat.zero_le _, Nat.zero_le _⟩) (st1 := []) rfl hP hD hS hA (wn := wX5 a cI cF (s_X5_history (s_X5_frame S v4) v2)) (LX5_frame_snapshot a cI cF (s_X5_history S v2) v4 (g_X5_snapshot S)) (fun H locs hP hD hS => ?_)
  refine lv_aload_n hx hb dX5_goBack_39 rfl (lv_at hl 0 rfl) ?_
  refine va_get (D := (dC, dI)) (ci := 5) (v := .ref (a 1)) (C := RX5) (T := TX5) (N := 6) hx hb huX5 (fun _ h9 => h9) hown hK hP 0 rfl rfl 0 (by decide) w10 (fun _ h9 => h9) rfl dX5_goBack_40 ?_
  refine va_get (D := (dC, dI)) (ci := 2) (v := .int (g_X2_steps v4)) (C := RX2) (T := TX2) (N := 12) hx hb huX2 (fun _ h9 => h9) hown hK hP 1 rfl rfl 6 (by decide) w175 (fun _ h9 => h9) rfl dX5_goBack_43 ?_
  have hu := Sum.inr.inj (Option.some.inj h)
  exact W.iret (v := g_X2_steps v4) hx hb hr (fun t ht hW => ⟨⟨congrArg (fun z => Outcome.returned (some (Value.int z.1))) hu, by rw [ht, ← hu]; exact hP⟩, hS.F ht⟩) hS.2.2 dX5_goBack_46

set_option maxHeartbeats 4000000 in
set_option maxRecDepth 100000 in
theorem c_X5_goBack_x (l : Launch) (hfl : l.stackTraces = false) (dC : Nat → ClassId) (dI : Nat → Nat → Nat) (cI cF : ClassId) (a : Nat → Nat) (S : S_X5) (u : Nat × S_X5) (h : m_X5_goBack S = some (.inl u)) : ∀ sz : Nat, vx_Met l yX5_goBack wsX5_goBack ({ frames := 6, cells := 1, slots := 6, locals := 124 } : Room) (va_Pc [.ref (a 0)] (pRWe (dC, dI) cI cF (wX5 a cI cF S) sz)) (fun _ _ _ _ => False) (qX (dC, dI) (wX5 a cI cF u.2) (xnm u.1) (va_A (wX5 a cI cF S) sz)) 1 6 (va_A (wX5 a cI cF S) sz) := by
  intro sz
  refine vx_ofW (cc := cX5_goBack) (maxL := 1) (ret := (some .int)) (by decide) rfl ?_
  intro p e s m args below meth c s₁ B hml hnx hv
  obtain ⟨hargs, ⟨hsz, hP, hK, hD0⟩, hE⟩ := hv
  subst hargs
  have hx := B.exec
  have hb := B.bytes
  have hr := B.returns
  have hts := atoms_spec (ws := wsX5_goBack) B.pre
  have hown : s.vm.findClass RX5 = some m.cls := findClass_of_methodNamed B.named
  have hlocks := B.notSynchronized
  have w10 := hts (.fieldLink RX5 10 "DrawnSlivers" "frame" "LDrawnSlivers$Frame;") (List.mem_of_getElem? (i := 5) rfl)
  have w16 := hts (.fieldLink RX5 16 "DrawnSlivers" "snapshot" "LDrawnSlivers$Frame;") (List.mem_of_getElem? (i := 6) rfl)
  have w172 := hts (.methodLink RX5 172 yX2_copyFrom) (List.mem_of_getElem? (i := 63) rfl)
  have w175 := hts (.fieldLink RX5 175 "DrawnSlivers$Frame" "steps" "I") (List.mem_of_getElem? (i := 7) rfl)
  have w25 := hts (.fieldLink RX5 25 "DrawnSlivers" "history" "LDrawnSlivers$History;") (List.mem_of_getElem? (i := 4) rfl)
  have w36 := hts (.fieldLink RX5 36 "DrawnSlivers" "hasSnapshot" "Z") (List.mem_of_getElem? (i := 3) rfl)
  have w74 := hts (.classLink RX5 74 "java/lang/IllegalStateException") (List.mem_of_getElem? (i := 1) rfl)
  have w79 := hts (.methodLink RX5 79 yX3_save) (List.mem_of_getElem? (i := 8) rfl)
  have wix3 := hts (.initialized "java/lang/IllegalStateException") (List.mem_of_getElem? (i := 2) rfl)
  have huX2 : ∀ w ∈ u_ws RX2 TX2 12, w.before _ s = true := fun w h => hts w (List.mem_cons_of_mem _ (List.mem_append_left _ (List.mem_append_left _ (List.mem_append_left _ (List.mem_append_left _ (List.mem_append_right _ (h)))))))
  have huX5 : ∀ w ∈ u_ws RX5 TX5 6, w.before _ s = true := fun w h => hts w (List.mem_cons_of_mem _ (List.mem_append_left _ (List.mem_append_left _ (List.mem_append_left _ (List.mem_append_left _ (List.mem_append_left _ (List.mem_append_right _ (h))))))))
  subst hsz
  have hD := hD0.self (sz := s.heap.size)
  generalize hAe : va_A (wX5 a cI cF S) s.heap.size = A at hD hE ⊢
  have hA : ∀ q : Nat, s.heap.size ≤ q → A q := fun q h => by rw [← hAe]; exact Or.inr h
  have hS : va_S A s.heap s.heap [] := va_S.rf
  have hl := lv_entry ([.ref (a 0)]) (n := 1) (Nat.le_of_ble_eq_true rfl)
  rw [lg_entry_eq]
  generalize (lg_sl ([.ref (a 0)]) ++ List.replicate (1 - (lg_sl ([.ref (a 0)])).length) Slot.unset).toArray = ls at hl ⊢
  have hl : lv_has ls 1 [(0, .ref (a 0))] := hl
  rw [m_X5_goBack] at h
  refine lv_aload_n hx hb dX5_goBack_0 rfl (lv_at hl 0 rfl) ?_
  refine va_get (D := (dC, dI)) (ci := 5) (v := .int (g_X5_hasSnapshot S)) (C := RX5) (T := TX5) (N := 6) hx hb huX5 (fun _ h9 => h9) hown hK hP 0 rfl rfl 5 (by decide) w36 (fun _ h9 => h9) rfl dX5_goBack_1 ?_
  refine lv_if_ne (tgt := 17) hx hb dX5_goBack_4 (by decide) (fun c1 => ?_) (fun c1 => ?_)
  rotate_left
  · have h := o_t h c1
    have hu := Sum.inl.inj (Option.some.inj h)
    obtain ⟨sa, hsa⟩ := hE.2.1 (178, "there is no snapshot") (by decide)
    exact vx_throwS (own := RX5) (cls := "java/lang/IllegalStateException") (text := "there is no snapshot") (names := ["java/lang/RuntimeException", "java/lang/Exception"]) (ik := 74) (is := 178) (ic := 78) (sa := sa) (A := A) hx hb hfl hown (by decide +kernel) (by decide +kernel) w74 wix3 hsa (vx_hat (fun w h => hts w (List.mem_cons_of_mem _ (List.mem_append_right _ (h)))) (B := xW) (by decide +kernel) (fun w h => va_Nw.use (xW_ot w h) (hE.2.2.1 w h))) (by decide +kernel) hE.1.1 hE.1.2 hS (by rw [hml]; exact hl.1) dX5_goBack_7 dX5_goBack_10 dX5_goBack_11 dX5_goBack_13 dX5_goBack_16 (fun z hz => (hnx z hz).elim) (Nat.le_of_ble_eq_true rfl) (Nat.le_of_ble_eq_true rfl) (Nat.le_of_ble_eq_true rfl) (Nat.le_of_ble_eq_true rfl) hlocks (fun t hv hz hq => ⟨⟨by rw [← hu]; rfl, by rw [← hu]; exact k_Pkeep hP hq⟩, k_Fkeep hS hz hq⟩) hS.2.2 (Nat.le_refl _) (Nat.le_refl _)
  have h := o_f h c1
  refine lv_aload_n hx hb dX5_goBack_17 rfl (lv_at hl 0 rfl) ?_
  refine va_get (D := (dC, dI)) (ci := 5) (v := .ref (a 26)) (C := RX5) (T := TX5) (N := 6) hx hb huX5 (fun _ h9 => h9) hown hK hP 0 rfl rfl 3 (by decide) w25 (fun _ h9 => h9) rfl dX5_goBack_18 ?_
  refine lv_aload_n hx hb dX5_goBack_21 rfl (lv_at hl 0 rfl) ?_
  refine va_get (D := (dC, dI)) (ci := 5) (v := .ref (a 1)) (C := RX5) (T := TX5) (N := 6) hx hb huX5 (fun _ h9 => h9) hown hK hP 0 rfl rfl 0 (by decide) w10 (fun _ h9 => h9) rfl dX5_goBack_22 ?_
  obtain ⟨v2, g3, h⟩ := o_b h
  refine k_rwL (va_runV (As := [.ref (a 1)]) (rest := []) ⟨hx, hb, hml, hown, hts⟩ (c_X3_save l dC dI cI cF (fun i => a (i + 26)) (fun i => a (i + 1)) (g_X5_history S) (g_X5_frame S) v2 g3 s.heap.size) (cwV 1 hts gX5_goBack_X3_save rfl rfl rfl (by decide +kernel) ⟨Nat.le_of_ble_eq_true rfl, Nat.le_of_ble_eq_true rfl⟩) (k_preLw (q0 := 0) (ci := 3) hK hP hD (LN_sw (LX5_frame_history a cI cF S (g_X5_frame S) v2)) rfl rfl rfl) rfl rfl hl.1 rfl (lv_room (Nat.le_of_ble_eq_true rfl)) dX5_goBack_25 ⟨Nat.zero_le _, Nat.zero_le _⟩) (st1 := []) rfl hP hD hS hA (wn := wX5 a cI cF (s_X5_history S v2)) (LN_sw (LX5_frame_history a cI cF S (g_X5_frame S) v2)) (fun H locs hP hD hS => ?_)
  refine lv_aload_n hx hb dX5_goBack_28 rfl (lv_at hl 0 rfl) ?_
  refine va_get (D := (dC, dI)) (ci := 5) (v := .ref (a 1)) (C := RX5) (T := TX5) (N := 6) hx hb huX5 (fun _ h9 => h9) hown hK hP 0 rfl rfl 0 (by decide) w10 (fun _ h9 => h9) rfl dX5_goBack_29 ?_
  refine lv_aload_n hx hb dX5_goBack_32 rfl (lv_at hl 0 rfl) ?_
  refine va_get (D := (dC, dI)) (ci := 5) (v := .ref (a 8)) (C := RX5) (T := TX5) (N := 6) hx hb huX5 (fun _ h9 => h9) hown hK hP 0 rfl rfl 1 (by decide) w16 (fun _ h9 => h9) rfl dX5_goBack_33 ?_
  obtain ⟨v4, g5, h⟩ := o_b h
  refine k_rwL (va_runV (As := [.ref (a 8)]) (rest := []) ⟨hx, hb, hml, hown, hts⟩ (c_X2_copyFrom l dC dI cI cF (fun i => a (i + 1)) (fun i => a (i + 8)) (g_X5_frame S) (g_X5_snapshot S) v4 g5 H.size) (cwV 1 hts gX5_goBack_X2_copyFrom rfl rfl rfl (by decide +kernel) ⟨Nat.le_of_ble_eq_true rfl, Nat.le_of_ble_eq_true rfl⟩) (k_preLw (q0 := 0) (ci := 2) hK hP hD (LX5_frame_snapshot a cI cF (s_X5_history S v2) v4 (g_X5_snapshot S)) rfl rfl rfl) rfl rfl hl.1 rfl (lv_room (Nat.le_of_ble_eq_true rfl)) dX5_goBack_36 ⟨Nat.zero_le _, Nat.zero_le _⟩) (st1 := []) rfl hP hD hS hA (wn := wX5 a cI cF (s_X5_history (s_X5_frame S v4) v2)) (LX5_frame_snapshot a cI cF (s_X5_history S v2) v4 (g_X5_snapshot S)) (fun H locs hP hD hS => ?_)
  refine lv_aload_n hx hb dX5_goBack_39 rfl (lv_at hl 0 rfl) ?_
  refine va_get (D := (dC, dI)) (ci := 5) (v := .ref (a 1)) (C := RX5) (T := TX5) (N := 6) hx hb huX5 (fun _ h9 => h9) hown hK hP 0 rfl rfl 0 (by decide) w10 (fun _ h9 => h9) rfl dX5_goBack_40 ?_
  refine va_get (D := (dC, dI)) (ci := 2) (v := .int (g_X2_steps v4)) (C := RX2) (T := TX2) (N := 12) hx hb huX2 (fun _ h9 => h9) hown hK hP 1 rfl rfl 6 (by decide) w175 (fun _ h9 => h9) rfl dX5_goBack_43 ?_
  cases h

def m_X5_undo (S : S_X5) : Option ((Nat × S_X5) ⊕ (Int32 × S_X5)) := (m_X3_savedCount (g_X5_history S)).bind fun v1 => (if v1 = 0 then (some (.inl (3, S))) else ((m_X3_restore (g_X5_history S) (g_X5_frame S)).bind fun v4 => ((m_X3_savedCount v4.1).bind fun v6 => (some (.inr (v6, s_X5_history (s_X5_frame S v4.2) v4.1))))))
set_option maxHeartbeats 4000000 in
set_option maxRecDepth 100000 in
theorem c_X5_undo (l : Launch) (dC : Nat → ClassId) (dI : Nat → Nat → Nat) (cI cF : ClassId) (a : Nat → Nat) (S : S_X5) (u : Int32 × S_X5) (h : m_X5_undo S = some (.inr u)) : cRW l (dC, dI) cI cF yX5_undo wsX5_undo ({ frames := 4, cells := 0, slots := 0, locals := 124 } : Room) [.ref (a 0)] (wX5 a cI cF S) (wX5 a cI cF u.2) (some (.int u.1)) := by
  intro sz
  refine Met.ofW (cc := cX5_undo) (maxL := 1) (ret := (some .int)) (by decide) rfl ?_
  intro p e s m args below meth c s₁ B hml hv
  obtain ⟨hargs, hsz, hP, hK, hD0⟩ := hv
  subst hargs
  have hx := B.exec
  have hb := B.bytes
  have hr := B.returns
  have hts := atoms_spec (ws := wsX5_undo) B.pre
  have hown : s.vm.findClass RX5 = some m.cls := findClass_of_methodNamed B.named
  have hlocks := B.notSynchronized
  have w10 := hts (.fieldLink RX5 10 "DrawnSlivers" "frame" "LDrawnSlivers$Frame;") (List.mem_of_getElem? (i := 4) rfl)
  have w180 := hts (.methodLink RX5 180 yX3_savedCount) (List.mem_of_getElem? (i := 5) rfl)
  have w185 := hts (.methodLink RX5 185 yX3_restore) (List.mem_of_getElem? (i := 11) rfl)
  have w25 := hts (.fieldLink RX5 25 "DrawnSlivers" "history" "LDrawnSlivers$History;") (List.mem_of_getElem? (i := 3) rfl)
  have huX5 : ∀ w ∈ u_ws RX5 TX5 6, w.before _ s = true := fun w h => hts w (List.mem_cons_of_mem _ (List.mem_append_left _ (List.mem_append_left _ (List.mem_append_left _ (List.mem_append_left _ (List.mem_append_left _ (List.mem_append_right _ (h))))))))
  subst hsz
  have hD := hD0.self (sz := s.heap.size)
  generalize hAe : va_A (wX5 a cI cF S) s.heap.size = A at hD ⊢
  have hA : ∀ q : Nat, s.heap.size ≤ q → A q := fun q h => by rw [← hAe]; exact Or.inr h
  have hS : va_S A s.heap s.heap [] := va_S.rf
  have hl := lv_entry ([.ref (a 0)]) (n := 1) (Nat.le_of_ble_eq_true rfl)
  rw [lg_entry_eq]
  generalize (lg_sl ([.ref (a 0)]) ++ List.replicate (1 - (lg_sl ([.ref (a 0)])).length) Slot.unset).toArray = ls at hl ⊢
  have hl : lv_has ls 1 [(0, .ref (a 0))] := hl
  rw [m_X5_undo] at h
  refine lv_aload_n hx hb dX5_undo_0 rfl (lv_at hl 0 rfl) ?_
  refine va_get (D := (dC, dI)) (ci := 5) (v := .ref (a 26)) (C := RX5) (T := TX5) (N := 6) hx hb huX5 (fun _ h9 => h9) hown hK hP 0 rfl rfl 3 (by decide) w25 (fun _ h9 => h9) rfl dX5_undo_1 ?_
  obtain ⟨v1, g2, h⟩ := o_b h
  refine k_ro (va_runV (As := []) (rest := []) ⟨hx, hb, hml, hown, hts⟩ (c_X3_savedCount l dC dI cI cF (fun i => a (i + 26)) (g_X5_history S) v1 g2) (cwV 0 hts gX5_undo_X3_savedCount rfl rfl rfl (by decide +kernel) ⟨Nat.le_of_ble_eq_true rfl, Nat.le_of_ble_eq_true rfl⟩) (k_preL (q0 := 0) (ci := 3) hK hP (LX5_history a cI cF S (g_X5_history S) (LN_id (fX3 (fun i => a (i + 26)) cI cF (g_X5_history S) (g_X5_history S)))) rfl rfl rfl) rfl rfl hl.1 rfl (lv_room (Nat.le_of_ble_eq_true rfl)) dX5_undo_4 ⟨Nat.zero_le _, Nat.zero_le _⟩) (st1 := [.int v1]) rfl ?_
  refine lv_if_ne (tgt := 20) hx hb dX5_undo_7 (by decide) (fun c3 => ?_) (fun c3 => ?_)
  rotate_left
  · have h := o_t h c3
    cases h
  have h := o_f h c3
  refine lv_aload_n hx hb dX5_undo_20 rfl (lv_at hl 0 rfl) ?_
  refine va_get (D := (dC, dI)) (ci := 5) (v := .ref (a 26)) (C := RX5) (T := TX5) (N := 6) hx hb huX5 (fun _ h9 => h9) hown hK hP 0 rfl rfl 3 (by decide) w25 (fun _ h9 => h9) rfl dX5_undo_21 ?_
  refine lv_aload_n hx hb dX5_undo_24 rfl (lv_at hl 0 rfl) ?_
  refine va_get (D := (dC, dI)) (ci := 5) (v := .ref (a 1)) (C := RX5) (T := TX5) (N := 6) hx hb huX5 (fun _ h9 => h9) hown hK hP 0 rfl rfl 0 (by decide) w10 (fun _ h9 => h9) rfl dX5_undo_25 ?_
  obtain ⟨v4, g5, h⟩ := o_b h
  refine k_rwL (va_runV (As := [.ref (a 1)]) (rest := []) ⟨hx, hb, hml, hown, hts⟩ (c_X3_restore l dC dI cI cF (fun i => a (i + 26)) (fun i => a (i + 1)) (g_X5_history S) (g_X5_frame S) v4 g5 s.heap.size) (cwV 1 hts gX5_undo_X3_restore rfl rfl rfl (by decide +kernel) ⟨Nat.le_of_ble_eq_true rfl, Nat.le_of_ble_eq_true rfl⟩) (k_preLw (q0 := 0) (ci := 3) hK hP hD (LN_sw (LX5_frame_history a cI cF S v4.2 v4.1)) rfl rfl rfl) rfl rfl hl.1 rfl (lv_room (Nat.le_of_ble_eq_true rfl)) dX5_undo_28 ⟨Nat.zero_le _, Nat.zero_le _⟩) (st1 := []) rfl hP hD hS hA (wn := wX5 a cI cF (s_X5_history (s_X5_frame S v4.2) v4.1)) (LN_sw (LX5_frame_history a cI cF S v4.2 v4.1)) (fun H locs hP hD hS => ?_)
  refine lv_aload_n hx hb dX5_undo_31 rfl (lv_at hl 0 rfl) ?_
  refine va_get (D := (dC, dI)) (ci := 5) (v := .ref (a 26)) (C := RX5) (T := TX5) (N := 6) hx hb huX5 (fun _ h9 => h9) hown hK hP 0 rfl rfl 3 (by decide) w25 (fun _ h9 => h9) rfl dX5_undo_32 ?_
  obtain ⟨v6, g7, h⟩ := o_b h
  refine k_ro (va_runV (As := []) (rest := []) ⟨hx, hb, hml, hown, hts⟩ (c_X3_savedCount l dC dI cI cF (fun i => a (i + 26)) v4.1 v6 g7) (cwV 0 hts gX5_undo_X3_savedCount rfl rfl rfl (by decide +kernel) ⟨Nat.le_of_ble_eq_true rfl, Nat.le_of_ble_eq_true rfl⟩) (k_preL (q0 := 0) (ci := 3) hK hP (LX5_history a cI cF (s_X5_history (s_X5_frame S v4.2) v4.1) v4.1 (LN_id (fX3 (fun i => a (i + 26)) cI cF v4.1 v4.1))) rfl rfl rfl) rfl rfl hl.1 rfl (lv_room (Nat.le_of_ble_eq_true rfl)) dX5_undo_35 ⟨Nat.zero_le _, Nat.zero_le _⟩) (st1 := [.int v6]) rfl ?_
  have hu := Sum.inr.inj (Option.some.inj h)
  exact W.iret (v := v6) hx hb hr (fun t ht hW => ⟨⟨congrArg (fun z => Outcome.returned (some (Value.int z.1))) hu, by rw [ht, ← hu]; exact hP⟩, hS.F ht⟩) hS.2.2 dX5_undo_38

set_option maxHeartbeats 4000000 in
set_option maxRecDepth 100000 in
theorem c_X5_undo_x (l : Launch) (hfl : l.stackTraces = false) (dC : Nat → ClassId) (dI : Nat → Nat → Nat) (cI cF : ClassId) (a : Nat → Nat) (S : S_X5) (u : Nat × S_X5) (h : m_X5_undo S = some (.inl u)) : ∀ sz : Nat, vx_Met l yX5_undo wsX5_undo ({ frames := 6, cells := 1, slots := 6, locals := 124 } : Room) (va_Pc [.ref (a 0)] (pRWe (dC, dI) cI cF (wX5 a cI cF S) sz)) (fun _ _ _ _ => False) (qX (dC, dI) (wX5 a cI cF u.2) (xnm u.1) (va_A (wX5 a cI cF S) sz)) 1 6 (va_A (wX5 a cI cF S) sz) := by
  intro sz
  refine vx_ofW (cc := cX5_undo) (maxL := 1) (ret := (some .int)) (by decide) rfl ?_
  intro p e s m args below meth c s₁ B hml hnx hv
  obtain ⟨hargs, ⟨hsz, hP, hK, hD0⟩, hE⟩ := hv
  subst hargs
  have hx := B.exec
  have hb := B.bytes
  have hr := B.returns
  have hts := atoms_spec (ws := wsX5_undo) B.pre
  have hown : s.vm.findClass RX5 = some m.cls := findClass_of_methodNamed B.named
  have hlocks := B.notSynchronized
  have w10 := hts (.fieldLink RX5 10 "DrawnSlivers" "frame" "LDrawnSlivers$Frame;") (List.mem_of_getElem? (i := 4) rfl)
  have w180 := hts (.methodLink RX5 180 yX3_savedCount) (List.mem_of_getElem? (i := 5) rfl)
  have w185 := hts (.methodLink RX5 185 yX3_restore) (List.mem_of_getElem? (i := 11) rfl)
  have w25 := hts (.fieldLink RX5 25 "DrawnSlivers" "history" "LDrawnSlivers$History;") (List.mem_of_getElem? (i := 3) rfl)
  have w74 := hts (.classLink RX5 74 "java/lang/IllegalStateException") (List.mem_of_getElem? (i := 1) rfl)
  have wix3 := hts (.initialized "java/lang/IllegalStateException") (List.mem_of_getElem? (i := 2) rfl)
  have huX5 : ∀ w ∈ u_ws RX5 TX5 6, w.before _ s = true := fun w h => hts w (List.mem_cons_of_mem _ (List.mem_append_left _ (List.mem_append_left _ (List.mem_append_left _ (List.mem_append_left _ (List.mem_append_left _ (List.mem_append_right _ (h))))))))
  subst hsz
  have hD := hD0.self (sz := s.heap.size)
  generalize hAe : va_A (wX5 a cI cF S) s.heap.size = A at hD hE ⊢
  have hA : ∀ q : Nat, s.heap.size ≤ q → A q := fun q h => by rw [← hAe]; exact Or.inr h
  have hS : va_S A s.heap s.heap [] := va_S.rf
  have hl := lv_entry ([.ref (a 0)]) (n := 1) (Nat.le_of_ble_eq_true rfl)
  rw [lg_entry_eq]
  generalize (lg_sl ([.ref (a 0)]) ++ List.replicate (1 - (lg_sl ([.ref (a 0)])).length) Slot.unset).toArray = ls at hl ⊢
  have hl : lv_has ls 1 [(0, .ref (a 0))] := hl
  rw [m_X5_undo] at h
  refine lv_aload_n hx hb dX5_undo_0 rfl (lv_at hl 0 rfl) ?_
  refine va_get (D := (dC, dI)) (ci := 5) (v := .ref (a 26)) (C := RX5) (T := TX5) (N := 6) hx hb huX5 (fun _ h9 => h9) hown hK hP 0 rfl rfl 3 (by decide) w25 (fun _ h9 => h9) rfl dX5_undo_1 ?_
  obtain ⟨v1, g2, h⟩ := o_b h
  refine k_ro (va_runV (As := []) (rest := []) ⟨hx, hb, hml, hown, hts⟩ (c_X3_savedCount l dC dI cI cF (fun i => a (i + 26)) (g_X5_history S) v1 g2) (cwV 0 hts gX5_undo_X3_savedCount rfl rfl rfl (by decide +kernel) ⟨Nat.le_of_ble_eq_true rfl, Nat.le_of_ble_eq_true rfl⟩) (k_preL (q0 := 0) (ci := 3) hK hP (LX5_history a cI cF S (g_X5_history S) (LN_id (fX3 (fun i => a (i + 26)) cI cF (g_X5_history S) (g_X5_history S)))) rfl rfl rfl) rfl rfl hl.1 rfl (lv_room (Nat.le_of_ble_eq_true rfl)) dX5_undo_4 ⟨Nat.zero_le _, Nat.zero_le _⟩) (st1 := [.int v1]) rfl ?_
  refine lv_if_ne (tgt := 20) hx hb dX5_undo_7 (by decide) (fun c3 => ?_) (fun c3 => ?_)
  rotate_left
  · have h := o_t h c3
    have hu := Sum.inl.inj (Option.some.inj h)
    obtain ⟨sa, hsa⟩ := hE.2.1 (183, "there is no saved state") (by decide)
    exact vx_throwS (own := RX5) (cls := "java/lang/IllegalStateException") (text := "there is no saved state") (names := ["java/lang/RuntimeException", "java/lang/Exception"]) (ik := 74) (is := 183) (ic := 78) (sa := sa) (A := A) hx hb hfl hown (by decide +kernel) (by decide +kernel) w74 wix3 hsa (vx_hat (fun w h => hts w (List.mem_cons_of_mem _ (List.mem_append_right _ (h)))) (B := xW) (by decide +kernel) (fun w h => va_Nw.use (xW_ot w h) (hE.2.2.1 w h))) (by decide +kernel) hE.1.1 hE.1.2 hS (by rw [hml]; exact hl.1) dX5_undo_10 dX5_undo_13 dX5_undo_14 dX5_undo_16 dX5_undo_19 (fun z hz => (hnx z hz).elim) (Nat.le_of_ble_eq_true rfl) (Nat.le_of_ble_eq_true rfl) (Nat.le_of_ble_eq_true rfl) (Nat.le_of_ble_eq_true rfl) hlocks (fun t hv hz hq => ⟨⟨by rw [← hu]; rfl, by rw [← hu]; exact k_Pkeep hP hq⟩, k_Fkeep hS hz hq⟩) hS.2.2 (Nat.le_refl _) (Nat.le_refl _)
  have h := o_f h c3
  refine lv_aload_n hx hb dX5_undo_20 rfl (lv_at hl 0 rfl) ?_
  refine va_get (D := (dC, dI)) (ci := 5) (v := .ref (a 26)) (C := RX5) (T := TX5) (N := 6) hx hb huX5 (fun _ h9 => h9) hown hK hP 0 rfl rfl 3 (by decide) w25 (fun _ h9 => h9) rfl dX5_undo_21 ?_
  refine lv_aload_n hx hb dX5_undo_24 rfl (lv_at hl 0 rfl) ?_
  refine va_get (D := (dC, dI)) (ci := 5) (v := .ref (a 1)) (C := RX5) (T := TX5) (N := 6) hx hb huX5 (fun _ h9 => h9) hown hK hP 0 rfl rfl 0 (by decide) w10 (fun _ h9 => h9) rfl dX5_undo_25 ?_
  obtain ⟨v4, g5, h⟩ := o_b h
  refine k_rwL (va_runV (As := [.ref (a 1)]) (rest := []) ⟨hx, hb, hml, hown, hts⟩ (c_X3_restore l dC dI cI cF (fun i => a (i + 26)) (fun i => a (i + 1)) (g_X5_history S) (g_X5_frame S) v4 g5 s.heap.size) (cwV 1 hts gX5_undo_X3_restore rfl rfl rfl (by decide +kernel) ⟨Nat.le_of_ble_eq_true rfl, Nat.le_of_ble_eq_true rfl⟩) (k_preLw (q0 := 0) (ci := 3) hK hP hD (LN_sw (LX5_frame_history a cI cF S v4.2 v4.1)) rfl rfl rfl) rfl rfl hl.1 rfl (lv_room (Nat.le_of_ble_eq_true rfl)) dX5_undo_28 ⟨Nat.zero_le _, Nat.zero_le _⟩) (st1 := []) rfl hP hD hS hA (wn := wX5 a cI cF (s_X5_history (s_X5_frame S v4.2) v4.1)) (LN_sw (LX5_frame_history a cI cF S v4.2 v4.1)) (fun H locs hP hD hS => ?_)
  refine lv_aload_n hx hb dX5_undo_31 rfl (lv_at hl 0 rfl) ?_
  refine va_get (D := (dC, dI)) (ci := 5) (v := .ref (a 26)) (C := RX5) (T := TX5) (N := 6) hx hb huX5 (fun _ h9 => h9) hown hK hP 0 rfl rfl 3 (by decide) w25 (fun _ h9 => h9) rfl dX5_undo_32 ?_
  obtain ⟨v6, g7, h⟩ := o_b h
  refine k_ro (va_runV (As := []) (rest := []) ⟨hx, hb, hml, hown, hts⟩ (c_X3_savedCount l dC dI cI cF (fun i => a (i + 26)) v4.1 v6 g7) (cwV 0 hts gX5_undo_X3_savedCount rfl rfl rfl (by decide +kernel) ⟨Nat.le_of_ble_eq_true rfl, Nat.le_of_ble_eq_true rfl⟩) (k_preL (q0 := 0) (ci := 3) hK hP (LX5_history a cI cF (s_X5_history (s_X5_frame S v4.2) v4.1) v4.1 (LN_id (fX3 (fun i => a (i + 26)) cI cF v4.1 v4.1))) rfl rfl rfl) rfl rfl hl.1 rfl (lv_room (Nat.le_of_ble_eq_true rfl)) dX5_undo_35 ⟨Nat.zero_le _, Nat.zero_le _⟩) (st1 := [.int v6]) rfl ?_
  cases h

