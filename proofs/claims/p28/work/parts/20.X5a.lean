-- X5_feed X5_clear X5_append X5_clearBuffer X5_undo X5_feeler X5_count X5_why X5_bestFeed X5_wasteShare X5_isCan X5_isSetting
def m_X5_feed (S : S_X5) (x1 : Int32) : Option ((Nat × S_X5) ⊕ (Int32 × S_X5)) := if x1 < 0 then (some (.inl (2, S))) else (if x1 < (256 : Int32) then ((m_X3_save (g_X5_history S) (g_X5_frame S)).bind fun v3 => (nmL (g_X2_fed (g_X5_frame S)) fun x2_5 => (if x1 = x2_5 then (some (.inr (x2_5, s_X5_history (s_X5_frame S (s_X2_fed (g_X5_frame S) x1)) v3))) else ((m_X1_forget (g_X2_feeler (g_X5_frame S))).bind fun v8 => (some (.inr (x2_5, s_X5_history (s_X5_frame S (s_X2_fed (s_X2_feeler (g_X5_frame S) v8) x1)) v3))))))) else (some (.inl (2, S))))
set_option maxHeartbeats 4000000 in
set_option maxRecDepth 100000 in
theorem c_X5_feed (l : Launch) (dC : Nat → ClassId) (dI : Nat → Nat → Nat) (cI cF : ClassId) (a : Nat → Nat) (S : S_X5) (x1 : Int32) (u : Int32 × S_X5) (h : m_X5_feed S x1 = some (.inr u)) : cRW l (dC, dI) cI cF yX5_feed wsX5_feed ({ frames := 4, cells := 0, slots := 0, locals := 124 } : Room) [.ref (a 0), .int x1] (wX5 a cI cF S) (wX5 a cI cF u.2) (some (.int u.1)) := by
  intro sz
  refine Met.ofW (cc := cX5_feed) (maxL := 3) (ret := (some .int)) (by decide) rfl ?_
  intro p e s m args below meth c s₁ B hml hv
  obtain ⟨hargs, hsz, hP, hK, hD0⟩ := hv
  subst hargs
  have hx := B.exec
  have hb := B.bytes
  have hr := B.returns
  have hts := atoms_spec (ws := wsX5_feed) B.pre
  have hown : s.vm.findClass RX5 = some m.cls := findClass_of_methodNamed B.named
  have hlocks := B.notSynchronized
  have w10 := hts (.fieldLink RX5 10 "DrawnSlivers" "frame" "LDrawnSlivers$Frame;") (List.mem_of_getElem? (i := 4) rfl)
  have w112 := hts (.fieldLink RX5 112 "DrawnSlivers$Frame" "fed" "I") (List.mem_of_getElem? (i := 5) rfl)
  have w115 := hts (.fieldLink RX5 115 "DrawnSlivers$Frame" "feeler" "LDrawnSlivers$Feeler;") (List.mem_of_getElem? (i := 6) rfl)
  have w119 := hts (.methodLink RX5 119 yX1_forget) (List.mem_of_getElem? (i := 62) rfl)
  have w25 := hts (.fieldLink RX5 25 "DrawnSlivers" "history" "LDrawnSlivers$History;") (List.mem_of_getElem? (i := 3) rfl)
  have w79 := hts (.methodLink RX5 79 yX3_save) (List.mem_of_getElem? (i := 7) rfl)
  have huX2 : ∀ w ∈ u_ws RX2 TX2 12, w.before _ s = true := fun w h => hts w (List.mem_cons_of_mem _ (List.mem_append_left _ (List.mem_append_left _ (List.mem_append_left _ (List.mem_append_left _ (List.mem_append_right _ (h)))))))
  have huX5 : ∀ w ∈ u_ws RX5 TX5 6, w.before _ s = true := fun w h => hts w (List.mem_cons_of_mem _ (List.mem_append_left _ (List.mem_append_left _ (List.mem_append_left _ (List.mem_append_left _ (List.mem_append_left _ (List.mem_append_right _ (h))))))))
  subst hsz
  have hD := hD0.self (sz := s.heap.size)
  generalize hAe : va_A (wX5 a cI cF S) s.heap.size = A at hD ⊢
  have hA : ∀ q : Nat, s.heap.size ≤ q → A q := fun q h => by rw [← hAe]; exact Or.inr h
  have hS : va_S A s.heap s.heap [] := va_S.rf
  have hl := lv_entry ([.ref (a 0), .int x1]) (n := 3) (Nat.le_of_ble_eq_true rfl)
  rw [lg_entry_eq]
  generalize (lg_sl ([.ref (a 0), .int x1]) ++ List.replicate (3 - (lg_sl ([.ref (a 0), .int x1])).length) Slot.unset).toArray = ls at hl ⊢
  have hl : lv_has ls 3 [(0, .ref (a 0)), (1, .int x1)] := hl
  rw [m_X5_feed] at h
  refine lv_iload_n hx hb dX5_feed_0 rfl (lv_at hl 1 rfl) ?_
  refine lv_if_lt (tgt := 11) hx hb dX5_feed_1 (by decide) (fun c1 => ?_) (fun c1 => ?_)
  · have h := o_t h c1
    cases h
  have h := o_f h c1
  refine lv_iload_n hx hb dX5_feed_4 rfl (lv_at hl 1 rfl) ?_
  refine lv_sipush (v := (256 : Int32)) hx hb dX5_feed_5 (by decide) ?_
  refine lv_icmp_lt (tgt := 21) hx hb dX5_feed_8 (by decide) (fun c2 => ?_) (fun c2 => ?_)
  rotate_left
  · have h := o_f h c2
    cases h
  have h := o_t h c2
  refine lv_aload_n hx hb dX5_feed_21 rfl (lv_at hl 0 rfl) ?_
  refine va_get (D := (dC, dI)) (ci := 5) (v := .ref (a 26)) (C := RX5) (T := TX5) (N := 6) hx hb huX5 (fun _ h9 => h9) hown hK hP 0 rfl rfl 3 (by decide) w25 (fun _ h9 => h9) rfl dX5_feed_22 ?_
  refine lv_aload_n hx hb dX5_feed_25 rfl (lv_at hl 0 rfl) ?_
  refine va_get (D := (dC, dI)) (ci := 5) (v := .ref (a 1)) (C := RX5) (T := TX5) (N := 6) hx hb huX5 (fun _ h9 => h9) hown hK hP 0 rfl rfl 0 (by decide) w10 (fun _ h9 => h9) rfl dX5_feed_26 ?_
  obtain ⟨v3, g4, h⟩ := o_b h
  refine k_rwL (va_runV (As := [.ref (a 1)]) (rest := []) ⟨hx, hb, hml, hown, hts⟩ (c_X3_save l dC dI cI cF (fun i => a (i + 26)) (fun i => a (i + 1)) (g_X5_history S) (g_X5_frame S) v3 g4 s.heap.size) (cwV 1 hts gX5_feed_X3_save rfl rfl rfl (by decide +kernel) ⟨Nat.le_of_ble_eq_true rfl, Nat.le_of_ble_eq_true rfl⟩) (k_preLw (q0 := 0) (ci := 3) hK hP hD (LN_sw (LX5_frame_history a cI cF S (g_X5_frame S) v3)) rfl rfl rfl) rfl rfl hl.1 rfl (lv_room (Nat.le_of_ble_eq_true rfl)) dX5_feed_29 ⟨Nat.zero_le _, Nat.zero_le _⟩) (st1 := []) rfl hP hD hS hA (wn := wX5 a cI cF (s_X5_history S v3)) (LN_sw (LX5_frame_history a cI cF S (g_X5_frame S) v3)) (fun H locs hP hD hS => ?_)
  refine lv_aload_n hx hb dX5_feed_32 rfl (lv_at hl 0 rfl) ?_
  refine va_get (D := (dC, dI)) (ci := 5) (v := .ref (a 1)) (C := RX5) (T := TX5) (N := 6) hx hb huX5 (fun _ h9 => h9) hown hK hP 0 rfl rfl 0 (by decide) w10 (fun _ h9 => h9) rfl dX5_feed_33 ?_
  refine va_get (D := (dC, dI)) (ci := 2) (v := .int (g_X2_fed (g_X5_frame S))) (C := RX2) (T := TX2) (N := 12) hx hb huX2 (fun _ h9 => h9) hown hK hP 1 rfl rfl 3 (by decide) w112 (fun _ h9 => h9) rfl dX5_feed_36 ?_
  obtain ⟨x2_5, e6, h⟩ := o_n h
  refine lv_nmi e6 ?_
  refine lv_istore_n (lv' := [(2, .int x2_5), (0, .ref (a 0)), (1, .int x1)]) hx hb dX5_feed_39 rfl hl (by decide) rfl (fun ls hl => ?_)
  refine lv_iload_n hx hb dX5_feed_40 rfl (lv_at hl 2 rfl) ?_
  refine lv_iload_n hx hb dX5_feed_41 rfl (lv_at hl 0 rfl) ?_
  refine lv_icmp_eq (tgt := 55) hx hb dX5_feed_42 (by decide) (fun c7 => ?_) (fun c7 => ?_)
  · have h := o_t h c7
    refine lv_aload_n hx hb dX5_feed_55 rfl (lv_at hl 1 rfl) ?_
    refine va_get (D := (dC, dI)) (ci := 5) (v := .ref (a 1)) (C := RX5) (T := TX5) (N := 6) hx hb huX5 (fun _ h9 => h9) hown hK hP 0 rfl rfl 0 (by decide) w10 (fun _ h9 => h9) rfl dX5_feed_56 ?_
    refine lv_iload_n hx hb dX5_feed_59 rfl (lv_at hl 2 rfl) ?_
    refine va_put (D := (dC, dI)) (ci := 2) (v := .int x1) (ty := .int) (C := RX2) (T := TX2) (N := 12) hx hb huX2 (fun _ h9 => h9) tyX2 tyX2_ok nmX2 hown hK hP hD hS 1 rfl rfl 3 (by decide) w112 (fun _ h9 => h9) rfl (by decide +kernel) rfl rfl (Nat.le_of_ble_eq_true rfl) dX5_feed_60 (fun H locs hP2 hD2 hS => ?_)
    obtain ⟨hP, hD⟩ : va_P (dC, dI) vwCl (wX5 a cI cF (s_X5_history (s_X5_frame S (s_X2_fed (g_X5_frame S) x1)) v3)) H ∧ va_D A (wX5 a cI cF (s_X5_history (s_X5_frame S (s_X2_fed (g_X5_frame S) x1)) v3)) := LN.set (LX5_frame a cI cF (s_X5_history S v3) (s_X2_fed (g_X5_frame S) x1) (LX2_fed (fun i => a (i + 1)) cI cF (g_X5_frame S) x1)) (p := 1) rfl rfl hD hP2 hD2
    refine lv_iload_n hx hb dX5_feed_63 rfl (lv_at hl 0 rfl) ?_
    have hu := Sum.inr.inj (Option.some.inj h)
    exact W.iret (v := x2_5) hx hb hr (fun t ht hW => ⟨⟨congrArg (fun z => Outcome.returned (some (Value.int z.1))) hu, by rw [ht, ← hu]; exact hP⟩, hS.F ht⟩) hS.2.2 dX5_feed_64
  have h := o_f h c7
  refine lv_aload_n hx hb dX5_feed_45 rfl (lv_at hl 1 rfl) ?_
  refine va_get (D := (dC, dI)) (ci := 5) (v := .ref (a 1)) (C := RX5) (T := TX5) (N := 6) hx hb huX5 (fun _ h9 => h9) hown hK hP 0 rfl rfl 0 (by decide) w10 (fun _ h9 => h9) rfl dX5_feed_46 ?_
  refine va_get (D := (dC, dI)) (ci := 2) (v := .ref (a 5)) (C := RX2) (T := TX2) (N := 12) hx hb huX2 (fun _ h9 => h9) hown hK hP 1 rfl rfl 1 (by decide) w115 (fun _ h9 => h9) rfl dX5_feed_49 ?_
  obtain ⟨v8, g9, h⟩ := o_b h
  refine k_rwL (va_runV (As := []) (rest := []) ⟨hx, hb, hml, hown, hts⟩ (c_X1_forget l dC dI cI cF (fun i => a (i + 5)) (g_X2_feeler (g_X5_frame S)) v8 g9 H.size) (cwV 0 hts gX5_feed_X1_forget rfl rfl rfl (by decide +kernel) ⟨Nat.le_of_ble_eq_true rfl, Nat.le_of_ble_eq_true rfl⟩) (k_preLw (q0 := 0) (ci := 1) hK hP hD (LX5_frame a cI cF (s_X5_history S v3) (s_X2_feeler (g_X5_frame S) v8) (LX2_feeler (fun i => a (i + 1)) cI cF (g_X5_frame S) v8 (LN_id (fX1 (fun i => a (i + 5)) cI cF (g_X2_feeler (g_X5_frame S)) v8)))) rfl rfl rfl) rfl rfl hl.1 rfl (lv_room (Nat.le_of_ble_eq_true rfl)) dX5_feed_52 ⟨Nat.zero_le _, Nat.zero_le _⟩) (st1 := []) rfl hP hD hS hA (wn := wX5 a cI cF (s_X5_history (s_X5_frame S (s_X2_feeler (g_X5_frame S) v8)) v3)) (LX5_frame a cI cF (s_X5_history S v3) (s_X2_feeler (g_X5_frame S) v8) (LX2_feeler (fun i => a (i + 1)) cI cF (g_X5_frame S) v8 (LN_id (fX1 (fun i => a (i + 5)) cI cF (g_X2_feeler (g_X5_frame S)) v8)))) (fun H locs hP hD hS => ?_)
  refine lv_aload_n hx hb dX5_feed_55 rfl (lv_at hl 1 rfl) ?_
  refine va_get (D := (dC, dI)) (ci := 5) (v := .ref (a 1)) (C := RX5) (T := TX5) (N := 6) hx hb huX5 (fun _ h9 => h9) hown hK hP 0 rfl rfl 0 (by decide) w10 (fun _ h9 => h9) rfl dX5_feed_56 ?_
  refine lv_iload_n hx hb dX5_feed_59 rfl (lv_at hl 2 rfl) ?_
  refine va_put (D := (dC, dI)) (ci := 2) (v := .int x1) (ty := .int) (C := RX2) (T := TX2) (N := 12) hx hb huX2 (fun _ h9 => h9) tyX2 tyX2_ok nmX2 hown hK hP hD hS 1 rfl rfl 3 (by decide) w112 (fun _ h9 => h9) rfl (by decide +kernel) rfl rfl (Nat.le_of_ble_eq_true rfl) dX5_feed_60 (fun H locs hP2 hD2 hS => ?_)
  obtain ⟨hP, hD⟩ : va_P (dC, dI) vwCl (wX5 a cI cF (s_X5_history (s_X5_frame S (s_X2_fed (s_X2_feeler (g_X5_frame S) v8) x1)) v3)) H ∧ va_D A (wX5 a cI cF (s_X5_history (s_X5_frame S (s_X2_fed (s_X2_feeler (g_X5_frame S) v8) x1)) v3)) := LN.set (LX5_frame a cI cF (s_X5_history (s_X5_frame S (s_X2_feeler (g_X5_frame S) v8)) v3) (s_X2_fed (s_X2_feeler (g_X5_frame S) v8) x1) (LX2_fed (fun i => a (i + 1)) cI cF (s_X2_feeler (g_X5_frame S) v8) x1)) (p := 1) rfl rfl hD hP2 hD2
  refine lv_iload_n hx hb dX5_feed_63 rfl (lv_at hl 0 rfl) ?_
  have hu := Sum.inr.inj (Option.some.inj h)
  exact W.iret (v := x2_5) hx hb hr (fun t ht hW => ⟨⟨congrArg (fun z => Outcome.returned (some (Value.int z.1))) hu, by rw [ht, ← hu]; exact hP⟩, hS.F ht⟩) hS.2.2 dX5_feed_64

def m_X5_clear_L26 (t0 : Int32) (S : S_X5) : Option (Int32 × S_X5) := (m_X1_forget (g_X2_feeler (g_X5_frame S))).bind fun v4 => (some (t0, s_X5_frame S (s_X2_stopped (s_X2_feeler (g_X5_frame S) v4) (0 : Int32))))
def m_X5_clear (S : S_X5) : Option (Int32 × S_X5) := (m_X3_save (g_X5_history S) (g_X5_frame S)).bind fun v1 => (if (g_X2_stopped (g_X5_frame S)) = 0 then (m_X5_clear_L26 (0 : Int32) (s_X5_history S v1)) else (m_X5_clear_L26 (1 : Int32) (s_X5_history S v1)))
set_option maxHeartbeats 4000000 in
set_option maxRecDepth 100000 in
theorem c_X5_clear (l : Launch) (dC : Nat → ClassId) (dI : Nat → Nat → Nat) (cI cF : ClassId) (a : Nat → Nat) (S : S_X5) (u : Int32 × S_X5) (h : m_X5_clear S = some u) : cRW l (dC, dI) cI cF yX5_clear wsX5_clear ({ frames := 4, cells := 0, slots := 0, locals := 124 } : Room) [.ref (a 0)] (wX5 a cI cF S) (wX5 a cI cF u.2) (some (.int u.1)) := by
  intro sz
  refine Met.ofW (cc := cX5_clear) (maxL := 2) (ret := (some .int)) (by decide) rfl ?_
  intro p e s m args below meth c s₁ B hml hv
  obtain ⟨hargs, hsz, hP, hK, hD0⟩ := hv
  subst hargs
  have hx := B.exec
  have hb := B.bytes
  have hr := B.returns
  have hts := atoms_spec (ws := wsX5_clear) B.pre
  have hown : s.vm.findClass RX5 = some m.cls := findClass_of_methodNamed B.named
  have hlocks := B.notSynchronized
  have w10 := hts (.fieldLink RX5 10 "DrawnSlivers" "frame" "LDrawnSlivers$Frame;") (List.mem_of_getElem? (i := 2) rfl)
  have w115 := hts (.fieldLink RX5 115 "DrawnSlivers$Frame" "feeler" "LDrawnSlivers$Feeler;") (List.mem_of_getElem? (i := 4) rfl)
  have w119 := hts (.methodLink RX5 119 yX1_forget) (List.mem_of_getElem? (i := 60) rfl)
  have w135 := hts (.fieldLink RX5 135 "DrawnSlivers$Frame" "stopped" "Z") (List.mem_of_getElem? (i := 3) rfl)
  have w25 := hts (.fieldLink RX5 25 "DrawnSlivers" "history" "LDrawnSlivers$History;") (List.mem_of_getElem? (i := 1) rfl)
  have w79 := hts (.methodLink RX5 79 yX3_save) (List.mem_of_getElem? (i := 5) rfl)
  have huX2 : ∀ w ∈ u_ws RX2 TX2 12, w.before _ s = true := fun w h => hts w (List.mem_cons_of_mem _ (List.mem_append_left _ (List.mem_append_left _ (List.mem_append_left _ (List.mem_append_right _ (h))))))
  have huX5 : ∀ w ∈ u_ws RX5 TX5 6, w.before _ s = true := fun w h => hts w (List.mem_cons_of_mem _ (List.mem_append_left _ (List.mem_append_left _ (List.mem_append_left _ (List.mem_append_left _ (List.mem_append_right _ (h)))))))
  subst hsz
  have hD := hD0.self (sz := s.heap.size)
  generalize hAe : va_A (wX5 a cI cF S) s.heap.size = A at hD ⊢
  have hA : ∀ q : Nat, s.heap.size ≤ q → A q := fun q h => by rw [← hAe]; exact Or.inr h
  have hS : va_S A s.heap s.heap [] := va_S.rf
  have L26 : ∀ (t0 : Int32) (S : S_X5), m_X5_clear_L26 t0 S = some u → ∀ (H : Heap) (locs : List Loc), va_P (dC, dI) vwCl (wX5 a cI cF S) H → va_D A (wX5 a cI cF S) → va_S A s.heap H locs → ∀ (ls : Array Slot), lv_has ls 2 [(0, .ref (a 0))] → W p l e (headSpec wsX5_clear ({ frames := 4, cells := 0, slots := 0, locals := 124 } : Room)).room s m ([.ref (a 0)] : List Value).toArray below meth c H locs 0 0 (MQ below (qRW (dC, dI) (wX5 a cI cF u.2) (some (.int u.1)) A) ([.ref (a 0)] : List Value).toArray s 0 0 A) (F0 m 26 ls [.int t0]) := by
    intro  t0 S h H locs hP hD hS ls hl
    rw [m_X5_clear_L26] at h
    refine lv_istore_n (lv' := [(1, .int t0), (0, .ref (a 0))]) hx hb dX5_clear_26 rfl hl (by decide) rfl (fun ls hl => ?_)
    refine lv_aload_n hx hb dX5_clear_27 rfl (lv_at hl 1 rfl) ?_
    refine va_get (D := (dC, dI)) (ci := 5) (v := .ref (a 1)) (C := RX5) (T := TX5) (N := 6) hx hb huX5 (fun _ h9 => h9) hown hK hP 0 rfl rfl 0 (by decide) w10 (fun _ h9 => h9) rfl dX5_clear_28 ?_
    refine lv_iconst (v := (0 : Int32)) hx hb dX5_clear_31 (by decide) ?_
    refine va_put (D := (dC, dI)) (ci := 2) (v := .int (0 : Int32)) (ty := .boolean) (C := RX2) (T := TX2) (N := 12) hx hb huX2 (fun _ h9 => h9) tyX2 tyX2_ok nmX2 hown hK hP hD hS 1 rfl rfl 5 (by decide) w135 (fun _ h9 => h9) rfl (by decide +kernel) rfl rfl (Nat.le_of_ble_eq_true rfl) dX5_clear_32 (fun H locs hP2 hD2 hS => ?_)
    obtain ⟨hP, hD⟩ : va_P (dC, dI) vwCl (wX5 a cI cF (s_X5_frame S (s_X2_stopped (g_X5_frame S) (0 : Int32)))) H ∧ va_D A (wX5 a cI cF (s_X5_frame S (s_X2_stopped (g_X5_frame S) (0 : Int32)))) := LN.set (LX5_frame a cI cF S (s_X2_stopped (g_X5_frame S) (0 : Int32)) (LX2_stopped (fun i => a (i + 1)) cI cF (g_X5_frame S) (0 : Int32))) (p := 1) rfl rfl hD hP2 hD2
    refine lv_aload_n hx hb dX5_clear_35 rfl (lv_at hl 1 rfl) ?_
    refine va_get (D := (dC, dI)) (ci := 5) (v := .ref (a 1)) (C := RX5) (T := TX5) (N := 6) hx hb huX5 (fun _ h9 => h9) hown hK hP 0 rfl rfl 0 (by decide) w10 (fun _ h9 => h9) rfl dX5_clear_36 ?_
    refine va_get (D := (dC, dI)) (ci := 2) (v := .ref (a 5)) (C := RX2) (T := TX2) (N := 12) hx hb huX2 (fun _ h9 => h9) hown hK hP 1 rfl rfl 1 (by decide) w115 (fun _ h9 => h9) rfl dX5_clear_39 ?_
    obtain ⟨v4, g5, h⟩ := o_b h
    refine k_rwL (va_runV (As := []) (rest := []) ⟨hx, hb, hml, hown, hts⟩ (c_X1_forget l dC dI cI cF (fun i => a (i + 5)) (g_X2_feeler (g_X5_frame S)) v4 g5 H.size) (cwV 0 hts gX5_clear_X1_forget rfl rfl rfl (by decide +kernel) ⟨Nat.le_of_ble_eq_true rfl, Nat.le_of_ble_eq_true rfl⟩) (k_preLw (q0 := 0) (ci := 1) hK hP hD (LX5_frame a cI cF (s_X5_frame S (s_X2_stopped (g_X5_frame S) (0 : Int32))) (s_X2_feeler (s_X2_stopped (g_X5_frame S) (0 : Int32)) v4) (LX2_feeler (fun i => a (i + 1)) cI cF (s_X2_stopped (g_X5_frame S) (0 : Int32)) v4 (LN_id (fX1 (fun i => a (i + 5)) cI cF (g_X2_feeler (g_X5_frame S)) v4)))) rfl rfl rfl) rfl rfl hl.1 rfl (lv_room (Nat.le_of_ble_eq_true rfl)) dX5_clear_42 ⟨Nat.zero_le _, Nat.zero_le _⟩) (st1 := []) rfl hP hD hS hA (wn := wX5 a cI cF (s_X5_frame S (s_X2_stopped (s_X2_feeler (g_X5_frame S) v4) (0 : Int32)))) (LX5_frame a cI cF (s_X5_frame S (s_X2_stopped (g_X5_frame S) (0 : Int32))) (s_X2_feeler (s_X2_stopped (g_X5_frame S) (0 : Int32)) v4) (LX2_feeler (fun i => a (i + 1)) cI cF (s_X2_stopped (g_X5_frame S) (0 : Int32)) v4 (LN_id (fX1 (fun i => a (i + 5)) cI cF (g_X2_feeler (g_X5_frame S)) v4)))) (fun H locs hP hD hS => ?_)
    refine lv_iload_n hx hb dX5_clear_45 rfl (lv_at hl 0 rfl) ?_
    have hu := Option.some.inj h
    exact W.iret (v := t0) hx hb hr (fun t ht hW => ⟨⟨congrArg (fun z => Outcome.returned (some (Value.int z.1))) hu, by rw [ht, ← hu]; exact hP⟩, hS.F ht⟩) hS.2.2 dX5_clear_46
  have hl := lv_entry ([.ref (a 0)]) (n := 2) (Nat.le_of_ble_eq_true rfl)
  rw [lg_entry_eq]
  generalize (lg_sl ([.ref (a 0)]) ++ List.replicate (2 - (lg_sl ([.ref (a 0)])).length) Slot.unset).toArray = ls at hl ⊢
  have hl : lv_has ls 2 [(0, .ref (a 0))] := hl
  rw [m_X5_clear] at h
  refine lv_aload_n hx hb dX5_clear_0 rfl (lv_at hl 0 rfl) ?_
  refine va_get (D := (dC, dI)) (ci := 5) (v := .ref (a 26)) (C := RX5) (T := TX5) (N := 6) hx hb huX5 (fun _ h9 => h9) hown hK hP 0 rfl rfl 3 (by decide) w25 (fun _ h9 => h9) rfl dX5_clear_1 ?_
  refine lv_aload_n hx hb dX5_clear_4 rfl (lv_at hl 0 rfl) ?_
  refine va_get (D := (dC, dI)) (ci := 5) (v := .ref (a 1)) (C := RX5) (T := TX5) (N := 6) hx hb huX5 (fun _ h9 => h9) hown hK hP 0 rfl rfl 0 (by decide) w10 (fun _ h9 => h9) rfl dX5_clear_5 ?_
  obtain ⟨v1, g2, h⟩ := o_b h
  refine k_rwL (va_runV (As := [.ref (a 1)]) (rest := []) ⟨hx, hb, hml, hown, hts⟩ (c_X3_save l dC dI cI cF (fun i => a (i + 26)) (fun i => a (i + 1)) (g_X5_history S) (g_X5_frame S) v1 g2 s.heap.size) (cwV 1 hts gX5_clear_X3_save rfl rfl rfl (by decide +kernel) ⟨Nat.le_of_ble_eq_true rfl, Nat.le_of_ble_eq_true rfl⟩) (k_preLw (q0 := 0) (ci := 3) hK hP hD (LN_sw (LX5_frame_history a cI cF S (g_X5_frame S) v1)) rfl rfl rfl) rfl rfl hl.1 rfl (lv_room (Nat.le_of_ble_eq_true rfl)) dX5_clear_8 ⟨Nat.zero_le _, Nat.zero_le _⟩) (st1 := []) rfl hP hD hS hA (wn := wX5 a cI cF (s_X5_history S v1)) (LN_sw (LX5_frame_history a cI cF S (g_X5_frame S) v1)) (fun H locs hP hD hS => ?_)
  refine lv_aload_n hx hb dX5_clear_11 rfl (lv_at hl 0 rfl) ?_
  refine va_get (D := (dC, dI)) (ci := 5) (v := .ref (a 1)) (C := RX5) (T := TX5) (N := 6) hx hb huX5 (fun _ h9 => h9) hown hK hP 0 rfl rfl 0 (by decide) w10 (fun _ h9 => h9) rfl dX5_clear_12 ?_
  refine va_get (D := (dC, dI)) (ci := 2) (v := .int (g_X2_stopped (g_X5_frame S))) (C := RX2) (T := TX2) (N := 12) hx hb huX2 (fun _ h9 => h9) hown hK hP 1 rfl rfl 5 (by decide) w135 (fun _ h9 => h9) rfl dX5_clear_15 ?_
  refine lv_if_eq (tgt := 25) hx hb dX5_clear_18 (by decide) (fun c3 => ?_) (fun c3 => ?_)
  · have h := o_t h c3
    refine lv_iconst (v := (0 : Int32)) hx hb dX5_clear_25 (by decide) ?_
    exact L26 _ _ h _ _ hP hD hS _ (lv_sub hl [0] rfl)
  have h := o_f h c3
  refine lv_iconst (v := (1 : Int32)) hx hb dX5_clear_21 (by decide) ?_
  refine lv_goto (tgt := 26) hx hb dX5_clear_22 (by decide) ?_
  exact L26 _ _ h _ _ hP hD hS _ (lv_sub hl [0] rfl)

def m_X5_append (S : S_X5) (x1 : Int32) : Option ((Nat × S_X5) ⊕ (Int32 × S_X5)) := if x1 < (33 : Int32) then (some (.inl (2, S))) else (if x1 ≤ (126 : Int32) then ((m_X4_isFull (g_X5_text S)).bind fun v3 => (if v3 = 0 then ((m_X4_add (g_X5_text S) x1).bind fun v6 => ((m_X4_length v6).bind fun v8 => (some (.inr (v8, s_X5_text S v6))))) else (some (.inl (3, S))))) else (some (.inl (2, S))))
set_option maxHeartbeats 4000000 in
set_option maxRecDepth 100000 in
theorem c_X5_append (l : Launch) (dC : Nat → ClassId) (dI : Nat → Nat → Nat) (cI cF : ClassId) (a : Nat → Nat) (S : S_X5) (x1 : Int32) (u : Int32 × S_X5) (h : m_X5_append S x1 = some (.inr u)) : cRW l (dC, dI) cI cF yX5_append wsX5_append ({ frames := 1, cells := 0, slots := 0, locals := 21 } : Room) [.ref (a 0), .int x1] (wX5 a cI cF S) (wX5 a cI cF u.2) (some (.int u.1)) := by
  intro sz
  refine Met.ofW (cc := cX5_append) (maxL := 2) (ret := (some .int)) (by decide) rfl ?_
  intro p e s m args below meth c s₁ B hml hv
  obtain ⟨hargs, hsz, hP, hK, hD0⟩ := hv
  subst hargs
  have hx := B.exec
  have hb := B.bytes
  have hr := B.returns
  have hts := atoms_spec (ws := wsX5_append) B.pre
  have hown : s.vm.findClass RX5 = some m.cls := findClass_of_methodNamed B.named
  have hlocks := B.notSynchronized
  have w158 := hts (.methodLink RX5 158 yX4_isFull) (List.mem_of_getElem? (i := 6) rfl)
  have w163 := hts (.methodLink RX5 163 yX4_add) (List.mem_of_getElem? (i := 12) rfl)
  have w166 := hts (.methodLink RX5 166 yX4_length) (List.mem_of_getElem? (i := 17) rfl)
  have w32 := hts (.fieldLink RX5 32 "DrawnSlivers" "text" "LDrawnSlivers$SliverText;") (List.mem_of_getElem? (i := 5) rfl)
  have huX5 : ∀ w ∈ u_ws RX5 TX5 6, w.before _ s = true := fun w h => hts w (List.mem_cons_of_mem _ (List.mem_append_left _ (List.mem_append_left _ (List.mem_append_left _ (List.mem_append_right _ (h))))))
  subst hsz
  have hD := hD0.self (sz := s.heap.size)
  generalize hAe : va_A (wX5 a cI cF S) s.heap.size = A at hD ⊢
  have hA : ∀ q : Nat, s.heap.size ≤ q → A q := fun q h => by rw [← hAe]; exact Or.inr h
  have hS : va_S A s.heap s.heap [] := va_S.rf
  have hl := lv_entry ([.ref (a 0), .int x1]) (n := 2) (Nat.le_of_ble_eq_true rfl)
  rw [lg_entry_eq]
  generalize (lg_sl ([.ref (a 0), .int x1]) ++ List.replicate (2 - (lg_sl ([.ref (a 0), .int x1])).length) Slot.unset).toArray = ls at hl ⊢
  have hl : lv_has ls 2 [(0, .ref (a 0)), (1, .int x1)] := hl
  rw [m_X5_append] at h
  refine lv_iload_n hx hb dX5_append_0 rfl (lv_at hl 1 rfl) ?_
  refine lv_bipush (v := (33 : Int32)) hx hb dX5_append_1 (by decide) ?_
  refine lv_icmp_lt (tgt := 12) hx hb dX5_append_3 (by decide) (fun c1 => ?_) (fun c1 => ?_)
  · have h := o_t h c1
    cases h
  have h := o_f h c1
  refine lv_iload_n hx hb dX5_append_6 rfl (lv_at hl 1 rfl) ?_
  refine lv_bipush (v := (126 : Int32)) hx hb dX5_append_7 (by decide) ?_
  refine lv_icmp_le (tgt := 22) hx hb dX5_append_9 (by decide) (fun c2 => ?_) (fun c2 => ?_)
  rotate_left
  · have h := o_f h c2
    cases h
  have h := o_t h c2
  refine lv_aload_n hx hb dX5_append_22 rfl (lv_at hl 0 rfl) ?_
  refine va_get (D := (dC, dI)) (ci := 5) (v := .ref (a 22)) (C := RX5) (T := TX5) (N := 6) hx hb huX5 (fun _ h9 => h9) hown hK hP 0 rfl rfl 4 (by decide) w32 (fun _ h9 => h9) rfl dX5_append_23 ?_
  obtain ⟨v3, g4, h⟩ := o_b h
  refine k_ro (va_runV (As := []) (rest := []) ⟨hx, hb, hml, hown, hts⟩ (c_X4_isFull l dC dI cI cF (fun i => a (i + 22)) (g_X5_text S) v3 g4) (cwV 0 hts gX5_append_X4_isFull rfl rfl rfl (by decide +kernel) ⟨Nat.le_of_ble_eq_true rfl, Nat.le_of_ble_eq_true rfl⟩) (k_preL (q0 := 0) (ci := 4) hK hP (LX5_text a cI cF S (g_X5_text S) (LN_id (fX4 (fun i => a (i + 22)) cI cF (g_X5_text S) (g_X5_text S)))) rfl rfl rfl) rfl rfl hl.1 rfl (lv_room (Nat.le_of_ble_eq_true rfl)) dX5_append_26 ⟨Nat.zero_le _, Nat.zero_le _⟩) (st1 := [.int v3]) rfl ?_
  refine lv_if_eq (tgt := 42) hx hb dX5_append_29 (by decide) (fun c5 => ?_) (fun c5 => ?_)
  rotate_left
  · have h := o_f h c5
    cases h
  have h := o_t h c5
  refine lv_aload_n hx hb dX5_append_42 rfl (lv_at hl 0 rfl) ?_
  refine va_get (D := (dC, dI)) (ci := 5) (v := .ref (a 22)) (C := RX5) (T := TX5) (N := 6) hx hb huX5 (fun _ h9 => h9) hown hK hP 0 rfl rfl 4 (by decide) w32 (fun _ h9 => h9) rfl dX5_append_43 ?_
  refine lv_iload_n hx hb dX5_append_46 rfl (lv_at hl 1 rfl) ?_
  obtain ⟨v6, g7, h⟩ := o_b h
  refine k_rwL (va_runV (As := [.int x1]) (rest := []) ⟨hx, hb, hml, hown, hts⟩ (c_X4_add l dC dI cI cF (fun i => a (i + 22)) (g_X5_text S) x1 v6 g7 s.heap.size) (cwV 1 hts gX5_append_X4_add rfl rfl rfl (by decide +kernel) ⟨Nat.le_of_ble_eq_true rfl, Nat.le_of_ble_eq_true rfl⟩) (k_preLw (q0 := 0) (ci := 4) hK hP hD (LX5_text a cI cF S v6 (LN_id (fX4 (fun i => a (i + 22)) cI cF (g_X5_text S) v6))) rfl rfl rfl) rfl rfl hl.1 rfl (lv_room (Nat.le_of_ble_eq_true rfl)) dX5_append_47 ⟨Nat.zero_le _, Nat.zero_le _⟩) (st1 := []) rfl hP hD hS hA (wn := wX5 a cI cF (s_X5_text S v6)) (LX5_text a cI cF S v6 (LN_id (fX4 (fun i => a (i + 22)) cI cF (g_X5_text S) v6))) (fun H locs hP hD hS => ?_)
  refine lv_aload_n hx hb dX5_append_50 rfl (lv_at hl 0 rfl) ?_
  refine va_get (D := (dC, dI)) (ci := 5) (v := .ref (a 22)) (C := RX5) (T := TX5) (N := 6) hx hb huX5 (fun _ h9 => h9) hown hK hP 0 rfl rfl 4 (by decide) w32 (fun _ h9 => h9) rfl dX5_append_51 ?_
  obtain ⟨v8, g9, h⟩ := o_b h
  refine k_ro (va_runV (As := []) (rest := []) ⟨hx, hb, hml, hown, hts⟩ (c_X4_length l dC dI cI cF (fun i => a (i + 22)) v6 v8 g9) (cwV 0 hts gX5_append_X4_length rfl rfl rfl (by decide +kernel) ⟨Nat.le_of_ble_eq_true rfl, Nat.le_of_ble_eq_true rfl⟩) (k_preL (q0 := 0) (ci := 4) hK hP (LX5_text a cI cF (s_X5_text S v6) v6 (LN_id (fX4 (fun i => a (i + 22)) cI cF v6 v6))) rfl rfl rfl) rfl rfl hl.1 rfl (lv_room (Nat.le_of_ble_eq_true rfl)) dX5_append_54 ⟨Nat.zero_le _, Nat.zero_le _⟩) (st1 := [.int v8]) rfl ?_
  have hu := Sum.inr.inj (Option.some.inj h)
  exact W.iret (v := v8) hx hb hr (fun t ht hW => ⟨⟨congrArg (fun z => Outcome.returned (some (Value.int z.1))) hu, by rw [ht, ← hu]; exact hP⟩, hS.F ht⟩) hS.2.2 dX5_append_57

def m_X5_clearBuffer (S : S_X5) : Option (Int32 × S_X5) := (m_X4_length (g_X5_text S)).bind fun v1 => ((m_X4_wipe (g_X5_text S)).bind fun v3 => (some (v1, s_X5_text S v3)))
set_option maxHeartbeats 4000000 in
set_option maxRecDepth 100000 in
theorem c_X5_clearBuffer (l : Launch) (dC : Nat → ClassId) (dI : Nat → Nat → Nat) (cI cF : ClassId) (a : Nat → Nat) (S : S_X5) (u : Int32 × S_X5) (h : m_X5_clearBuffer S = some u) : cRW l (dC, dI) cI cF yX5_clearBuffer wsX5_clearBuffer ({ frames := 1, cells := 0, slots := 0, locals := 20 } : Room) [.ref (a 0)] (wX5 a cI cF S) (wX5 a cI cF u.2) (some (.int u.1)) := by
  intro sz
  refine Met.ofW (cc := cX5_clearBuffer) (maxL := 2) (ret := (some .int)) (by decide) rfl ?_
  intro p e s m args below meth c s₁ B hml hv
  obtain ⟨hargs, hsz, hP, hK, hD0⟩ := hv
  subst hargs
  have hx := B.exec
  have hb := B.bytes
  have hr := B.returns
  have hts := atoms_spec (ws := wsX5_clearBuffer) B.pre
  have hown : s.vm.findClass RX5 = some m.cls := findClass_of_methodNamed B.named
  have hlocks := B.notSynchronized
  have w166 := hts (.methodLink RX5 166 yX4_length) (List.mem_of_getElem? (i := 2) rfl)
  have w32 := hts (.fieldLink RX5 32 "DrawnSlivers" "text" "LDrawnSlivers$SliverText;") (List.mem_of_getElem? (i := 1) rfl)
  have w96 := hts (.methodLink RX5 96 yX4_wipe) (List.mem_of_getElem? (i := 8) rfl)
  have huX5 : ∀ w ∈ u_ws RX5 TX5 6, w.before _ s = true := fun w h => hts w (List.mem_cons_of_mem _ (List.mem_append_left _ (List.mem_append_right _ (h))))
  subst hsz
  have hD := hD0.self (sz := s.heap.size)
  generalize hAe : va_A (wX5 a cI cF S) s.heap.size = A at hD ⊢
  have hA : ∀ q : Nat, s.heap.size ≤ q → A q := fun q h => by rw [← hAe]; exact Or.inr h
  have hS : va_S A s.heap s.heap [] := va_S.rf
  have hl := lv_entry ([.ref (a 0)]) (n := 2) (Nat.le_of_ble_eq_true rfl)
  rw [lg_entry_eq]
  generalize (lg_sl ([.ref (a 0)]) ++ List.replicate (2 - (lg_sl ([.ref (a 0)])).length) Slot.unset).toArray = ls at hl ⊢
  have hl : lv_has ls 2 [(0, .ref (a 0))] := hl
  rw [m_X5_clearBuffer] at h
  refine lv_aload_n hx hb dX5_clearBuffer_0 rfl (lv_at hl 0 rfl) ?_
  refine va_get (D := (dC, dI)) (ci := 5) (v := .ref (a 22)) (C := RX5) (T := TX5) (N := 6) hx hb huX5 (fun _ h9 => h9) hown hK hP 0 rfl rfl 4 (by decide) w32 (fun _ h9 => h9) rfl dX5_clearBuffer_1 ?_
  obtain ⟨v1, g2, h⟩ := o_b h
  refine k_ro (va_runV (As := []) (rest := []) ⟨hx, hb, hml, hown, hts⟩ (c_X4_length l dC dI cI cF (fun i => a (i + 22)) (g_X5_text S) v1 g2) (cwV 0 hts gX5_clearBuffer_X4_length rfl rfl rfl (by decide +kernel) ⟨Nat.le_of_ble_eq_true rfl, Nat.le_of_ble_eq_true rfl⟩) (k_preL (q0 := 0) (ci := 4) hK hP (LX5_text a cI cF S (g_X5_text S) (LN_id (fX4 (fun i => a (i + 22)) cI cF (g_X5_text S) (g_X5_text S)))) rfl rfl rfl) rfl rfl hl.1 rfl (lv_room (Nat.le_of_ble_eq_true rfl)) dX5_clearBuffer_4 ⟨Nat.zero_le _, Nat.zero_le _⟩) (st1 := [.int v1]) rfl ?_
  refine lv_istore_n (lv' := [(1, .int v1), (0, .ref (a 0))]) hx hb dX5_clearBuffer_7 rfl hl (by decide) rfl (fun ls hl => ?_)
  refine lv_aload_n hx hb dX5_clearBuffer_8 rfl (lv_at hl 1 rfl) ?_
  refine va_get (D := (dC, dI)) (ci := 5) (v := .ref (a 22)) (C := RX5) (T := TX5) (N := 6) hx hb huX5 (fun _ h9 => h9) hown hK hP 0 rfl rfl 4 (by decide) w32 (fun _ h9 => h9) rfl dX5_clearBuffer_9 ?_
  obtain ⟨v3, g4, h⟩ := o_b h
  refine k_rwL (va_runV (As := []) (rest := []) ⟨hx, hb, hml, hown, hts⟩ (c_X4_wipe l dC dI cI cF (fun i => a (i + 22)) (g_X5_text S) v3 g4 s.heap.size) (cwV 0 hts gX5_clearBuffer_X4_wipe rfl rfl rfl (by decide +kernel) ⟨Nat.le_of_ble_eq_true rfl, Nat.le_of_ble_eq_true rfl⟩) (k_preLw (q0 := 0) (ci := 4) hK hP hD (LX5_text a cI cF S v3 (LN_id (fX4 (fun i => a (i + 22)) cI cF (g_X5_text S) v3))) rfl rfl rfl) rfl rfl hl.1 rfl (lv_room (Nat.le_of_ble_eq_true rfl)) dX5_clearBuffer_12 ⟨Nat.zero_le _, Nat.zero_le _⟩) (st1 := []) rfl hP hD hS hA (wn := wX5 a cI cF (s_X5_text S v3)) (LX5_text a cI cF S v3 (LN_id (fX4 (fun i => a (i + 22)) cI cF (g_X5_text S) v3))) (fun H locs hP hD hS => ?_)
  refine lv_iload_n hx hb dX5_clearBuffer_15 rfl (lv_at hl 0 rfl) ?_
  have hu := Option.some.inj h
  exact W.iret (v := v1) hx hb hr (fun t ht hW => ⟨⟨congrArg (fun z => Outcome.returned (some (Value.int z.1))) hu, by rw [ht, ← hu]; exact hP⟩, hS.F ht⟩) hS.2.2 dX5_clearBuffer_16

def m_X5_undo (S : S_X5) : Option ((Nat × S_X5) ⊕ (Int32 × S_X5)) := (m_X3_savedCount (g_X5_history S)).bind fun v1 => (if v1 = 0 then (some (.inl (3, S))) else ((m_X3_restore (g_X5_history S) (g_X5_frame S)).bind fun v4 => ((m_X3_savedCount v4.1).bind fun v6 => (some (.inr (v6, s_X5_history (s_X5_frame S v4.2) v4.1))))))
set_option maxHeartbeats 4000000 in
set_option maxRecDepth 100000 in
theorem c_X5_undo (l : Launch) (dC : Nat → ClassId) (dI : Nat → Nat → Nat) (cI cF : ClassId) (a : Nat → Nat) (S : S_X5) (u : Int32 × S_X5) (h : m_X5_undo S = some (.inr u)) : cRW l (dC, dI) cI cF yX5_undo wsX5_undo ({ frames := 4, cells := 0, slots := 0, locals := 124 } : Room) [.ref (a 0)] (wX5 a cI cF S) (wX5 a cI cF u.2) (some (.int u.1)) := by
  intro sz
  refine Met.ofW (cc := cX5_undo) (maxL := 1) (ret := (some .int)) (by decide) rfl ?_
  intro p e s m args below meth c s₁ B hml hv
  obtain ⟨hargs, hsz, hP, hK, hD0⟩ := hv
  subst hargs
  have hx := B.exec
  have hb := B.bytes
  have hr := B.returns
  have hts := atoms_spec (ws := wsX5_undo) B.pre
  have hown : s.vm.findClass RX5 = some m.cls := findClass_of_methodNamed B.named
  have hlocks := B.notSynchronized
  have w10 := hts (.fieldLink RX5 10 "DrawnSlivers" "frame" "LDrawnSlivers$Frame;") (List.mem_of_getElem? (i := 4) rfl)
  have w180 := hts (.methodLink RX5 180 yX3_savedCount) (List.mem_of_getElem? (i := 5) rfl)
  have w185 := hts (.methodLink RX5 185 yX3_restore) (List.mem_of_getElem? (i := 11) rfl)
  have w25 := hts (.fieldLink RX5 25 "DrawnSlivers" "history" "LDrawnSlivers$History;") (List.mem_of_getElem? (i := 3) rfl)
  have huX5 : ∀ w ∈ u_ws RX5 TX5 6, w.before _ s = true := fun w h => hts w (List.mem_cons_of_mem _ (List.mem_append_left _ (List.mem_append_left _ (List.mem_append_left _ (List.mem_append_left _ (List.mem_append_left _ (List.mem_append_right _ (h))))))))
  subst hsz
  have hD := hD0.self (sz := s.heap.size)
  generalize hAe : va_A (wX5 a cI cF S) s.heap.size = A at hD ⊢
  have hA : ∀ q : Nat, s.heap.size ≤ q → A q := fun q h => by rw [← hAe]; exact Or.inr h
  have hS : va_S A s.heap s.heap [] := va_S.rf
  have hl := lv_entry ([.ref (a 0)]) (n := 1) (Nat.le_of_ble_eq_true rfl)
  rw [lg_entry_eq]
  generalize (lg_sl ([.ref (a 0)]) ++ List.replicate (1 - (lg_sl ([.ref (a 0)])).length) Slot.unset).toArray = ls at hl ⊢
  have hl : lv_has ls 1 [(0, .ref (a 0))] := hl
  rw [m_X5_undo] at h
  refine lv_aload_n hx hb dX5_undo_0 rfl (lv_at hl 0 rfl) ?_
  refine va_get (D := (dC, dI)) (ci := 5) (v := .ref (a 26)) (C := RX5) (T := TX5) (N := 6) hx hb huX5 (fun _ h9 => h9) hown hK hP 0 rfl rfl 3 (by decide) w25 (fun _ h9 => h9) rfl dX5_undo_1 ?_
  obtain ⟨v1, g2, h⟩ := o_b h
  refine k_ro (va_runV (As := []) (rest := []) ⟨hx, hb, hml, hown, hts⟩ (c_X3_savedCount l dC dI cI cF (fun i => a (i + 26)) (g_X5_history S) v1 g2) (cwV 0 hts gX5_undo_X3_savedCount rfl rfl rfl (by decide +kernel) ⟨Nat.le_of_ble_eq_true rfl, Nat.le_of_ble_eq_true rfl⟩) (k_preL (q0 := 0) (ci := 3) hK hP (LX5_history a cI cF S (g_X5_history S) (LN_id (fX3 (fun i => a (i + 26)) cI cF (g_X5_history S) (g_X5_history S)))) rfl rfl rfl) rfl rfl hl.1 rfl (lv_room (Nat.le_of_ble_eq_true rfl)) dX5_undo_4 ⟨Nat.zero_le _, Nat.zero_le _⟩) (st1 := [.int v1]) rfl ?_
  refine lv_if_ne (tgt := 20) hx hb dX5_undo_7 (by decide) (fun c3 => ?_) (fun c3 => ?_)
  rotate_left
  · have h := o_t h c3
    cases h
  have h := o_f h c3
  refine lv_aload_n hx hb dX5_undo_20 rfl (lv_at hl 0 rfl) ?_
  refine va_get (D := (dC, dI)) (ci := 5) (v := .ref (a 26)) (C := RX5) (T := TX5) (N := 6) hx hb huX5 (fun _ h9 => h9) hown hK hP 0 rfl rfl 3 (by decide) w25 (fun _ h9 => h9) rfl dX5_undo_21 ?_
  refine lv_aload_n hx hb dX5_undo_24 rfl (lv_at hl 0 rfl) ?_
  refine va_get (D := (dC, dI)) (ci := 5) (v := .ref (a 1)) (C := RX5) (T := TX5) (N := 6) hx hb huX5 (fun _ h9 => h9) hown hK hP 0 rfl rfl 0 (by decide) w10 (fun _ h9 => h9) rfl dX5_undo_25 ?_
  obtain ⟨v4, g5, h⟩ := o_b h
  refine k_rwL (va_runV (As := [.ref (a 1)]) (rest := []) ⟨hx, hb, hml, hown, hts⟩ (c_X3_restore l dC dI cI cF (fun i => a (i + 26)) (fun i => a (i + 1)) (g_X5_history S) (g_X5_frame S) v4 g5 s.heap.size) (cwV 1 hts gX5_undo_X3_restore rfl rfl rfl (by decide +kernel) ⟨Nat.le_of_ble_eq_true rfl, Nat.le_of_ble_eq_true rfl⟩) (k_preLw (q0 := 0) (ci := 3) hK hP hD (LN_sw (LX5_frame_history a cI cF S v4.2 v4.1)) rfl rfl rfl) rfl rfl hl.1 rfl (lv_room (Nat.le_of_ble_eq_true rfl)) dX5_undo_28 ⟨Nat.zero_le _, Nat.zero_le _⟩) (st1 := []) rfl hP hD hS hA (wn := wX5 a cI cF (s_X5_history (s_X5_frame S v4.2) v4.1)) (LN_sw (LX5_frame_history a cI cF S v4.2 v4.1)) (fun H locs hP hD hS => ?_)
  refine lv_aload_n hx hb dX5_undo_31 rfl (lv_at hl 0 rfl) ?_
  refine va_get (D := (dC, dI)) (ci := 5) (v := .ref (a 26)) (C := RX5) (T := TX5) (N := 6) hx hb huX5 (fun _ h9 => h9) hown hK hP 0 rfl rfl 3 (by decide) w25 (fun _ h9 => h9) rfl dX5_undo_32 ?_
  obtain ⟨v6, g7, h⟩ := o_b h
  refine k_ro (va_runV (As := []) (rest := []) ⟨hx, hb, hml, hown, hts⟩ (c_X3_savedCount l dC dI cI cF (fun i => a (i + 26)) v4.1 v6 g7) (cwV 0 hts gX5_undo_X3_savedCount rfl rfl rfl (by decide +kernel) ⟨Nat.le_of_ble_eq_true rfl, Nat.le_of_ble_eq_true rfl⟩) (k_preL (q0 := 0) (ci := 3) hK hP (LX5_history a cI cF (s_X5_history (s_X5_frame S v4.2) v4.1) v4.1 (LN_id (fX3 (fun i => a (i + 26)) cI cF v4.1 v4.1))) rfl rfl rfl) rfl rfl hl.1 rfl (lv_room (Nat.le_of_ble_eq_true rfl)) dX5_undo_35 ⟨Nat.zero_le _, Nat.zero_le _⟩) (st1 := [.int v6]) rfl ?_
  have hu := Sum.inr.inj (Option.some.inj h)
  exact W.iret (v := v6) hx hb hr (fun t ht hW => ⟨⟨congrArg (fun z => Outcome.returned (some (Value.int z.1))) hu, by rw [ht, ← hu]; exact hP⟩, hS.F ht⟩) hS.2.2 dX5_undo_38

def m_X5_feeler (S : S_X5) (x1 : Int32) : Option ((Nat) ⊕ (Int32)) := if x1 < 0 then (some (.inl 2)) else (if x1 ≤ (6 : Int32) then ((m_X1_feedOf (g_X2_feeler (g_X5_frame S)) x1).bind fun v3 => (some (.inr v3))) else (some (.inl 2)))
set_option maxHeartbeats 4000000 in
set_option maxRecDepth 100000 in
theorem c_X5_feeler (l : Launch) (dC : Nat → ClassId) (dI : Nat → Nat → Nat) (cI cF : ClassId) (a : Nat → Nat) (S : S_X5) (x1 : Int32) (u : Int32) (h : m_X5_feeler S x1 = some (.inr u)) : cRO l (dC, dI) cI cF yX5_feeler wsX5_feeler ({ frames := 1, cells := 0, slots := 0, locals := 21 } : Room) [.ref (a 0), .int x1] (wX5 a cI cF S) (some (.int u)) := by
  refine Met.ofW (cc := cX5_feeler) (maxL := 2) (ret := (some .int)) (by decide) rfl ?_
  intro p e s m args below meth c s₁ B hml hv
  obtain ⟨hargs, hP, hK⟩ := hv
  subst hargs
  have hx := B.exec
  have hb := B.bytes
  have hr := B.returns
  have hts := atoms_spec (ws := wsX5_feeler) B.pre
  have hown : s.vm.findClass RX5 = some m.cls := findClass_of_methodNamed B.named
  have hlocks := B.notSynchronized
  have w10 := hts (.fieldLink RX5 10 "DrawnSlivers" "frame" "LDrawnSlivers$Frame;") (List.mem_of_getElem? (i := 3) rfl)
  have w115 := hts (.fieldLink RX5 115 "DrawnSlivers$Frame" "feeler" "LDrawnSlivers$Feeler;") (List.mem_of_getElem? (i := 4) rfl)
  have w213 := hts (.methodLink RX5 213 yX1_feedOf) (List.mem_of_getElem? (i := 5) rfl)
  have huX2 : ∀ w ∈ u_ws RX2 TX2 12, w.before _ s = true := fun w h => hts w (List.mem_cons_of_mem _ (List.mem_append_left _ (List.mem_append_left _ (List.mem_append_right _ (h)))))
  have huX5 : ∀ w ∈ u_ws RX5 TX5 6, w.before _ s = true := fun w h => hts w (List.mem_cons_of_mem _ (List.mem_append_left _ (List.mem_append_left _ (List.mem_append_left _ (List.mem_append_right _ (h))))))
  have hl := lv_entry ([.ref (a 0), .int x1]) (n := 2) (Nat.le_of_ble_eq_true rfl)
  rw [lg_entry_eq]
  generalize (lg_sl ([.ref (a 0), .int x1]) ++ List.replicate (2 - (lg_sl ([.ref (a 0), .int x1])).length) Slot.unset).toArray = ls at hl ⊢
  have hl : lv_has ls 2 [(0, .ref (a 0)), (1, .int x1)] := hl
  rw [m_X5_feeler] at h
  refine lv_iload_n hx hb dX5_feeler_0 rfl (lv_at hl 1 rfl) ?_
  refine lv_if_lt (tgt := 10) hx hb dX5_feeler_1 (by decide) (fun c1 => ?_) (fun c1 => ?_)
  · have h := o_t h c1
    cases h
  have h := o_f h c1
  refine lv_iload_n hx hb dX5_feeler_4 rfl (lv_at hl 1 rfl) ?_
  refine lv_bipush (v := (6 : Int32)) hx hb dX5_feeler_5 (by decide) ?_
  refine lv_icmp_le (tgt := 20) hx hb dX5_feeler_7 (by decide) (fun c2 => ?_) (fun c2 => ?_)
  rotate_left
  · have h := o_f h c2
    cases h
  have h := o_t h c2
  refine lv_aload_n hx hb dX5_feeler_20 rfl (lv_at hl 0 rfl) ?_
  refine va_get (D := (dC, dI)) (ci := 5) (v := .ref (a 1)) (C := RX5) (T := TX5) (N := 6) hx hb huX5 (fun _ h9 => h9) hown hK hP 0 rfl rfl 0 (by decide) w10 (fun _ h9 => h9) rfl dX5_feeler_21 ?_
  refine va_get (D := (dC, dI)) (ci := 2) (v := .ref (a 5)) (C := RX2) (T := TX2) (N := 12) hx hb huX2 (fun _ h9 => h9) hown hK hP 1 rfl rfl 1 (by decide) w115 (fun _ h9 => h9) rfl dX5_feeler_24 ?_
  refine lv_iload_n hx hb dX5_feeler_27 rfl (lv_at hl 1 rfl) ?_
  obtain ⟨v3, g4, h⟩ := o_b h
  refine k_ro (va_runV (As := [.int x1]) (rest := []) ⟨hx, hb, hml, hown, hts⟩ (c_X1_feedOf l dC dI cI cF (fun i => a (i + 5)) (g_X2_feeler (g_X5_frame S)) x1 v3 g4) (cwV 1 hts gX5_feeler_X1_feedOf rfl rfl rfl (by decide +kernel) ⟨Nat.le_of_ble_eq_true rfl, Nat.le_of_ble_eq_true rfl⟩) (k_preL (q0 := 0) (ci := 1) hK hP (LX5_frame a cI cF S (s_X2_feeler (g_X5_frame S) (g_X2_feeler (g_X5_frame S))) (LX2_feeler (fun i => a (i + 1)) cI cF (g_X5_frame S) (g_X2_feeler (g_X5_frame S)) (LN_id (fX1 (fun i => a (i + 5)) cI cF (g_X2_feeler (g_X5_frame S)) (g_X2_feeler (g_X5_frame S)))))) rfl rfl rfl) rfl rfl hl.1 rfl (lv_room (Nat.le_of_ble_eq_true rfl)) dX5_feeler_28 ⟨Nat.zero_le _, Nat.zero_le _⟩) (st1 := [.int v3]) rfl ?_
  have hu := Sum.inr.inj (Option.some.inj h)
  exact W.iret (v := v3) hx hb hr (fun t ht hW => ⟨congrArg (fun z => Outcome.returned (some (Value.int z))) hu, ht⟩) (fun q hq => absurd hq List.not_mem_nil) dX5_feeler_31

def m_X5_count (S : S_X5) (x1 : Int32) : Option ((Nat) ⊕ (Int32)) := if x1 = 0 then (some (.inr (g_X2_steps (g_X5_frame S)))) else if x1 = 1 then (some (.inr (g_X2_fed (g_X5_frame S)))) else if x1 = 2 then (some (.inr (g_X2_taker (g_X5_frame S)))) else if x1 = 3 then (if (g_X2_stopped (g_X5_frame S)) = 0 then (some (.inr (0 : Int32))) else (some (.inr (1 : Int32)))) else if x1 = 4 then (some (.inr (g_X2_latestDraft (g_X5_frame S)))) else if x1 = 5 then (some (.inr (g_X2_lapped (g_X5_frame S)))) else if x1 = 6 then (some (.inr (g_X2_waste (g_X5_frame S)))) else if x1 = 7 then (some (.inr (g_X2_filled (g_X5_frame S)))) else if x1 = 8 then ((m_X0_sumOfAll (g_X2_cans (g_X5_frame S))).bind fun v11 => (some (.inr v11))) else if x1 = 9 then (some (.inr ((g_X2_filled (g_X5_frame S)) - (g_X2_waste (g_X5_frame S))))) else if x1 = 10 then (some (.inr (g_X2_cameOut (g_X5_frame S)))) else if x1 = 11 then ((m_X3_savedCount (g_X5_history S)).bind fun v16 => (some (.inr v16))) else (some (.inl 2))
set_option maxHeartbeats 4000000 in
set_option maxRecDepth 100000 in
theorem c_X5_count (l : Launch) (dC : Nat → ClassId) (dI : Nat → Nat → Nat) (cI cF : ClassId) (a : Nat → Nat) (S : S_X5) (x1 : Int32) (u : Int32) (h : m_X5_count S x1 = some (.inr u)) : cRO l (dC, dI) cI cF yX5_count wsX5_count ({ frames := 4, cells := 0, slots := 0, locals := 90 } : Room) [.ref (a 0), .int x1] (wX5 a cI cF S) (some (.int u)) := by
  refine Met.ofW (cc := cX5_count) (maxL := 2) (ret := (some .int)) (by decide) rfl ?_
  intro p e s m args below meth c s₁ B hml hv
  obtain ⟨hargs, hP, hK⟩ := hv
  subst hargs
  have hx := B.exec
  have hb := B.bytes
  have hr := B.returns
  have hts := atoms_spec (ws := wsX5_count) B.pre
  have hown : s.vm.findClass RX5 = some m.cls := findClass_of_methodNamed B.named
  have hlocks := B.notSynchronized
  have w10 := hts (.fieldLink RX5 10 "DrawnSlivers" "frame" "LDrawnSlivers$Frame;") (List.mem_of_getElem? (i := 3) rfl)
  have w112 := hts (.fieldLink RX5 112 "DrawnSlivers$Frame" "fed" "I") (List.mem_of_getElem? (i := 5) rfl)
  have w124 := hts (.fieldLink RX5 124 "DrawnSlivers$Frame" "taker" "I") (List.mem_of_getElem? (i := 6) rfl)
  have w135 := hts (.fieldLink RX5 135 "DrawnSlivers$Frame" "stopped" "Z") (List.mem_of_getElem? (i := 7) rfl)
  have w175 := hts (.fieldLink RX5 175 "DrawnSlivers$Frame" "steps" "I") (List.mem_of_getElem? (i := 4) rfl)
  have w180 := hts (.methodLink RX5 180 yX3_savedCount) (List.mem_of_getElem? (i := 34) rfl)
  have w216 := hts (.fieldLink RX5 216 "DrawnSlivers$Frame" "latestDraft" "I") (List.mem_of_getElem? (i := 8) rfl)
  have w219 := hts (.fieldLink RX5 219 "DrawnSlivers$Frame" "lapped" "I") (List.mem_of_getElem? (i := 9) rfl)
  have w222 := hts (.fieldLink RX5 222 "DrawnSlivers$Frame" "filled" "I") (List.mem_of_getElem? (i := 11) rfl)
  have w225 := hts (.methodLink RX5 225 yX0_sumOfAll) (List.mem_of_getElem? (i := 15) rfl)
  have w228 := hts (.fieldLink RX5 228 "DrawnSlivers$Frame" "cameOut" "I") (List.mem_of_getElem? (i := 13) rfl)
  have w25 := hts (.fieldLink RX5 25 "DrawnSlivers" "history" "LDrawnSlivers$History;") (List.mem_of_getElem? (i := 14) rfl)
  have w60 := hts (.fieldLink RX5 60 "DrawnSlivers$Frame" "cans" "LDrawnSlivers$Cans;") (List.mem_of_getElem? (i := 12) rfl)
  have w99 := hts (.fieldLink RX5 99 "DrawnSlivers$Frame" "waste" "I") (List.mem_of_getElem? (i := 10) rfl)
  have huX2 : ∀ w ∈ u_ws RX2 TX2 12, w.before _ s = true := fun w h => hts w (List.mem_cons_of_mem _ (List.mem_append_left _ (List.mem_append_left _ (List.mem_append_left _ (List.mem_append_right _ (h))))))
  have huX5 : ∀ w ∈ u_ws RX5 TX5 6, w.before _ s = true := fun w h => hts w (List.mem_cons_of_mem _ (List.mem_append_left _ (List.mem_append_left _ (List.mem_append_left _ (List.mem_append_left _ (List.mem_append_right _ (h)))))))
  have hl := lv_entry ([.ref (a 0), .int x1]) (n := 2) (Nat.le_of_ble_eq_true rfl)
  rw [lg_entry_eq]
  generalize (lg_sl ([.ref (a 0), .int x1]) ++ List.replicate (2 - (lg_sl ([.ref (a 0), .int x1])).length) Slot.unset).toArray = ls at hl ⊢
  have hl : lv_has ls 2 [(0, .ref (a 0)), (1, .int x1)] := hl
  rw [m_X5_count] at h
  refine lv_iload_n hx hb dX5_count_0 rfl (lv_at hl 1 rfl) ?_
  by_cases c_0 : x1 = 0
  · have h := o_t h c_0
    refine k_swIn (v := 0) (off := 63) (tgt := 64) hx hb c_0 dX5_count_1 (by decide) (by decide) (by decide +kernel) (by decide) ?_
    refine lv_aload_n hx hb dX5_count_64 rfl (lv_at hl 0 rfl) ?_
    refine va_get (D := (dC, dI)) (ci := 5) (v := .ref (a 1)) (C := RX5) (T := TX5) (N := 6) hx hb huX5 (fun _ h9 => h9) hown hK hP 0 rfl rfl 0 (by decide) w10 (fun _ h9 => h9) rfl dX5_count_65 ?_
    refine va_get (D := (dC, dI)) (ci := 2) (v := .int (g_X2_steps (g_X5_frame S))) (C := RX2) (T := TX2) (N := 12) hx hb huX2 (fun _ h9 => h9) hown hK hP 1 rfl rfl 6 (by decide) w175 (fun _ h9 => h9) rfl dX5_count_68 ?_
    have hu := Sum.inr.inj (Option.some.inj h)
    exact W.iret (v := g_X2_steps (g_X5_frame S)) hx hb hr (fun t ht hW => ⟨congrArg (fun z => Outcome.returned (some (Value.int z))) hu, ht⟩) (fun q hq => absurd hq List.not_mem_nil) dX5_count_71
  have h := o_f h c_0
  by_cases c_1 : x1 = 1
  · have h := o_t h c_1
    refine k_swIn (v := 1) (off := 71) (tgt := 72) hx hb c_1 dX5_count_1 (by decide) (by decide) (by decide +kernel) (by decide) ?_
    refine lv_aload_n hx hb dX5_count_72 rfl (lv_at hl 0 rfl) ?_
    refine va_get (D := (dC, dI)) (ci := 5) (v := .ref (a 1)) (C := RX5) (T := TX5) (N := 6) hx hb huX5 (fun _ h9 => h9) hown hK hP 0 rfl rfl 0 (by decide) w10 (fun _ h9 => h9) rfl dX5_count_73 ?_
    refine va_get (D := (dC, dI)) (ci := 2) (v := .int (g_X2_fed (g_X5_frame S))) (C := RX2) (T := TX2) (N := 12) hx hb huX2 (fun _ h9 => h9) hown hK hP 1 rfl rfl 3 (by decide) w112 (fun _ h9 => h9) rfl dX5_count_76 ?_
    have hu := Sum.inr.inj (Option.some.inj h)
    exact W.iret (v := g_X2_fed (g_X5_frame S)) hx hb hr (fun t ht hW => ⟨congrArg (fun z => Outcome.returned (some (Value.int z))) hu, ht⟩) (fun q hq => absurd hq List.not_mem_nil) dX5_count_79
  have h := o_f h c_1
  by_cases c_2 : x1 = 2
  · have h := o_t h c_2
    refine k_swIn (v := 2) (off := 79) (tgt := 80) hx hb c_2 dX5_count_1 (by decide) (by decide) (by decide +kernel) (by decide) ?_
    refine lv_aload_n hx hb dX5_count_80 rfl (lv_at hl 0 rfl) ?_
    refine va_get (D := (dC, dI)) (ci := 5) (v := .ref (a 1)) (C := RX5) (T := TX5) (N := 6) hx hb huX5 (fun _ h9 => h9) hown hK hP 0 rfl rfl 0 (by decide) w10 (fun _ h9 => h9) rfl dX5_count_81 ?_
    refine va_get (D := (dC, dI)) (ci := 2) (v := .int (g_X2_taker (g_X5_frame S))) (C := RX2) (T := TX2) (N := 12) hx hb huX2 (fun _ h9 => h9) hown hK hP 1 rfl rfl 4 (by decide) w124 (fun _ h9 => h9) rfl dX5_count_84 ?_
    have hu := Sum.inr.inj (Option.some.inj h)
    exact W.iret (v := g_X2_taker (g_X5_frame S)) hx hb hr (fun t ht hW => ⟨congrArg (fun z => Outcome.returned (some (Value.int z))) hu, ht⟩) (fun q hq => absurd hq List.not_mem_nil) dX5_count_87
  have h := o_f h c_2
  by_cases c_3 : x1 = 3
  · have h := o_t h c_3
    refine k_swIn (v := 3) (off := 87) (tgt := 88) hx hb c_3 dX5_count_1 (by decide) (by decide) (by decide +kernel) (by decide) ?_
    refine lv_aload_n hx hb dX5_count_88 rfl (lv_at hl 0 rfl) ?_
    refine va_get (D := (dC, dI)) (ci := 5) (v := .ref (a 1)) (C := RX5) (T := TX5) (N := 6) hx hb huX5 (fun _ h9 => h9) hown hK hP 0 rfl rfl 0 (by decide) w10 (fun _ h9 => h9) rfl dX5_count_89 ?_
    refine va_get (D := (dC, dI)) (ci := 2) (v := .int (g_X2_stopped (g_X5_frame S))) (C := RX2) (T := TX2) (N := 12) hx hb huX2 (fun _ h9 => h9) hown hK hP 1 rfl rfl 5 (by decide) w135 (fun _ h9 => h9) rfl dX5_count_92 ?_
    refine lv_if_eq (tgt := 102) hx hb dX5_count_95 (by decide) (fun c5 => ?_) (fun c5 => ?_)
    · have h := o_t h c5
      refine lv_iconst (v := (0 : Int32)) hx hb dX5_count_102 (by decide) ?_
      have hu := Sum.inr.inj (Option.some.inj h)
      exact W.iret (v := (0 : Int32)) hx hb hr (fun t ht hW => ⟨congrArg (fun z => Outcome.returned (some (Value.int z))) hu, ht⟩) (fun q hq => absurd hq List.not_mem_nil) dX5_count_103
    have h := o_f h c5
    refine lv_iconst (v := (1 : Int32)) hx hb dX5_count_98 (by decide) ?_
    refine lv_goto (tgt := 103) hx hb dX5_count_99 (by decide) ?_
    have hu := Sum.inr.inj (Option.some.inj h)
    exact W.iret (v := (1 : Int32)) hx hb hr (fun t ht hW => ⟨congrArg (fun z => Outcome.returned (some (Value.int z))) hu, ht⟩) (fun q hq => absurd hq List.not_mem_nil) dX5_count_103
  have h := o_f h c_3
  by_cases c_4 : x1 = 4
  · have h := o_t h c_4
    refine k_swIn (v := 4) (off := 103) (tgt := 104) hx hb c_4 dX5_count_1 (by decide) (by decide) (by decide +kernel) (by decide) ?_
    refine lv_aload_n hx hb dX5_count_104 rfl (lv_at hl 0 rfl) ?_
    refine va_get (D := (dC, dI)) (ci := 5) (v := .ref (a 1)) (C := RX5) (T := TX5) (N := 6) hx hb huX5 (fun _ h9 => h9) hown hK hP 0 rfl rfl 0 (by decide) w10 (fun _ h9 => h9) rfl dX5_count_105 ?_
    refine va_get (D := (dC, dI)) (ci := 2) (v := .int (g_X2_latestDraft (g_X5_frame S))) (C := RX2) (T := TX2) (N := 12) hx hb huX2 (fun _ h9 => h9) hown hK hP 1 rfl rfl 7 (by decide) w216 (fun _ h9 => h9) rfl dX5_count_108 ?_
    have hu := Sum.inr.inj (Option.some.inj h)
    exact W.iret (v := g_X2_latestDraft (g_X5_frame S)) hx hb hr (fun t ht hW => ⟨congrArg (fun z => Outcome.returned (some (Value.int z))) hu, ht⟩) (fun q hq => absurd hq List.not_mem_nil) dX5_count_111
  have h := o_f h c_4
  by_cases c_5 : x1 = 5
  · have h := o_t h c_5
    refine k_swIn (v := 5) (off := 111) (tgt := 112) hx hb c_5 dX5_count_1 (by decide) (by decide) (by decide +kernel) (by decide) ?_
    refine lv_aload_n hx hb dX5_count_112 rfl (lv_at hl 0 rfl) ?_
    refine va_get (D := (dC, dI)) (ci := 5) (v := .ref (a 1)) (C := RX5) (T := TX5) (N := 6) hx hb huX5 (fun _ h9 => h9) hown hK hP 0 rfl rfl 0 (by decide) w10 (fun _ h9 => h9) rfl dX5_count_113 ?_
    refine va_get (D := (dC, dI)) (ci := 2) (v := .int (g_X2_lapped (g_X5_frame S))) (C := RX2) (T := TX2) (N := 12) hx hb huX2 (fun _ h9 => h9) hown hK hP 1 rfl rfl 8 (by decide) w219 (fun _ h9 => h9) rfl dX5_count_116 ?_
    have hu := Sum.inr.inj (Option.some.inj h)
    exact W.iret (v := g_X2_lapped (g_X5_frame S)) hx hb hr (fun t ht hW => ⟨congrArg (fun z => Outcome.returned (some (Value.int z))) hu, ht⟩) (fun q hq => absurd hq List.not_mem_nil) dX5_count_119
  have h := o_f h c_5
  by_cases c_6 : x1 = 6
  · have h := o_t h c_6
    refine k_swIn (v := 6) (off := 119) (tgt := 120) hx hb c_6 dX5_count_1 (by decide) (by decide) (by decide +kernel) (by decide) ?_
    refine lv_aload_n hx hb dX5_count_120 rfl (lv_at hl 0 rfl) ?_
    refine va_get (D := (dC, dI)) (ci := 5) (v := .ref (a 1)) (C := RX5) (T := TX5) (N := 6) hx hb huX5 (fun _ h9 => h9) hown hK hP 0 rfl rfl 0 (by decide) w10 (fun _ h9 => h9) rfl dX5_count_121 ?_
    refine va_get (D := (dC, dI)) (ci := 2) (v := .int (g_X2_waste (g_X5_frame S))) (C := RX2) (T := TX2) (N := 12) hx hb huX2 (fun _ h9 => h9) hown hK hP 1 rfl rfl 9 (by decide) w99 (fun _ h9 => h9) rfl dX5_count_124 ?_
    have hu := Sum.inr.inj (Option.some.inj h)
    exact W.iret (v := g_X2_waste (g_X5_frame S)) hx hb hr (fun t ht hW => ⟨congrArg (fun z => Outcome.returned (some (Value.int z))) hu, ht⟩) (fun q hq => absurd hq List.not_mem_nil) dX5_count_127
  have h := o_f h c_6
  by_cases c_7 : x1 = 7
  · have h := o_t h c_7
    refine k_swIn (v := 7) (off := 127) (tgt := 128) hx hb c_7 dX5_count_1 (by decide) (by decide) (by decide +kernel) (by decide) ?_
    refine lv_aload_n hx hb dX5_count_128 rfl (lv_at hl 0 rfl) ?_
    refine va_get (D := (dC, dI)) (ci := 5) (v := .ref (a 1)) (C := RX5) (T := TX5) (N := 6) hx hb huX5 (fun _ h9 => h9) hown hK hP 0 rfl rfl 0 (by decide) w10 (fun _ h9 => h9) rfl dX5_count_129 ?_
    refine va_get (D := (dC, dI)) (ci := 2) (v := .int (g_X2_filled (g_X5_frame S))) (C := RX2) (T := TX2) (N := 12) hx hb huX2 (fun _ h9 => h9) hown hK hP 1 rfl rfl 10 (by decide) w222 (fun _ h9 => h9) rfl dX5_count_132 ?_
    have hu := Sum.inr.inj (Option.some.inj h)
    exact W.iret (v := g_X2_filled (g_X5_frame S)) hx hb hr (fun t ht hW => ⟨congrArg (fun z => Outcome.returned (some (Value.int z))) hu, ht⟩) (fun q hq => absurd hq List.not_mem_nil) dX5_count_135
  have h := o_f h c_7
  by_cases c_8 : x1 = 8
  · have h := o_t h c_8
    refine k_swIn (v := 8) (off := 135) (tgt := 136) hx hb c_8 dX5_count_1 (by decide) (by decide) (by decide +kernel) (by decide) ?_
    refine lv_aload_n hx hb dX5_count_136 rfl (lv_at hl 0 rfl) ?_
    refine va_get (D := (dC, dI)) (ci := 5) (v := .ref (a 1)) (C := RX5) (T := TX5) (N := 6) hx hb huX5 (fun _ h9 => h9) hown hK hP 0 rfl rfl 0 (by decide) w10 (fun _ h9 => h9) rfl dX5_count_137 ?_
    refine va_get (D := (dC, dI)) (ci := 2) (v := .ref (a 2)) (C := RX2) (T := TX2) (N := 12) hx hb huX2 (fun _ h9 => h9) hown hK hP 1 rfl rfl 0 (by decide) w60 (fun _ h9 => h9) rfl dX5_count_140 ?_
    obtain ⟨v11, g12, h⟩ := o_b h
    refine k_ro (va_runV (As := []) (rest := []) ⟨hx, hb, hml, hown, hts⟩ (c_X0_sumOfAll l dC dI cI cF (fun i => a (i + 2)) (g_X2_cans (g_X5_frame S)) v11 g12) (cwV 0 hts gX5_count_X0_sumOfAll rfl rfl rfl (by decide +kernel) ⟨Nat.le_of_ble_eq_true rfl, Nat.le_of_ble_eq_true rfl⟩) (k_preL (q0 := 0) (ci := 0) hK hP (LX5_frame a cI cF S (s_X2_cans (g_X5_frame S) (g_X2_cans (g_X5_frame S))) (LX2_cans (fun i => a (i + 1)) cI cF (g_X5_frame S) (g_X2_cans (g_X5_frame S)) (LN_id (fX0 (fun i => a (i + 2)) cI cF (g_X2_cans (g_X5_frame S)) (g_X2_cans (g_X5_frame S)))))) rfl rfl rfl) rfl rfl hl.1 rfl (lv_room (Nat.le_of_ble_eq_true rfl)) dX5_count_143 ⟨Nat.zero_le _, Nat.zero_le _⟩) (st1 := [.int v11]) rfl ?_
    have hu := Sum.inr.inj (Option.some.inj h)
    exact W.iret (v := v11) hx hb hr (fun t ht hW => ⟨congrArg (fun z => Outcome.returned (some (Value.int z))) hu, ht⟩) (fun q hq => absurd hq List.not_mem_nil) dX5_count_146
  have h := o_f h c_8
  by_cases c_9 : x1 = 9
  · have h := o_t h c_9
    refine k_swIn (v := 9) (off := 146) (tgt := 147) hx hb c_9 dX5_count_1 (by decide) (by decide) (by decide +kernel) (by decide) ?_
    refine lv_aload_n hx hb dX5_count_147 rfl (lv_at hl 0 rfl) ?_
    refine va_get (D := (dC, dI)) (ci := 5) (v := .ref (a 1)) (C := RX5) (T := TX5) (N := 6) hx hb huX5 (fun _ h9 => h9) hown hK hP 0 rfl rfl 0 (by decide) w10 (fun _ h9 => h9) rfl dX5_count_148 ?_
    refine va_get (D := (dC, dI)) (ci := 2) (v := .int (g_X2_filled (g_X5_frame S))) (C := RX2) (T := TX2) (N := 12) hx hb huX2 (fun _ h9 => h9) hown hK hP 1 rfl rfl 10 (by decide) w222 (fun _ h9 => h9) rfl dX5_count_151 ?_
    refine lv_aload_n hx hb dX5_count_154 rfl (lv_at hl 0 rfl) ?_
    refine va_get (D := (dC, dI)) (ci := 5) (v := .ref (a 1)) (C := RX5) (T := TX5) (N := 6) hx hb huX5 (fun _ h9 => h9) hown hK hP 0 rfl rfl 0 (by decide) w10 (fun _ h9 => h9) rfl dX5_count_155 ?_
    refine va_get (D := (dC, dI)) (ci := 2) (v := .int (g_X2_waste (g_X5_frame S))) (C := RX2) (T := TX2) (N := 12) hx hb huX2 (fun _ h9 => h9) hown hK hP 1 rfl rfl 9 (by decide) w99 (fun _ h9 => h9) rfl dX5_count_158 ?_
    refine lv_isub hx hb dX5_count_161 ?_
    have hu := Sum.inr.inj (Option.some.inj h)
    exact W.iret (v := (g_X2_filled (g_X5_frame S)) - (g_X2_waste (g_X5_frame S))) hx hb hr (fun t ht hW => ⟨congrArg (fun z => Outcome.returned (some (Value.int z))) hu, ht⟩) (fun q hq => absurd hq List.not_mem_nil) dX5_count_162
  have h := o_f h c_9
  by_cases c_10 : x1 = 10
  · have h := o_t h c_10
    refine k_swIn (v := 10) (off := 162) (tgt := 163) hx hb c_10 dX5_count_1 (by decide) (by decide) (by decide +kernel) (by decide) ?_
    refine lv_aload_n hx hb dX5_count_163 rfl (lv_at hl 0 rfl) ?_
    refine va_get (D := (dC, dI)) (ci := 5) (v := .ref (a 1)) (C := RX5) (T := TX5) (N := 6) hx hb huX5 (fun _ h9 => h9) hown hK hP 0 rfl rfl 0 (by decide) w10 (fun _ h9 => h9) rfl dX5_count_164 ?_
    refine va_get (D := (dC, dI)) (ci := 2) (v := .int (g_X2_cameOut (g_X5_frame S))) (C := RX2) (T := TX2) (N := 12) hx hb huX2 (fun _ h9 => h9) hown hK hP 1 rfl rfl 11 (by decide) w228 (fun _ h9 => h9) rfl dX5_count_167 ?_
    have hu := Sum.inr.inj (Option.some.inj h)
    exact W.iret (v := g_X2_cameOut (g_X5_frame S)) hx hb hr (fun t ht hW => ⟨congrArg (fun z => Outcome.returned (some (Value.int z))) hu, ht⟩) (fun q hq => absurd hq List.not_mem_nil) dX5_count_170
  have h := o_f h c_10
  by_cases c_11 : x1 = 11
  · have h := o_t h c_11
    refine k_swIn (v := 11) (off := 170) (tgt := 171) hx hb c_11 dX5_count_1 (by decide) (by decide) (by decide +kernel) (by decide) ?_
    refine lv_aload_n hx hb dX5_count_171 rfl (lv_at hl 0 rfl) ?_
    refine va_get (D := (dC, dI)) (ci := 5) (v := .ref (a 26)) (C := RX5) (T := TX5) (N := 6) hx hb huX5 (fun _ h9 => h9) hown hK hP 0 rfl rfl 3 (by decide) w25 (fun _ h9 => h9) rfl dX5_count_172 ?_
    obtain ⟨v16, g17, h⟩ := o_b h
    refine k_ro (va_runV (As := []) (rest := []) ⟨hx, hb, hml, hown, hts⟩ (c_X3_savedCount l dC dI cI cF (fun i => a (i + 26)) (g_X5_history S) v16 g17) (cwV 0 hts gX5_count_X3_savedCount rfl rfl rfl (by decide +kernel) ⟨Nat.le_of_ble_eq_true rfl, Nat.le_of_ble_eq_true rfl⟩) (k_preL (q0 := 0) (ci := 3) hK hP (LX5_history a cI cF S (g_X5_history S) (LN_id (fX3 (fun i => a (i + 26)) cI cF (g_X5_history S) (g_X5_history S)))) rfl rfl rfl) rfl rfl hl.1 rfl (lv_room (Nat.le_of_ble_eq_true rfl)) dX5_count_175 ⟨Nat.zero_le _, Nat.zero_le _⟩) (st1 := [.int v16]) rfl ?_
    have hu := Sum.inr.inj (Option.some.inj h)
    exact W.iret (v := v16) hx hb hr (fun t ht hW => ⟨congrArg (fun z => Outcome.returned (some (Value.int z))) hu, ht⟩) (fun q hq => absurd hq List.not_mem_nil) dX5_count_178
  have h := o_f h c_11
  refine lv_tableOut (tgt := 179) hx hb dX5_count_1 (k_swOut 11 (by decide) _ (fun k hk => ?_)) (by decide) ?_
  · rcases (show k = 0 ∨ k = 1 ∨ k = 2 ∨ k = 3 ∨ k = 4 ∨ k = 5 ∨ k = 6 ∨ k = 7 ∨ k = 8 ∨ k = 9 ∨ k = 10 ∨ k = 11 by omega) with rfl | rfl | rfl | rfl | rfl | rfl | rfl | rfl | rfl | rfl | rfl | rfl <;> first | exact c_0 | exact c_1 | exact c_2 | exact c_3 | exact c_4 | exact c_5 | exact c_6 | exact c_7 | exact c_8 | exact c_9 | exact c_10 | exact c_11
  cases h

def m_X5_why (S : S_X5) : Option (Int32) := (m_X2_whyNot (g_X5_frame S)).bind fun v1 => (some v1)
set_option maxHeartbeats 4000000 in
set_option maxRecDepth 100000 in
theorem c_X5_why (l : Launch) (dC : Nat → ClassId) (dI : Nat → Nat → Nat) (cI cF : ClassId) (a : Nat → Nat) (S : S_X5) (u : Int32) (h : m_X5_why S = some u) : cRO l (dC, dI) cI cF yX5_why wsX5_why ({ frames := 4, cells := 0, slots := 0, locals := 88 } : Room) [.ref (a 0)] (wX5 a cI cF S) (some (.int u)) := by
  refine Met.ofW (cc := cX5_why) (maxL := 1) (ret := (some .int)) (by decide) rfl ?_
  intro p e s m args below meth c s₁ B hml hv
  obtain ⟨hargs, hP, hK⟩ := hv
  subst hargs
  have hx := B.exec
  have hb := B.bytes
  have hr := B.returns
  have hts := atoms_spec (ws := wsX5_why) B.pre
  have hown : s.vm.findClass RX5 = some m.cls := findClass_of_methodNamed B.named
  have hlocks := B.notSynchronized
  have w10 := hts (.fieldLink RX5 10 "DrawnSlivers" "frame" "LDrawnSlivers$Frame;") (List.mem_of_getElem? (i := 1) rfl)
  have w233 := hts (.methodLink RX5 233 yX2_whyNot) (List.mem_of_getElem? (i := 2) rfl)
  have huX5 : ∀ w ∈ u_ws RX5 TX5 6, w.before _ s = true := fun w h => hts w (List.mem_cons_of_mem _ (List.mem_append_left _ (List.mem_append_left _ (List.mem_append_left _ (List.mem_append_right _ (h))))))
  have hl := lv_entry ([.ref (a 0)]) (n := 1) (Nat.le_of_ble_eq_true rfl)
  rw [lg_entry_eq]
  generalize (lg_sl ([.ref (a 0)]) ++ List.replicate (1 - (lg_sl ([.ref (a 0)])).length) Slot.unset).toArray = ls at hl ⊢
  have hl : lv_has ls 1 [(0, .ref (a 0))] := hl
  rw [m_X5_why] at h
  refine lv_aload_n hx hb dX5_why_0 rfl (lv_at hl 0 rfl) ?_
  refine va_get (D := (dC, dI)) (ci := 5) (v := .ref (a 1)) (C := RX5) (T := TX5) (N := 6) hx hb huX5 (fun _ h9 => h9) hown hK hP 0 rfl rfl 0 (by decide) w10 (fun _ h9 => h9) rfl dX5_why_1 ?_
  obtain ⟨v1, g2, h⟩ := o_b h
  refine k_ro (va_runV (As := []) (rest := []) ⟨hx, hb, hml, hown, hts⟩ (c_X2_whyNot l dC dI cI cF (fun i => a (i + 1)) (g_X5_frame S) v1 g2) (cwV 0 hts gX5_why_X2_whyNot rfl rfl rfl (by decide +kernel) ⟨Nat.le_of_ble_eq_true rfl, Nat.le_of_ble_eq_true rfl⟩) (k_preL (q0 := 0) (ci := 2) hK hP (LX5_frame a cI cF S (g_X5_frame S) (LN_id (fX2 (fun i => a (i + 1)) cI cF (g_X5_frame S) (g_X5_frame S)))) rfl rfl rfl) rfl rfl hl.1 rfl (lv_room (Nat.le_of_ble_eq_true rfl)) dX5_why_4 ⟨Nat.zero_le _, Nat.zero_le _⟩) (st1 := [.int v1]) rfl ?_
  have hu := Option.some.inj h
  exact W.iret (v := v1) hx hb hr (fun t ht hW => ⟨congrArg (fun z => Outcome.returned (some (Value.int z))) hu, ht⟩) (fun q hq => absurd hq List.not_mem_nil) dX5_why_7

def m_X5_bestFeed_L71 (S : S_X5) : Nat → Int32 → Int32 → Int32 → Int32 → Int32 → Int32 → Option ((Nat) ⊕ (Int32))
  | 0, _, _, _, _, _, _ => none
  | n + 1, y1, y2, y3, y4, y5, y6 => if (256 : Int32) ≤ y6 then (some (.inr y4)) else (if (y6 &&& y3) = 0 then ((m_J6_bitCount_0f7a4 y6).bind fun v17 => (if v17 = y1 then ((m_X0_frontsOf (g_X2_cans (g_X5_frame S)) y6).bind fun v22 => (nmL ((if 0 ≤ (v22 - y2) then v22 - y2 else 0 - (v22 - y2))) fun x7_24 => (if y4 = (-1 : Int32) then (nmL (y6 + 1) fun x6_27 => ((m_X5_bestFeed_L71 S n) y1 y2 y3 y6 x7_24 x6_27)) else (if y5 ≤ x7_24 then (nmL (y6 + 1) fun x6_30 => ((m_X5_bestFeed_L71 S n) y1 y2 y3 y4 y5 x6_30)) else (nmL (y6 + 1) fun x6_32 => ((m_X5_bestFeed_L71 S n) y1 y2 y3 y6 x7_24 x6_32)))))) else (nmL (y6 + 1) fun x6_20 => ((m_X5_bestFeed_L71 S n) y1 y2 y3 y4 y5 x6_20)))) else (nmL (y6 + 1) fun x6_15 => ((m_X5_bestFeed_L71 S n) y1 y2 y3 y4 y5 x6_15)))
def m_X5_bestFeed (S : S_X5) (x1 : Int32) : Option ((Nat) ⊕ (Int32)) := if x1 < (1 : Int32) then (some (.inl 2)) else (if x1 ≤ (6 : Int32) then ((m_X2_settingOf (g_X5_frame S) (1 : Int32)).bind fun v3 => ((m_X2_settingOf (g_X5_frame S) (2 : Int32)).bind fun v5 => (nmL (v3 * v5) fun x2_7 => ((m_X0_maskOfFilled (g_X2_cans (g_X5_frame S))).bind fun v9 => (nmL ((v9 ^^^ (-1 : Int32)) ||| ((1 : Int32) <<< ((g_X2_taker (g_X5_frame S)) &&& 31))) fun x3_11 => (m_X5_bestFeed_L71 S 4000 x1 x2_7 x3_11 (-1 : Int32) (0 : Int32) (1 : Int32))))))) else (some (.inl 2)))
set_option maxHeartbeats 4000000 in
set_option maxRecDepth 100000 in
theorem c_X5_bestFeed (l : Launch) (dC : Nat → ClassId) (dI : Nat → Nat → Nat) (cI cF : ClassId) (a : Nat → Nat) (S : S_X5) (x1 : Int32) (u : Int32) (h : m_X5_bestFeed S x1 = some (.inr u)) : cRO l (dC, dI) cI cF yX5_bestFeed wsX5_bestFeed ({ frames := 3, cells := 0, slots := 0, locals := 67 } : Room) [.ref (a 0), .int x1] (wX5 a cI cF S) (some (.int u)) := by
  refine Met.ofW (cc := cX5_bestFeed) (maxL := 8) (ret := (some .int)) (by decide) rfl ?_
  intro p e s m args below meth c s₁ B hml hv
  obtain ⟨hargs, hP, hK⟩ := hv
  subst hargs
  have hx := B.exec
  have hb := B.bytes
  have hr := B.returns
  have hts := atoms_spec (ws := wsX5_bestFeed) B.pre
  have hown : s.vm.findClass RX5 = some m.cls := findClass_of_methodNamed B.named
  have hlocks := B.notSynchronized
  have w10 := hts (.fieldLink RX5 10 "DrawnSlivers" "frame" "LDrawnSlivers$Frame;") (List.mem_of_getElem? (i := 3) rfl)
  have w124 := hts (.fieldLink RX5 124 "DrawnSlivers$Frame" "taker" "I") (List.mem_of_getElem? (i := 5) rfl)
  have w149 := hts (.methodLink RX5 149 yX2_settingOf) (List.mem_of_getElem? (i := 10) rfl)
  have w240 := hts (.methodLink RX5 240 yX0_maskOfFilled) (List.mem_of_getElem? (i := 16) rfl)
  have w243 := hts (.methodLink RX5 243 yJ6_bitCount_0f7a4) (List.mem_of_getElem? (i := 22) rfl)
  have w248 := hts (.methodLink RX5 248 yX0_frontsOf) (List.mem_of_getElem? (i := 29) rfl)
  have w251 := hts (.methodLink RX5 251 Lib.Math.abs.name) (List.mem_of_getElem? (i := 6) rfl)
  have w60 := hts (.fieldLink RX5 60 "DrawnSlivers$Frame" "cans" "LDrawnSlivers$Cans;") (List.mem_of_getElem? (i := 4) rfl)
  have wlabsc := hts (.code Lib.Math.abs.name Lib.Math.abs.code 1 (some .int)) (List.mem_of_getElem? (i := 9) rfl)
  have wlabss := hts (.static Lib.Math.abs.name) (List.mem_of_getElem? (i := 7) rfl)
  have wlmi := hts (.initialized "java/lang/Math") (List.mem_of_getElem? (i := 8) rfl)
  have huX2 : ∀ w ∈ u_ws RX2 TX2 12, w.before _ s = true := fun w h => hts w (List.mem_cons_of_mem _ (List.mem_append_left _ (List.mem_append_left _ (List.mem_append_right _ (h)))))
  have huX5 : ∀ w ∈ u_ws RX5 TX5 6, w.before _ s = true := fun w h => hts w (List.mem_cons_of_mem _ (List.mem_append_left _ (List.mem_append_left _ (List.mem_append_left _ (List.mem_append_right _ (h))))))
  have L71 : ∀ (n : Nat), ∀ (y1 : Int32) (y2 : Int32) (y3 : Int32) (y4 : Int32) (y5 : Int32) (y6 : Int32), m_X5_bestFeed_L71 S n y1 y2 y3 y4 y5 y6 = some (.inr u) → ∀ (ls : Array Slot), lv_has ls 8 [(0, .ref (a 0)), (1, .int y1), (2, .int y2), (3, .int y3), (4, .int y4), (5, .int y5), (6, .int y6)] → W p l e (headSpec wsX5_bestFeed ({ frames := 3, cells := 0, slots := 0, locals := 67 } : Room)).room s m ([.ref (a 0), .int x1] : List Value).toArray below meth c s.heap [] 0 0 (MQ below (qRO (some (.int u))) ([.ref (a 0), .int x1] : List Value).toArray s 0 0 (fun _ => False)) (F0 m 71 ls []) := by
    intro  n
    induction n with
    | zero =>
      intro y1 y2 y3 y4 y5 y6 h
      exact (o_0 h).elim
    | succ n ih71 =>
      intro y1 y2 y3 y4 y5 y6 h ls hl
      rw [m_X5_bestFeed_L71] at h
      refine lv_iload hx hb dX5_bestFeed_71 (lv_at hl 6 rfl) ?_
      refine lv_sipush (v := (256 : Int32)) hx hb dX5_bestFeed_73 (by decide) ?_
      refine lv_icmp_ge (tgt := 141) hx hb dX5_bestFeed_76 (by decide) (fun c13 => ?_) (fun c13 => ?_)
      · have h := o_t h c13
        refine lv_iload hx hb dX5_bestFeed_141 (lv_at hl 4 rfl) ?_
        have hu := Sum.inr.inj (Option.some.inj h)
        exact W.iret (v := y4) hx hb hr (fun t ht hW => ⟨congrArg (fun z => Outcome.returned (some (Value.int z))) hu, ht⟩) (fun q hq => absurd hq List.not_mem_nil) dX5_bestFeed_143
      have h := o_f h c13
      refine lv_iload hx hb dX5_bestFeed_79 (lv_at hl 6 rfl) ?_
      refine lv_iload_n hx hb dX5_bestFeed_81 rfl (lv_at hl 3 rfl) ?_
      refine lv_iand hx hb dX5_bestFeed_82 ?_
      refine lv_if_ne (tgt := 135) hx hb dX5_bestFeed_83 (by decide) (fun c14 => ?_) (fun c14 => ?_)
      · have h := o_f h c14
        obtain ⟨x6_15, e16, h⟩ := o_n h
        refine lv_iinc (v := x6_15) (lv' := [(6, .int x6_15), (0, .ref (a 0)), (1, .int y1), (2, .int y2), (3, .int y3), (4, .int y4), (5, .int y5)]) hx hb dX5_bestFeed_135 hl (k := 6) rfl (by rw [e16]; rfl) (by decide) rfl (fun ls hl => ?_)
        refine lv_goto (tgt := 71) hx hb dX5_bestFeed_138 (by decide) ?_
        exact ih71 _ _ _ _ _ _ h _ (lv_sub hl [1, 2, 3, 4, 5, 6, 0] rfl)
      have h := o_t h c14
      refine lv_iload hx hb dX5_bestFeed_86 (lv_at hl 6 rfl) ?_
      obtain ⟨v17, g18, h⟩ := o_b h
      refine k_ro (va_runS (As := [.int y6]) (rest := []) ⟨hx, hb, hml, hown, hts⟩ (c_J6_bitCount_0f7a4 l dC dI cI cF y6 v17 g18) (va_cwS 1 hts gX5_bestFeed_J6_bitCount_0f7a4 rfl rfl rfl (by decide +kernel) ⟨Nat.le_of_ble_eq_true rfl, Nat.le_of_ble_eq_true rfl⟩) (k_prePU) rfl rfl hl.1 rfl (lv_room (Nat.le_of_ble_eq_true rfl)) dX5_bestFeed_88 ⟨Nat.zero_le _, Nat.zero_le _⟩) (st1 := [.int v17]) rfl ?_
      refine lv_iload_n hx hb dX5_bestFeed_91 rfl (lv_at hl 1 rfl) ?_
      refine lv_icmp_ne (tgt := 135) hx hb dX5_bestFeed_92 (by decide) (fun c19 => ?_) (fun c19 => ?_)
      · have h := o_f h c19
        obtain ⟨x6_20, e21, h⟩ := o_n h
        refine lv_iinc (v := x6_20) (lv' := [(6, .int x6_20), (0, .ref (a 0)), (1, .int y1), (2, .int y2), (3, .int y3), (4, .int y4), (5, .int y5)]) hx hb dX5_bestFeed_135 hl (k := 6) rfl (by rw [e21]; rfl) (by decide) rfl (fun ls hl => ?_)
        refine lv_goto (tgt := 71) hx hb dX5_bestFeed_138 (by decide) ?_
        exact ih71 _ _ _ _ _ _ h _ (lv_sub hl [1, 2, 3, 4, 5, 6, 0] rfl)
      have h := o_t h c19
      refine lv_aload_n hx hb dX5_bestFeed_95 rfl (lv_at hl 0 rfl) ?_
      refine va_get (D := (dC, dI)) (ci := 5) (v := .ref (a 1)) (C := RX5) (T := TX5) (N := 6) hx hb huX5 (fun _ h9 => h9) hown hK hP 0 rfl rfl 0 (by decide) w10 (fun _ h9 => h9) rfl dX5_bestFeed_96 ?_
      refine va_get (D := (dC, dI)) (ci := 2) (v := .ref (a 2)) (C := RX2) (T := TX2) (N := 12) hx hb huX2 (fun _ h9 => h9) hown hK hP 1 rfl rfl 0 (by decide) w60 (fun _ h9 => h9) rfl dX5_bestFeed_99 ?_
      refine lv_iload hx hb dX5_bestFeed_102 (lv_at hl 6 rfl) ?_
      obtain ⟨v22, g23, h⟩ := o_b h
      refine k_ro (va_runV (As := [.int y6]) (rest := []) ⟨hx, hb, hml, hown, hts⟩ (c_X0_frontsOf l dC dI cI cF (fun i => a (i + 2)) (g_X2_cans (g_X5_frame S)) y6 v22 g23) (cwV 1 hts gX5_bestFeed_X0_frontsOf rfl rfl rfl (by decide +kernel) ⟨Nat.le_of_ble_eq_true rfl, Nat.le_of_ble_eq_true rfl⟩) (k_preL (q0 := 0) (ci := 0) hK hP (LX5_frame a cI cF S (s_X2_cans (g_X5_frame S) (g_X2_cans (g_X5_frame S))) (LX2_cans (fun i => a (i + 1)) cI cF (g_X5_frame S) (g_X2_cans (g_X5_frame S)) (LN_id (fX0 (fun i => a (i + 2)) cI cF (g_X2_cans (g_X5_frame S)) (g_X2_cans (g_X5_frame S)))))) rfl rfl rfl) rfl rfl hl.1 rfl (lv_room (Nat.le_of_ble_eq_true rfl)) dX5_bestFeed_104 ⟨Nat.zero_le _, Nat.zero_le _⟩) (st1 := [.int v22]) rfl ?_
      refine lv_iload_n hx hb dX5_bestFeed_107 rfl (lv_at hl 2 rfl) ?_
      refine lv_isub hx hb dX5_bestFeed_108 ?_
      refine va_mabs hx hb (by rw [hml]; exact hl.1.symm) hown w251 wlabss wlmi wlabsc (Nat.le_of_ble_eq_true rfl) (Nat.le_of_ble_eq_true rfl) (Nat.zero_le _) (Nat.zero_le _) dX5_bestFeed_109 ?_
      obtain ⟨x7_24, e25, h⟩ := o_n h
      refine lv_nmi e25 ?_
      refine lv_istore (lv' := [(7, .int x7_24), (0, .ref (a 0)), (1, .int y1), (2, .int y2), (3, .int y3), (4, .int y4), (5, .int y5), (6, .int y6)]) hx hb dX5_bestFeed_112 hl (by decide) rfl (fun ls hl => ?_)
      refine lv_iload hx hb dX5_bestFeed_114 (lv_at hl 5 rfl) ?_
      refine lv_iconst (v := (-1 : Int32)) hx hb dX5_bestFeed_116 (by decide) ?_
      refine lv_icmp_eq (tgt := 127) hx hb dX5_bestFeed_117 (by decide) (fun c26 => ?_) (fun c26 => ?_)
      · have h := o_t h c26
        refine lv_iload hx hb dX5_bestFeed_127 (lv_at hl 0 rfl) ?_
        refine lv_istore (lv' := [(5, .int x7_24), (7, .int x7_24), (0, .ref (a 0)), (1, .int y1), (2, .int y2), (3, .int y3), (4, .int y4), (6, .int y6)]) hx hb dX5_bestFeed_129 hl (by decide) rfl (fun ls hl => ?_)
        refine lv_iload hx hb dX5_bestFeed_131 (lv_at hl 7 rfl) ?_
        refine lv_istore (lv' := [(4, .int y6), (5, .int x7_24), (7, .int x7_24), (0, .ref (a 0)), (1, .int y1), (2, .int y2), (3, .int y3), (6, .int y6)]) hx hb dX5_bestFeed_133 hl (by decide) rfl (fun ls hl => ?_)
        obtain ⟨x6_27, e28, h⟩ := o_n h
        refine lv_iinc (v := x6_27) (lv' := [(6, .int x6_27), (4, .int y6), (5, .int x7_24), (7, .int x7_24), (0, .ref (a 0)), (1, .int y1), (2, .int y2), (3, .int y3)]) hx hb dX5_bestFeed_135 hl (k := 7) rfl (by rw [e28]; rfl) (by decide) rfl (fun ls hl => ?_)
        refine lv_goto (tgt := 71) hx hb dX5_bestFeed_138 (by decide) ?_
        exact ih71 _ _ _ _ _ _ h _ (lv_sub hl [4, 5, 6, 7, 1, 2, 0] rfl)
      have h := o_f h c26
      refine lv_iload hx hb dX5_bestFeed_120 (lv_at hl 0 rfl) ?_
      refine lv_iload hx hb dX5_bestFeed_122 (lv_at hl 6 rfl) ?_
      refine lv_icmp_ge (tgt := 135) hx hb dX5_bestFeed_124 (by decide) (fun c29 => ?_) (fun c29 => ?_)
      · have h := o_t h c29
        obtain ⟨x6_30, e31, h⟩ := o_n h
        refine lv_iinc (v := x6_30) (lv' := [(6, .int x6_30), (7, .int x7_24), (0, .ref (a 0)), (1, .int y1), (2, .int y2), (3, .int y3), (4, .int y4), (5, .int y5)]) hx hb dX5_bestFeed_135 hl (k := 7) rfl (by rw [e31]; rfl) (by decide) rfl (fun ls hl => ?_)
        refine lv_goto (tgt := 71) hx hb dX5_bestFeed_138 (by decide) ?_
        exact ih71 _ _ _ _ _ _ h _ (lv_sub hl [2, 3, 4, 5, 6, 7, 0] rfl)
      have h := o_f h c29
      refine lv_iload hx hb dX5_bestFeed_127 (lv_at hl 0 rfl) ?_
      refine lv_istore (lv' := [(5, .int x7_24), (7, .int x7_24), (0, .ref (a 0)), (1, .int y1), (2, .int y2), (3, .int y3), (4, .int y4), (6, .int y6)]) hx hb dX5_bestFeed_129 hl (by decide) rfl (fun ls hl => ?_)
      refine lv_iload hx hb dX5_bestFeed_131 (lv_at hl 7 rfl) ?_
      refine lv_istore (lv' := [(4, .int y6), (5, .int x7_24), (7, .int x7_24), (0, .ref (a 0)), (1, .int y1), (2, .int y2), (3, .int y3), (6, .int y6)]) hx hb dX5_bestFeed_133 hl (by decide) rfl (fun ls hl => ?_)
      obtain ⟨x6_32, e33, h⟩ := o_n h
      refine lv_iinc (v := x6_32) (lv' := [(6, .int x6_32), (4, .int y6), (5, .int x7_24), (7, .int x7_24), (0, .ref (a 0)), (1, .int y1), (2, .int y2), (3, .int y3)]) hx hb dX5_bestFeed_135 hl (k := 7) rfl (by rw [e33]; rfl) (by decide) rfl (fun ls hl => ?_)
      refine lv_goto (tgt := 71) hx hb dX5_bestFeed_138 (by decide) ?_
      exact ih71 _ _ _ _ _ _ h _ (lv_sub hl [4, 5, 6, 7, 1, 2, 0] rfl)
  have hl := lv_entry ([.ref (a 0), .int x1]) (n := 8) (Nat.le_of_ble_eq_true rfl)
  rw [lg_entry_eq]
  generalize (lg_sl ([.ref (a 0), .int x1]) ++ List.replicate (8 - (lg_sl ([.ref (a 0), .int x1])).length) Slot.unset).toArray = ls at hl ⊢
  have hl : lv_has ls 8 [(0, .ref (a 0)), (1, .int x1)] := hl
  rw [m_X5_bestFeed] at h
  refine lv_iload_n hx hb dX5_bestFeed_0 rfl (lv_at hl 1 rfl) ?_
  refine lv_iconst (v := (1 : Int32)) hx hb dX5_bestFeed_1 (by decide) ?_
  refine lv_icmp_lt (tgt := 11) hx hb dX5_bestFeed_2 (by decide) (fun c1 => ?_) (fun c1 => ?_)
  · have h := o_t h c1
    cases h
  have h := o_f h c1
  refine lv_iload_n hx hb dX5_bestFeed_5 rfl (lv_at hl 1 rfl) ?_
  refine lv_bipush (v := (6 : Int32)) hx hb dX5_bestFeed_6 (by decide) ?_
  refine lv_icmp_le (tgt := 21) hx hb dX5_bestFeed_8 (by decide) (fun c2 => ?_) (fun c2 => ?_)
  rotate_left
  · have h := o_f h c2
    cases h
  have h := o_t h c2
  refine lv_aload_n hx hb dX5_bestFeed_21 rfl (lv_at hl 0 rfl) ?_
  refine va_get (D := (dC, dI)) (ci := 5) (v := .ref (a 1)) (C := RX5) (T := TX5) (N := 6) hx hb huX5 (fun _ h9 => h9) hown hK hP 0 rfl rfl 0 (by decide) w10 (fun _ h9 => h9) rfl dX5_bestFeed_22 ?_
  refine lv_iconst (v := (1 : Int32)) hx hb dX5_bestFeed_25 (by decide) ?_
  obtain ⟨v3, g4, h⟩ := o_b h
  refine k_ro (va_runV (As := [.int (1 : Int32)]) (rest := []) ⟨hx, hb, hml, hown, hts⟩ (c_X2_settingOf l dC dI cI cF (fun i => a (i + 1)) (g_X5_frame S) (1 : Int32) v3 g4) (cwV 1 hts gX5_bestFeed_X2_settingOf rfl rfl rfl (by decide +kernel) ⟨Nat.le_of_ble_eq_true rfl, Nat.le_of_ble_eq_true rfl⟩) (k_preL (q0 := 0) (ci := 2) hK hP (LX5_frame a cI cF S (g_X5_frame S) (LN_id (fX2 (fun i => a (i + 1)) cI cF (g_X5_frame S) (g_X5_frame S)))) rfl rfl rfl) rfl rfl hl.1 rfl (lv_room (Nat.le_of_ble_eq_true rfl)) dX5_bestFeed_26 ⟨Nat.zero_le _, Nat.zero_le _⟩) (st1 := [.int v3]) rfl ?_
  refine lv_aload_n hx hb dX5_bestFeed_29 rfl (lv_at hl 0 rfl) ?_
  refine va_get (D := (dC, dI)) (ci := 5) (v := .ref (a 1)) (C := RX5) (T := TX5) (N := 6) hx hb huX5 (fun _ h9 => h9) hown hK hP 0 rfl rfl 0 (by decide) w10 (fun _ h9 => h9) rfl dX5_bestFeed_30 ?_
  refine lv_iconst (v := (2 : Int32)) hx hb dX5_bestFeed_33 (by decide) ?_
  obtain ⟨v5, g6, h⟩ := o_b h
  refine k_ro (va_runV (As := [.int (2 : Int32)]) (rest := [.int v3]) ⟨hx, hb, hml, hown, hts⟩ (c_X2_settingOf l dC dI cI cF (fun i => a (i + 1)) (g_X5_frame S) (2 : Int32) v5 g6) (cwV 1 hts gX5_bestFeed_X2_settingOf rfl rfl rfl (by decide +kernel) ⟨Nat.le_of_ble_eq_true rfl, Nat.le_of_ble_eq_true rfl⟩) (k_preL (q0 := 0) (ci := 2) hK hP (LX5_frame a cI cF S (g_X5_frame S) (LN_id (fX2 (fun i => a (i + 1)) cI cF (g_X5_frame S) (g_X5_frame S)))) rfl rfl rfl) rfl rfl hl.1 rfl (lv_room (Nat.le_of_ble_eq_true rfl)) dX5_bestFeed_34 ⟨Nat.zero_le _, Nat.zero_le _⟩) (st1 := [.int v5, .int v3]) rfl ?_
  refine lv_imul hx hb dX5_bestFeed_37 ?_
  obtain ⟨x2_7, e8, h⟩ := o_n h
  refine lv_nmi e8 ?_
  refine lv_istore_n (lv' := [(2, .int x2_7), (0, .ref (a 0)), (1, .int x1)]) hx hb dX5_bestFeed_38 rfl hl (by decide) rfl (fun ls hl => ?_)
  refine lv_aload_n hx hb dX5_bestFeed_39 rfl (lv_at hl 1 rfl) ?_
  refine va_get (D := (dC, dI)) (ci := 5) (v := .ref (a 1)) (C := RX5) (T := TX5) (N := 6) hx hb huX5 (fun _ h9 => h9) hown hK hP 0 rfl rfl 0 (by decide) w10 (fun _ h9 => h9) rfl dX5_bestFeed_40 ?_
  refine va_get (D := (dC, dI)) (ci := 2) (v := .ref (a 2)) (C := RX2) (T := TX2) (N := 12) hx hb huX2 (fun _ h9 => h9) hown hK hP 1 rfl rfl 0 (by decide) w60 (fun _ h9 => h9) rfl dX5_bestFeed_43 ?_
  obtain ⟨v9, g10, h⟩ := o_b h
  refine k_ro (va_runV (As := []) (rest := []) ⟨hx, hb, hml, hown, hts⟩ (c_X0_maskOfFilled l dC dI cI cF (fun i => a (i + 2)) (g_X2_cans (g_X5_frame S)) v9 g10) (cwV 0 hts gX5_bestFeed_X0_maskOfFilled rfl rfl rfl (by decide +kernel) ⟨Nat.le_of_ble_eq_true rfl, Nat.le_of_ble_eq_true rfl⟩) (k_preL (q0 := 0) (ci := 0) hK hP (LX5_frame a cI cF S (s_X2_cans (g_X5_frame S) (g_X2_cans (g_X5_frame S))) (LX2_cans (fun i => a (i + 1)) cI cF (g_X5_frame S) (g_X2_cans (g_X5_frame S)) (LN_id (fX0 (fun i => a (i + 2)) cI cF (g_X2_cans (g_X5_frame S)) (g_X2_cans (g_X5_frame S)))))) rfl rfl rfl) rfl rfl hl.1 rfl (lv_room (Nat.le_of_ble_eq_true rfl)) dX5_bestFeed_46 ⟨Nat.zero_le _, Nat.zero_le _⟩) (st1 := [.int v9]) rfl ?_
  refine lv_iconst (v := (-1 : Int32)) hx hb dX5_bestFeed_49 (by decide) ?_
  refine lv_ixor hx hb dX5_bestFeed_50 ?_
  refine lv_iconst (v := (1 : Int32)) hx hb dX5_bestFeed_51 (by decide) ?_
  refine lv_aload_n hx hb dX5_bestFeed_52 rfl (lv_at hl 1 rfl) ?_
  refine va_get (D := (dC, dI)) (ci := 5) (v := .ref (a 1)) (C := RX5) (T := TX5) (N := 6) hx hb huX5 (fun _ h9 => h9) hown hK hP 0 rfl rfl 0 (by decide) w10 (fun _ h9 => h9) rfl dX5_bestFeed_53 ?_
  refine va_get (D := (dC, dI)) (ci := 2) (v := .int (g_X2_taker (g_X5_frame S))) (C := RX2) (T := TX2) (N := 12) hx hb huX2 (fun _ h9 => h9) hown hK hP 1 rfl rfl 4 (by decide) w124 (fun _ h9 => h9) rfl dX5_bestFeed_56 ?_
  refine lv_ishl hx hb dX5_bestFeed_59 ?_
  refine lv_ior hx hb dX5_bestFeed_60 ?_
  obtain ⟨x3_11, e12, h⟩ := o_n h
  refine lv_nmi e12 ?_
  refine lv_istore_n (lv' := [(3, .int x3_11), (2, .int x2_7), (0, .ref (a 0)), (1, .int x1)]) hx hb dX5_bestFeed_61 rfl hl (by decide) rfl (fun ls hl => ?_)
  refine lv_iconst (v := (-1 : Int32)) hx hb dX5_bestFeed_62 (by decide) ?_
  refine lv_istore (lv' := [(4, .int (-1 : Int32)), (3, .int x3_11), (2, .int x2_7), (0, .ref (a 0)), (1, .int x1)]) hx hb dX5_bestFeed_63 hl (by decide) rfl (fun ls hl => ?_)
  refine lv_iconst (v := (0 : Int32)) hx hb dX5_bestFeed_65 (by decide) ?_
  refine lv_istore (lv' := [(5, .int (0 : Int32)), (4, .int (-1 : Int32)), (3, .int x3_11), (2, .int x2_7), (0, .ref (a 0)), (1, .int x1)]) hx hb dX5_bestFeed_66 hl (by decide) rfl (fun ls hl => ?_)
  refine lv_iconst (v := (1 : Int32)) hx hb dX5_bestFeed_68 (by decide) ?_
  refine lv_istore (lv' := [(6, .int (1 : Int32)), (5, .int (0 : Int32)), (4, .int (-1 : Int32)), (3, .int x3_11), (2, .int x2_7), (0, .ref (a 0)), (1, .int x1)]) hx hb dX5_bestFeed_69 hl (by decide) rfl (fun ls hl => ?_)
  exact L71 _ _ _ _ _ _ _ h _ (lv_sub hl [5, 6, 4, 3, 2, 1, 0] rfl)

def m_X5_wasteShare (S : S_X5) : Option (UInt32) := if (g_X2_filled (g_X5_frame S)) = 0 then (some FP.fconst0) else (if (FP.fdiv (FP.i2f (g_X2_waste (g_X5_frame S))) (FP.i2f (g_X2_filled (g_X5_frame S)))) &&& 0x7fffffff ≤ 0x7f800000 then (some (FP.fdiv (FP.i2f (g_X2_waste (g_X5_frame S))) (FP.i2f (g_X2_filled (g_X5_frame S))))) else none)
set_option maxHeartbeats 4000000 in
set_option maxRecDepth 100000 in
theorem c_X5_wasteShare (l : Launch) (dC : Nat → ClassId) (dI : Nat → Nat → Nat) (cI cF : ClassId) (a : Nat → Nat) (S : S_X5) (u : UInt32) (h : m_X5_wasteShare S = some u) : cRO l (dC, dI) cI cF yX5_wasteShare wsX5_wasteShare ({ frames := 0, cells := 0, slots := 0, locals := 0 } : Room) [.ref (a 0)] (wX5 a cI cF S) (some (.float u)) := by
  refine Met.ofW (cc := cX5_wasteShare) (maxL := 1) (ret := (some .float)) (by decide) rfl ?_
  intro p e s m args below meth c s₁ B hml hv
  obtain ⟨hargs, hP, hK⟩ := hv
  subst hargs
  have hx := B.exec
  have hb := B.bytes
  have hr := B.returns
  have hts := atoms_spec (ws := wsX5_wasteShare) B.pre
  have hown : s.vm.findClass RX5 = some m.cls := findClass_of_methodNamed B.named
  have hlocks := B.notSynchronized
  have w10 := hts (.fieldLink RX5 10 "DrawnSlivers" "frame" "LDrawnSlivers$Frame;") (List.mem_of_getElem? (i := 1) rfl)
  have w222 := hts (.fieldLink RX5 222 "DrawnSlivers$Frame" "filled" "I") (List.mem_of_getElem? (i := 2) rfl)
  have w99 := hts (.fieldLink RX5 99 "DrawnSlivers$Frame" "waste" "I") (List.mem_of_getElem? (i := 3) rfl)
  have huX2 : ∀ w ∈ u_ws RX2 TX2 12, w.before _ s = true := fun w h => hts w (List.mem_cons_of_mem _ (List.mem_append_right _ (h)))
  have huX5 : ∀ w ∈ u_ws RX5 TX5 6, w.before _ s = true := fun w h => hts w (List.mem_cons_of_mem _ (List.mem_append_left _ (List.mem_append_right _ (h))))
  have hl := lv_entry ([.ref (a 0)]) (n := 1) (Nat.le_of_ble_eq_true rfl)
  rw [lg_entry_eq]
  generalize (lg_sl ([.ref (a 0)]) ++ List.replicate (1 - (lg_sl ([.ref (a 0)])).length) Slot.unset).toArray = ls at hl ⊢
  have hl : lv_has ls 1 [(0, .ref (a 0))] := hl
  rw [m_X5_wasteShare] at h
  refine lv_aload_n hx hb dX5_wasteShare_0 rfl (lv_at hl 0 rfl) ?_
  refine va_get (D := (dC, dI)) (ci := 5) (v := .ref (a 1)) (C := RX5) (T := TX5) (N := 6) hx hb huX5 (fun _ h9 => h9) hown hK hP 0 rfl rfl 0 (by decide) w10 (fun _ h9 => h9) rfl dX5_wasteShare_1 ?_
  refine va_get (D := (dC, dI)) (ci := 2) (v := .int (g_X2_filled (g_X5_frame S))) (C := RX2) (T := TX2) (N := 12) hx hb huX2 (fun _ h9 => h9) hown hK hP 1 rfl rfl 10 (by decide) w222 (fun _ h9 => h9) rfl dX5_wasteShare_4 ?_
  refine lv_if_ne (tgt := 14) hx hb dX5_wasteShare_7 (by decide) (fun c1 => ?_) (fun c1 => ?_)
  rotate_left
  · have h := o_t h c1
    refine lv_fconst0 hx hb dX5_wasteShare_10 ?_
    refine lv_goto (tgt := 31) hx hb dX5_wasteShare_11 (by decide) ?_
    have hu := Option.some.inj h
    exact W.fret (v := FP.fconst0) hx hb hr (fun t ht hW => ⟨congrArg (fun z => Outcome.returned (some (Value.float z))) hu, ht⟩) (fun q hq => absurd hq List.not_mem_nil) dX5_wasteShare_31
  have h := o_f h c1
  refine lv_aload_n hx hb dX5_wasteShare_14 rfl (lv_at hl 0 rfl) ?_
  refine va_get (D := (dC, dI)) (ci := 5) (v := .ref (a 1)) (C := RX5) (T := TX5) (N := 6) hx hb huX5 (fun _ h9 => h9) hown hK hP 0 rfl rfl 0 (by decide) w10 (fun _ h9 => h9) rfl dX5_wasteShare_15 ?_
  refine va_get (D := (dC, dI)) (ci := 2) (v := .int (g_X2_waste (g_X5_frame S))) (C := RX2) (T := TX2) (N := 12) hx hb huX2 (fun _ h9 => h9) hown hK hP 1 rfl rfl 9 (by decide) w99 (fun _ h9 => h9) rfl dX5_wasteShare_18 ?_
  refine lv_i2f hx hb dX5_wasteShare_21 ?_
  refine lv_aload_n hx hb dX5_wasteShare_22 rfl (lv_at hl 0 rfl) ?_
  refine va_get (D := (dC, dI)) (ci := 5) (v := .ref (a 1)) (C := RX5) (T := TX5) (N := 6) hx hb huX5 (fun _ h9 => h9) hown hK hP 0 rfl rfl 0 (by decide) w10 (fun _ h9 => h9) rfl dX5_wasteShare_23 ?_
  refine va_get (D := (dC, dI)) (ci := 2) (v := .int (g_X2_filled (g_X5_frame S))) (C := RX2) (T := TX2) (N := 12) hx hb huX2 (fun _ h9 => h9) hown hK hP 1 rfl rfl 10 (by decide) w222 (fun _ h9 => h9) rfl dX5_wasteShare_26 ?_
  refine lv_i2f hx hb dX5_wasteShare_29 ?_
  obtain ⟨i2, h⟩ := o_ok h
  refine lv_fdiv hx hb dX5_wasteShare_30 i2 ?_
  have hu := Option.some.inj h
  exact W.fret (v := FP.fdiv (FP.i2f (g_X2_waste (g_X5_frame S))) (FP.i2f (g_X2_filled (g_X5_frame S)))) hx hb hr (fun t ht hW => ⟨congrArg (fun z => Outcome.returned (some (Value.float z))) hu, ht⟩) (fun q hq => absurd hq List.not_mem_nil) dX5_wasteShare_31

def m_X5_isCan (x0 : Int32) : Option (Int32) := if x0 < 0 then (some (0 : Int32)) else (if (8 : Int32) ≤ x0 then (some (0 : Int32)) else (some (1 : Int32)))
set_option maxHeartbeats 4000000 in
set_option maxRecDepth 100000 in
theorem c_X5_isCan (l : Launch) (dC : Nat → ClassId) (dI : Nat → Nat → Nat) (cI cF : ClassId) (x0 : Int32) (u : Int32) (h : m_X5_isCan x0 = some u) : cPU l yX5_isCan wsX5_isCan ({ frames := 0, cells := 0, slots := 0, locals := 0 } : Room) [.int x0] (some (.int u)) := by
  refine Met.ofW (cc := cX5_isCan) (maxL := 1) (ret := (some .boolean)) (by decide) rfl ?_
  intro p e s m args below meth c s₁ B hml hv
  obtain ⟨hargs, -⟩ := hv
  subst hargs
  have hx := B.exec
  have hb := B.bytes
  have hr := B.returns
  have hts := atoms_spec (ws := wsX5_isCan) B.pre
  have hown : s.vm.findClass RX5 = some m.cls := findClass_of_methodNamed B.named
  have hlocks := B.notSynchronized
  have hl := lv_entry ([.int x0]) (n := 1) (Nat.le_of_ble_eq_true rfl)
  rw [lg_entry_eq]
  generalize (lg_sl ([.int x0]) ++ List.replicate (1 - (lg_sl ([.int x0])).length) Slot.unset).toArray = ls at hl ⊢
  have hl : lv_has ls 1 [(0, .int x0)] := hl
  rw [m_X5_isCan] at h
  refine lv_iload_n hx hb dX5_isCan_0 rfl (lv_at hl 0 rfl) ?_
  refine lv_if_lt (tgt := 14) hx hb dX5_isCan_1 (by decide) (fun c1 => ?_) (fun c1 => ?_)
  · have h := o_t h c1
    refine lv_iconst (v := (0 : Int32)) hx hb dX5_isCan_14 (by decide) ?_
    have hu := Option.some.inj h
    exact W.zret (v := (0 : Int32)) hx hb hr rfl (fun t ht hW => ⟨congrArg (fun z => Outcome.returned (some (Value.int z))) hu, ht⟩) (fun q hq => absurd hq List.not_mem_nil) dX5_isCan_15
  have h := o_f h c1
  refine lv_iload_n hx hb dX5_isCan_4 rfl (lv_at hl 0 rfl) ?_
  refine lv_bipush (v := (8 : Int32)) hx hb dX5_isCan_5 (by decide) ?_
  refine lv_icmp_ge (tgt := 14) hx hb dX5_isCan_7 (by decide) (fun c2 => ?_) (fun c2 => ?_)
  · have h := o_t h c2
    refine lv_iconst (v := (0 : Int32)) hx hb dX5_isCan_14 (by decide) ?_
    have hu := Option.some.inj h
    exact W.zret (v := (0 : Int32)) hx hb hr rfl (fun t ht hW => ⟨congrArg (fun z => Outcome.returned (some (Value.int z))) hu, ht⟩) (fun q hq => absurd hq List.not_mem_nil) dX5_isCan_15
  have h := o_f h c2
  refine lv_iconst (v := (1 : Int32)) hx hb dX5_isCan_10 (by decide) ?_
  refine lv_goto (tgt := 15) hx hb dX5_isCan_11 (by decide) ?_
  have hu := Option.some.inj h
  exact W.zret (v := (1 : Int32)) hx hb hr rfl (fun t ht hW => ⟨congrArg (fun z => Outcome.returned (some (Value.int z))) hu, ht⟩) (fun q hq => absurd hq List.not_mem_nil) dX5_isCan_15

def m_X5_isSetting (x0 : Int32) : Option (Int32) := if x0 < 0 then (some (0 : Int32)) else (if (5 : Int32) ≤ x0 then (some (0 : Int32)) else (some (1 : Int32)))
set_option maxHeartbeats 4000000 in
set_option maxRecDepth 100000 in
theorem c_X5_isSetting (l : Launch) (dC : Nat → ClassId) (dI : Nat → Nat → Nat) (cI cF : ClassId) (x0 : Int32) (u : Int32) (h : m_X5_isSetting x0 = some u) : cPU l yX5_isSetting wsX5_isSetting ({ frames := 0, cells := 0, slots := 0, locals := 0 } : Room) [.int x0] (some (.int u)) := by
  refine Met.ofW (cc := cX5_isSetting) (maxL := 1) (ret := (some .boolean)) (by decide) rfl ?_
  intro p e s m args below meth c s₁ B hml hv
  obtain ⟨hargs, -⟩ := hv
  subst hargs
  have hx := B.exec
  have hb := B.bytes
  have hr := B.returns
  have hts := atoms_spec (ws := wsX5_isSetting) B.pre
  have hown : s.vm.findClass RX5 = some m.cls := findClass_of_methodNamed B.named
  have hlocks := B.notSynchronized
  have hl := lv_entry ([.int x0]) (n := 1) (Nat.le_of_ble_eq_true rfl)
  rw [lg_entry_eq]
  generalize (lg_sl ([.int x0]) ++ List.replicate (1 - (lg_sl ([.int x0])).length) Slot.unset).toArray = ls at hl ⊢
  have hl : lv_has ls 1 [(0, .int x0)] := hl
  rw [m_X5_isSetting] at h
  refine lv_iload_n hx hb dX5_isSetting_0 rfl (lv_at hl 0 rfl) ?_
  refine lv_if_lt (tgt := 13) hx hb dX5_isSetting_1 (by decide) (fun c1 => ?_) (fun c1 => ?_)
  · have h := o_t h c1
    refine lv_iconst (v := (0 : Int32)) hx hb dX5_isSetting_13 (by decide) ?_
    have hu := Option.some.inj h
    exact W.zret (v := (0 : Int32)) hx hb hr rfl (fun t ht hW => ⟨congrArg (fun z => Outcome.returned (some (Value.int z))) hu, ht⟩) (fun q hq => absurd hq List.not_mem_nil) dX5_isSetting_14
  have h := o_f h c1
  refine lv_iload_n hx hb dX5_isSetting_4 rfl (lv_at hl 0 rfl) ?_
  refine lv_iconst (v := (5 : Int32)) hx hb dX5_isSetting_5 (by decide) ?_
  refine lv_icmp_ge (tgt := 13) hx hb dX5_isSetting_6 (by decide) (fun c2 => ?_) (fun c2 => ?_)
  · have h := o_t h c2
    refine lv_iconst (v := (0 : Int32)) hx hb dX5_isSetting_13 (by decide) ?_
    have hu := Option.some.inj h
    exact W.zret (v := (0 : Int32)) hx hb hr rfl (fun t ht hW => ⟨congrArg (fun z => Outcome.returned (some (Value.int z))) hu, ht⟩) (fun q hq => absurd hq List.not_mem_nil) dX5_isSetting_14
  have h := o_f h c2
  refine lv_iconst (v := (1 : Int32)) hx hb dX5_isSetting_9 (by decide) ?_
  refine lv_goto (tgt := 14) hx hb dX5_isSetting_10 (by decide) ?_
  have hu := Option.some.inj h
  exact W.zret (v := (1 : Int32)) hx hb hr rfl (fun t ht hW => ⟨congrArg (fun z => Outcome.returned (some (Value.int z))) hu, ht⟩) (fun q hq => absurd hq List.not_mem_nil) dX5_isSetting_14

