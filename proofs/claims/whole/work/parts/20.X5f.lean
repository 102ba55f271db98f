-- X5_bestLag X5_mean X5_mixCan
def m_X5_bestLag_L24 : Nat → Int32 → Int32 → Int32 → Int32 → S_X5 → Option ((Nat × S_X5) ⊕ (Int32 × S_X5))
  | 0, _, _, _, _, _ => none
  | n + 1, y1, y2, y3, y4, S => if (6 : Int32) < y4 then (some (.inr (y2, S))) else ((m_X2_copyFrom (g_X5_trial S) (g_X5_frame S)).bind fun v5 => ((m_X2_changeSetting v5 (0 : Int32) y4).bind fun v7 => ((m_X2_advance v7 y1).bind fun v9 => ((m_X0_stepsOf (g_X2_cans v9.2) (g_X2_taker v9.2)).bind fun v11 => (if y4 = 0 then (nmL (y4 + 1) fun x4_14 => ((m_X5_bestLag_L24 n) y1 y4 v11 x4_14 (s_X5_trial S v9.2))) else (if y3 ≤ v11 then (nmL (y4 + 1) fun x4_17 => ((m_X5_bestLag_L24 n) y1 y2 y3 x4_17 (s_X5_trial S v9.2))) else (nmL (y4 + 1) fun x4_19 => ((m_X5_bestLag_L24 n) y1 y4 v11 x4_19 (s_X5_trial S v9.2)))))))))
def m_X5_bestLag (S : S_X5) (x1 : Int32) : Option ((Nat × S_X5) ⊕ (Int32 × S_X5)) := (m_X5_isRunLength x1).bind fun v1 => (if v1 = 0 then (some (.inl (2, S))) else (m_X5_bestLag_L24 4000 x1 (0 : Int32) (0 : Int32) (0 : Int32) S))
set_option maxHeartbeats 4000000 in
set_option maxRecDepth 100000 in
theorem c_X5_bestLag (l : Launch) (dC : Nat → ClassId) (dI : Nat → Nat → Nat) (cI cF : ClassId) (a : Nat → Nat) (S : S_X5) (x1 : Int32) (u : Int32 × S_X5) (h : m_X5_bestLag S x1 = some (.inr u)) : cRW l (dC, dI) cI cF yX5_bestLag wsX5_bestLag ({ frames := 5, cells := 0, slots := 0, locals := 152 } : Room) [.ref (a 0), .int x1] (wX5 a cI cF S) (wX5 a cI cF u.2) (some (.int u.1)) := by
  intro sz
  refine Met.ofW (cc := cX5_bestLag) (maxL := 6) (ret := (some .int)) (by decide) rfl ?_
  intro p e s m args below meth c s₁ B hml hv
  obtain ⟨hargs, hsz, hP, hK, hD0⟩ := hv
  subst hargs
  have hx := B.exec
  have hb := B.bytes
  have hr := B.returns
  have hts := atoms_spec (ws := wsX5_bestLag) B.pre
  have hown : s.vm.findClass RX5 = some m.cls := findClass_of_methodNamed B.named
  have hlocks := B.notSynchronized
  have w10 := hts (.fieldLink RX5 10 "DrawnSlivers" "frame" "LDrawnSlivers$Frame;") (List.mem_of_getElem? (i := 4) rfl)
  have w124 := hts (.fieldLink RX5 124 "DrawnSlivers$Frame" "taker" "I") (List.mem_of_getElem? (i := 6) rfl)
  have w127 := hts (.methodLink RX5 127 yX5_isRunLength) (List.mem_of_getElem? (i := 7) rfl)
  have w132 := hts (.methodLink RX5 132 yX2_advance) (List.mem_of_getElem? (i := 58) rfl)
  have w152 := hts (.methodLink RX5 152 yX2_changeSetting) (List.mem_of_getElem? (i := 54) rfl)
  have w172 := hts (.methodLink RX5 172 yX2_copyFrom) (List.mem_of_getElem? (i := 11) rfl)
  have w19 := hts (.fieldLink RX5 19 "DrawnSlivers" "trial" "LDrawnSlivers$Frame;") (List.mem_of_getElem? (i := 3) rfl)
  have w197 := hts (.methodLink RX5 197 yX0_stepsOf) (List.mem_of_getElem? (i := 126) rfl)
  have w60 := hts (.fieldLink RX5 60 "DrawnSlivers$Frame" "cans" "LDrawnSlivers$Cans;") (List.mem_of_getElem? (i := 5) rfl)
  have huX2 : ∀ w ∈ u_ws RX2 TX2 12, w.before _ s = true := fun w h => hts w (List.mem_cons_of_mem _ (List.mem_append_left _ (List.mem_append_left _ (List.mem_append_left _ (List.mem_append_right _ (h))))))
  have huX5 : ∀ w ∈ u_ws RX5 TX5 6, w.before _ s = true := fun w h => hts w (List.mem_cons_of_mem _ (List.mem_append_left _ (List.mem_append_left _ (List.mem_append_left _ (List.mem_append_left _ (List.mem_append_right _ (h)))))))
  subst hsz
  have hD := hD0.self (sz := s.heap.size)
  generalize hAe : va_A (wX5 a cI cF S) s.heap.size = A at hD ⊢
  have hA : ∀ q : Nat, s.heap.size ≤ q → A q := fun q h => by rw [← hAe]; exact Or.inr h
  have hS : va_S A s.heap s.heap [] := va_S.rf
  have L24 : ∀ (n : Nat), ∀ (y1 : Int32) (y2 : Int32) (y3 : Int32) (y4 : Int32) (S : S_X5), m_X5_bestLag_L24 n y1 y2 y3 y4 S = some (.inr u) → ∀ (H : Heap) (locs : List Loc), va_P (dC, dI) vwCl (wX5 a cI cF S) H → va_D A (wX5 a cI cF S) → va_S A s.heap H locs → ∀ (ls : Array Slot), lv_has ls 6 [(0, .ref (a 0)), (1, .int y1), (2, .int y2), (3, .int y3), (4, .int y4)] → W p l e (headSpec wsX5_bestLag ({ frames := 5, cells := 0, slots := 0, locals := 152 } : Room)).room s m ([.ref (a 0), .int x1] : List Value).toArray below meth c H locs 0 0 (MQ below (qRW (dC, dI) (wX5 a cI cF u.2) (some (.int u.1)) A) ([.ref (a 0), .int x1] : List Value).toArray s 0 0 A) (F0 m 24 ls []) := by
    intro  n
    induction n with
    | zero =>
      intro y1 y2 y3 y4 S h
      exact (o_0 h).elim
    | succ n ih24 =>
      intro y1 y2 y3 y4 S h H locs hP hD hS ls hl
      rw [m_X5_bestLag_L24] at h
      refine lv_iload hx hb dX5_bestLag_24 (lv_at hl 4 rfl) ?_
      refine lv_bipush (v := (6 : Int32)) hx hb dX5_bestLag_26 (by decide) ?_
      refine lv_icmp_gt (tgt := 103) hx hb dX5_bestLag_28 (by decide) (fun c4 => ?_) (fun c4 => ?_)
      · have h := o_t h c4
        refine lv_iload_n hx hb dX5_bestLag_103 rfl (lv_at hl 2 rfl) ?_
        have hu := Sum.inr.inj (Option.some.inj h)
        exact W.iret (v := y2) hx hb hr (fun t ht hW => ⟨⟨congrArg (fun z => Outcome.returned (some (Value.int z.1))) hu, by rw [ht, ← hu]; exact hP⟩, hS.F ht⟩) hS.2.2 dX5_bestLag_104
      have h := o_f h c4
      refine lv_aload_n hx hb dX5_bestLag_31 rfl (lv_at hl 0 rfl) ?_
      refine va_get (D := (dC, dI)) (ci := 5) (v := .ref (a 15)) (C := RX5) (T := TX5) (N := 6) hx hb huX5 (fun _ h9 => h9) hown hK hP 0 rfl rfl 2 (by decide) w19 (fun _ h9 => h9) rfl dX5_bestLag_32 ?_
      refine lv_aload_n hx hb dX5_bestLag_35 rfl (lv_at hl 0 rfl) ?_
      refine va_get (D := (dC, dI)) (ci := 5) (v := .ref (a 1)) (C := RX5) (T := TX5) (N := 6) hx hb huX5 (fun _ h9 => h9) hown hK hP 0 rfl rfl 0 (by decide) w10 (fun _ h9 => h9) rfl dX5_bestLag_36 ?_
      obtain ⟨v5, g6, h⟩ := o_b h
      refine k_rwL (va_runV (As := [.ref (a 1)]) (rest := []) ⟨hx, hb, hml, hown, hts⟩ (c_X2_copyFrom l dC dI cI cF (fun i => a (i + 15)) (fun i => a (i + 1)) (g_X5_trial S) (g_X5_frame S) v5 g6 H.size) (cwV 1 hts gX5_bestLag_X2_copyFrom rfl rfl rfl (by decide +kernel) ⟨Nat.le_of_ble_eq_true rfl, Nat.le_of_ble_eq_true rfl⟩) (k_preLw (q0 := 0) (ci := 2) hK hP hD (LN_sw (LX5_frame_trial a cI cF S (g_X5_frame S) v5)) rfl rfl rfl) rfl rfl hl.1 rfl (lv_room (Nat.le_of_ble_eq_true rfl)) dX5_bestLag_39 ⟨Nat.zero_le _, Nat.zero_le _⟩) (st1 := []) rfl hP hD hS hA (wn := wX5 a cI cF (s_X5_trial S v5)) (LN_sw (LX5_frame_trial a cI cF S (g_X5_frame S) v5)) (fun H locs hP hD hS => ?_)
      refine lv_aload_n hx hb dX5_bestLag_42 rfl (lv_at hl 0 rfl) ?_
      refine va_get (D := (dC, dI)) (ci := 5) (v := .ref (a 15)) (C := RX5) (T := TX5) (N := 6) hx hb huX5 (fun _ h9 => h9) hown hK hP 0 rfl rfl 2 (by decide) w19 (fun _ h9 => h9) rfl dX5_bestLag_43 ?_
      refine lv_iconst (v := (0 : Int32)) hx hb dX5_bestLag_46 (by decide) ?_
      refine lv_iload hx hb dX5_bestLag_47 (lv_at hl 4 rfl) ?_
      obtain ⟨v7, g8, h⟩ := o_b h
      refine k_rwL (va_runV (As := [.int (0 : Int32), .int y4]) (rest := []) ⟨hx, hb, hml, hown, hts⟩ (c_X2_changeSetting l dC dI cI cF (fun i => a (i + 15)) v5 (0 : Int32) y4 v7 g8 H.size) (cwV 2 hts gX5_bestLag_X2_changeSetting rfl rfl rfl (by decide +kernel) ⟨Nat.le_of_ble_eq_true rfl, Nat.le_of_ble_eq_true rfl⟩) (k_preLw (q0 := 0) (ci := 2) hK hP hD (LX5_trial a cI cF (s_X5_trial S v5) v7 (LN_id (fX2 (fun i => a (i + 15)) cI cF v5 v7))) rfl rfl rfl) rfl rfl hl.1 rfl (lv_room (Nat.le_of_ble_eq_true rfl)) dX5_bestLag_49 ⟨Nat.zero_le _, Nat.zero_le _⟩) (st1 := []) rfl hP hD hS hA (wn := wX5 a cI cF (s_X5_trial S v7)) (LX5_trial a cI cF (s_X5_trial S v5) v7 (LN_id (fX2 (fun i => a (i + 15)) cI cF v5 v7))) (fun H locs hP hD hS => ?_)
      refine lv_aload_n hx hb dX5_bestLag_52 rfl (lv_at hl 0 rfl) ?_
      refine va_get (D := (dC, dI)) (ci := 5) (v := .ref (a 15)) (C := RX5) (T := TX5) (N := 6) hx hb huX5 (fun _ h9 => h9) hown hK hP 0 rfl rfl 2 (by decide) w19 (fun _ h9 => h9) rfl dX5_bestLag_53 ?_
      refine lv_iload_n hx hb dX5_bestLag_56 rfl (lv_at hl 1 rfl) ?_
      obtain ⟨v9, g10, h⟩ := o_b h
      refine k_rwL (va_runV (As := [.int y1]) (rest := []) ⟨hx, hb, hml, hown, hts⟩ (c_X2_advance l dC dI cI cF (fun i => a (i + 15)) v7 y1 v9 g10 H.size) (cwV 1 hts gX5_bestLag_X2_advance rfl rfl rfl (by decide +kernel) ⟨Nat.le_of_ble_eq_true rfl, Nat.le_of_ble_eq_true rfl⟩) (k_preLw (q0 := 0) (ci := 2) hK hP hD (LX5_trial a cI cF (s_X5_trial S v7) v9.2 (LN_id (fX2 (fun i => a (i + 15)) cI cF v7 v9.2))) rfl rfl rfl) rfl rfl hl.1 rfl (lv_room (Nat.le_of_ble_eq_true rfl)) dX5_bestLag_57 ⟨Nat.zero_le _, Nat.zero_le _⟩) (st1 := [.int v9.1]) rfl hP hD hS hA (wn := wX5 a cI cF (s_X5_trial S v9.2)) (LX5_trial a cI cF (s_X5_trial S v7) v9.2 (LN_id (fX2 (fun i => a (i + 15)) cI cF v7 v9.2))) (fun H locs hP hD hS => ?_)
      refine lv_pop hx hb dX5_bestLag_60 rfl ?_
      refine lv_aload_n hx hb dX5_bestLag_61 rfl (lv_at hl 0 rfl) ?_
      refine va_get (D := (dC, dI)) (ci := 5) (v := .ref (a 15)) (C := RX5) (T := TX5) (N := 6) hx hb huX5 (fun _ h9 => h9) hown hK hP 0 rfl rfl 2 (by decide) w19 (fun _ h9 => h9) rfl dX5_bestLag_62 ?_
      refine va_get (D := (dC, dI)) (ci := 2) (v := .ref (a 16)) (C := RX2) (T := TX2) (N := 12) hx hb huX2 (fun _ h9 => h9) hown hK hP 15 rfl rfl 0 (by decide) w60 (fun _ h9 => h9) rfl dX5_bestLag_65 ?_
      refine lv_aload_n hx hb dX5_bestLag_68 rfl (lv_at hl 0 rfl) ?_
      refine va_get (D := (dC, dI)) (ci := 5) (v := .ref (a 15)) (C := RX5) (T := TX5) (N := 6) hx hb huX5 (fun _ h9 => h9) hown hK hP 0 rfl rfl 2 (by decide) w19 (fun _ h9 => h9) rfl dX5_bestLag_69 ?_
      refine va_get (D := (dC, dI)) (ci := 2) (v := .int (g_X2_taker v9.2)) (C := RX2) (T := TX2) (N := 12) hx hb huX2 (fun _ h9 => h9) hown hK hP 15 rfl rfl 4 (by decide) w124 (fun _ h9 => h9) rfl dX5_bestLag_72 ?_
      obtain ⟨v11, g12, h⟩ := o_b h
      refine k_ro (va_runV (As := [.int (g_X2_taker v9.2)]) (rest := []) ⟨hx, hb, hml, hown, hts⟩ (c_X0_stepsOf l dC dI cI cF (fun i => a (i + 16)) (g_X2_cans v9.2) (g_X2_taker v9.2) v11 g12) (cwV 1 hts gX5_bestLag_X0_stepsOf rfl rfl rfl (by decide +kernel) ⟨Nat.le_of_ble_eq_true rfl, Nat.le_of_ble_eq_true rfl⟩) (k_preL (q0 := 0) (ci := 0) hK hP (LX5_trial a cI cF (s_X5_trial S v9.2) (s_X2_cans v9.2 (g_X2_cans v9.2)) (LX2_cans (fun i => a (i + 15)) cI cF v9.2 (g_X2_cans v9.2) (LN_id (fX0 (fun i => a (i + 16)) cI cF (g_X2_cans v9.2) (g_X2_cans v9.2))))) rfl rfl rfl) rfl rfl hl.1 rfl (lv_room (Nat.le_of_ble_eq_true rfl)) dX5_bestLag_75 ⟨Nat.zero_le _, Nat.zero_le _⟩) (st1 := [.int v11]) rfl ?_
      refine lv_istore (lv' := [(5, .int v11), (0, .ref (a 0)), (1, .int y1), (2, .int y2), (3, .int y3), (4, .int y4)]) hx hb dX5_bestLag_78 hl (by decide) rfl (fun ls hl => ?_)
      refine lv_iload hx hb dX5_bestLag_80 (lv_at hl 5 rfl) ?_
      refine lv_if_eq (tgt := 91) hx hb dX5_bestLag_82 (by decide) (fun c13 => ?_) (fun c13 => ?_)
      · have h := o_t h c13
        refine lv_iload hx hb dX5_bestLag_91 (lv_at hl 0 rfl) ?_
        refine lv_istore_n (lv' := [(3, .int v11), (5, .int v11), (0, .ref (a 0)), (1, .int y1), (2, .int y2), (4, .int y4)]) hx hb dX5_bestLag_93 rfl hl (by decide) rfl (fun ls hl => ?_)
        refine lv_iload hx hb dX5_bestLag_94 (lv_at hl 5 rfl) ?_
        refine lv_istore_n (lv' := [(2, .int y4), (3, .int v11), (5, .int v11), (0, .ref (a 0)), (1, .int y1), (4, .int y4)]) hx hb dX5_bestLag_96 rfl hl (by decide) rfl (fun ls hl => ?_)
        obtain ⟨x4_14, e15, h⟩ := o_n h
        refine lv_iinc (v := x4_14) (lv' := [(4, .int x4_14), (2, .int y4), (3, .int v11), (5, .int v11), (0, .ref (a 0)), (1, .int y1)]) hx hb dX5_bestLag_97 hl (k := 5) rfl (by rw [e15]; rfl) (by decide) rfl (fun ls hl => ?_)
        refine lv_goto (tgt := 24) hx hb dX5_bestLag_100 (by decide) ?_
        exact ih24 _ _ _ _ _ h _ _ hP hD hS _ (lv_sub hl [4, 5, 1, 2, 0] rfl)
      have h := o_f h c13
      refine lv_iload hx hb dX5_bestLag_85 (lv_at hl 0 rfl) ?_
      refine lv_iload_n hx hb dX5_bestLag_87 rfl (lv_at hl 4 rfl) ?_
      refine lv_icmp_ge (tgt := 97) hx hb dX5_bestLag_88 (by decide) (fun c16 => ?_) (fun c16 => ?_)
      · have h := o_t h c16
        obtain ⟨x4_17, e18, h⟩ := o_n h
        refine lv_iinc (v := x4_17) (lv' := [(4, .int x4_17), (5, .int v11), (0, .ref (a 0)), (1, .int y1), (2, .int y2), (3, .int y3)]) hx hb dX5_bestLag_97 hl (k := 5) rfl (by rw [e18]; rfl) (by decide) rfl (fun ls hl => ?_)
        refine lv_goto (tgt := 24) hx hb dX5_bestLag_100 (by decide) ?_
        exact ih24 _ _ _ _ _ h _ _ hP hD hS _ (lv_sub hl [2, 3, 4, 5, 0] rfl)
      have h := o_f h c16
      refine lv_iload hx hb dX5_bestLag_91 (lv_at hl 0 rfl) ?_
      refine lv_istore_n (lv' := [(3, .int v11), (5, .int v11), (0, .ref (a 0)), (1, .int y1), (2, .int y2), (4, .int y4)]) hx hb dX5_bestLag_93 rfl hl (by decide) rfl (fun ls hl => ?_)
      refine lv_iload hx hb dX5_bestLag_94 (lv_at hl 5 rfl) ?_
      refine lv_istore_n (lv' := [(2, .int y4), (3, .int v11), (5, .int v11), (0, .ref (a 0)), (1, .int y1), (4, .int y4)]) hx hb dX5_bestLag_96 rfl hl (by decide) rfl (fun ls hl => ?_)
      obtain ⟨x4_19, e20, h⟩ := o_n h
      refine lv_iinc (v := x4_19) (lv' := [(4, .int x4_19), (2, .int y4), (3, .int v11), (5, .int v11), (0, .ref (a 0)), (1, .int y1)]) hx hb dX5_bestLag_97 hl (k := 5) rfl (by rw [e20]; rfl) (by decide) rfl (fun ls hl => ?_)
      refine lv_goto (tgt := 24) hx hb dX5_bestLag_100 (by decide) ?_
      exact ih24 _ _ _ _ _ h _ _ hP hD hS _ (lv_sub hl [4, 5, 1, 2, 0] rfl)
  have hl := lv_entry ([.ref (a 0), .int x1]) (n := 6) (Nat.le_of_ble_eq_true rfl)
  rw [lg_entry_eq]
  generalize (lg_sl ([.ref (a 0), .int x1]) ++ List.replicate (6 - (lg_sl ([.ref (a 0), .int x1])).length) Slot.unset).toArray = ls at hl ⊢
  have hl : lv_has ls 6 [(0, .ref (a 0)), (1, .int x1)] := hl
  rw [m_X5_bestLag] at h
  refine lv_iload_n hx hb dX5_bestLag_0 rfl (lv_at hl 1 rfl) ?_
  obtain ⟨v1, g2, h⟩ := o_b h
  refine k_ro (va_runS (As := [.int x1]) (rest := []) ⟨hx, hb, hml, hown, hts⟩ (c_X5_isRunLength l dC dI cI cF x1 v1 g2) (va_cwS 1 hts gX5_bestLag_X5_isRunLength rfl rfl rfl (by decide +kernel) ⟨Nat.le_of_ble_eq_true rfl, Nat.le_of_ble_eq_true rfl⟩) (k_prePU) rfl rfl hl.1 rfl (lv_room (Nat.le_of_ble_eq_true rfl)) dX5_bestLag_1 ⟨Nat.zero_le _, Nat.zero_le _⟩) (st1 := [.int v1]) rfl ?_
  refine lv_if_ne (tgt := 17) hx hb dX5_bestLag_4 (by decide) (fun c3 => ?_) (fun c3 => ?_)
  rotate_left
  · have h := o_t h c3
    cases h
  have h := o_f h c3
  refine lv_iconst (v := (0 : Int32)) hx hb dX5_bestLag_17 (by decide) ?_
  refine lv_istore_n (lv' := [(2, .int (0 : Int32)), (0, .ref (a 0)), (1, .int x1)]) hx hb dX5_bestLag_18 rfl hl (by decide) rfl (fun ls hl => ?_)
  refine lv_iconst (v := (0 : Int32)) hx hb dX5_bestLag_19 (by decide) ?_
  refine lv_istore_n (lv' := [(3, .int (0 : Int32)), (2, .int (0 : Int32)), (0, .ref (a 0)), (1, .int x1)]) hx hb dX5_bestLag_20 rfl hl (by decide) rfl (fun ls hl => ?_)
  refine lv_iconst (v := (0 : Int32)) hx hb dX5_bestLag_21 (by decide) ?_
  refine lv_istore (lv' := [(4, .int (0 : Int32)), (3, .int (0 : Int32)), (2, .int (0 : Int32)), (0, .ref (a 0)), (1, .int x1)]) hx hb dX5_bestLag_22 hl (by decide) rfl (fun ls hl => ?_)
  exact L24 _ _ _ _ _ _ h _ _ hP hD hS _ (lv_sub hl [3, 4, 2, 1, 0] rfl)

set_option maxHeartbeats 4000000 in
set_option maxRecDepth 100000 in
theorem c_X5_bestLag_x (l : Launch) (hfl : l.stackTraces = false) (dC : Nat → ClassId) (dI : Nat → Nat → Nat) (cI cF : ClassId) (a : Nat → Nat) (S : S_X5) (x1 : Int32) (u : Nat × S_X5) (h : m_X5_bestLag S x1 = some (.inl u)) : ∀ sz : Nat, vx_Met l yX5_bestLag wsX5_bestLag ({ frames := 6, cells := 1, slots := 6, locals := 152 } : Room) (va_Pc [.ref (a 0), .int x1] (pRWe (dC, dI) cI cF (wX5 a cI cF S) sz)) (fun _ _ _ _ => False) (qX (dC, dI) (wX5 a cI cF u.2) (xnm u.1) (va_A (wX5 a cI cF S) sz)) 1 6 (va_A (wX5 a cI cF S) sz) := by
  intro sz
  refine vx_ofW (cc := cX5_bestLag) (maxL := 6) (ret := (some .int)) (by decide) rfl ?_
  intro p e s m args below meth c s₁ B hml hnx hv
  obtain ⟨hargs, ⟨hsz, hP, hK, hD0⟩, hE⟩ := hv
  subst hargs
  have hx := B.exec
  have hb := B.bytes
  have hr := B.returns
  have hts := atoms_spec (ws := wsX5_bestLag) B.pre
  have hown : s.vm.findClass RX5 = some m.cls := findClass_of_methodNamed B.named
  have hlocks := B.notSynchronized
  have w10 := hts (.fieldLink RX5 10 "DrawnSlivers" "frame" "LDrawnSlivers$Frame;") (List.mem_of_getElem? (i := 4) rfl)
  have w124 := hts (.fieldLink RX5 124 "DrawnSlivers$Frame" "taker" "I") (List.mem_of_getElem? (i := 6) rfl)
  have w127 := hts (.methodLink RX5 127 yX5_isRunLength) (List.mem_of_getElem? (i := 7) rfl)
  have w132 := hts (.methodLink RX5 132 yX2_advance) (List.mem_of_getElem? (i := 58) rfl)
  have w152 := hts (.methodLink RX5 152 yX2_changeSetting) (List.mem_of_getElem? (i := 54) rfl)
  have w172 := hts (.methodLink RX5 172 yX2_copyFrom) (List.mem_of_getElem? (i := 11) rfl)
  have w19 := hts (.fieldLink RX5 19 "DrawnSlivers" "trial" "LDrawnSlivers$Frame;") (List.mem_of_getElem? (i := 3) rfl)
  have w197 := hts (.methodLink RX5 197 yX0_stepsOf) (List.mem_of_getElem? (i := 126) rfl)
  have w55 := hts (.classLink RX5 55 "java/lang/IllegalArgumentException") (List.mem_of_getElem? (i := 1) rfl)
  have w60 := hts (.fieldLink RX5 60 "DrawnSlivers$Frame" "cans" "LDrawnSlivers$Cans;") (List.mem_of_getElem? (i := 5) rfl)
  have wix2 := hts (.initialized "java/lang/IllegalArgumentException") (List.mem_of_getElem? (i := 2) rfl)
  have huX2 : ∀ w ∈ u_ws RX2 TX2 12, w.before _ s = true := fun w h => hts w (List.mem_cons_of_mem _ (List.mem_append_left _ (List.mem_append_left _ (List.mem_append_left _ (List.mem_append_right _ (h))))))
  have huX5 : ∀ w ∈ u_ws RX5 TX5 6, w.before _ s = true := fun w h => hts w (List.mem_cons_of_mem _ (List.mem_append_left _ (List.mem_append_left _ (List.mem_append_left _ (List.mem_append_left _ (List.mem_append_right _ (h)))))))
  subst hsz
  have hD := hD0.self (sz := s.heap.size)
  generalize hAe : va_A (wX5 a cI cF S) s.heap.size = A at hD hE ⊢
  have hA : ∀ q : Nat, s.heap.size ≤ q → A q := fun q h => by rw [← hAe]; exact Or.inr h
  have hS : va_S A s.heap s.heap [] := va_S.rf
  have L24 : ∀ (n : Nat), ∀ (y1 : Int32) (y2 : Int32) (y3 : Int32) (y4 : Int32) (S : S_X5), m_X5_bestLag_L24 n y1 y2 y3 y4 S = some (.inl u) → ∀ (H : Heap) (locs : List Loc), va_P (dC, dI) vwCl (wX5 a cI cF S) H → va_D A (wX5 a cI cF S) → va_S A s.heap H locs → ∀ (ls : Array Slot), lv_has ls 6 [(0, .ref (a 0)), (1, .int y1), (2, .int y2), (3, .int y3), (4, .int y4)] → W p l e (headSpec wsX5_bestLag ({ frames := 6, cells := 1, slots := 6, locals := 152 } : Room)).room s m ([.ref (a 0), .int x1] : List Value).toArray below meth c H locs 0 0 (vx_MQ below (fun _ _ _ _ => False) (qX (dC, dI) (wX5 a cI cF u.2) (xnm u.1) A) ([.ref (a 0), .int x1] : List Value).toArray s 1 6 A) (F0 m 24 ls []) := by
    intro  n
    induction n with
    | zero =>
      intro y1 y2 y3 y4 S h
      exact (o_0 h).elim
    | succ n ih24 =>
      intro y1 y2 y3 y4 S h H locs hP hD hS ls hl
      rw [m_X5_bestLag_L24] at h
      refine lv_iload hx hb dX5_bestLag_24 (lv_at hl 4 rfl) ?_
      refine lv_bipush (v := (6 : Int32)) hx hb dX5_bestLag_26 (by decide) ?_
      refine lv_icmp_gt (tgt := 103) hx hb dX5_bestLag_28 (by decide) (fun c4 => ?_) (fun c4 => ?_)
      · have h := o_t h c4
        refine lv_iload_n hx hb dX5_bestLag_103 rfl (lv_at hl 2 rfl) ?_
        cases h
      have h := o_f h c4
      refine lv_aload_n hx hb dX5_bestLag_31 rfl (lv_at hl 0 rfl) ?_
      refine va_get (D := (dC, dI)) (ci := 5) (v := .ref (a 15)) (C := RX5) (T := TX5) (N := 6) hx hb huX5 (fun _ h9 => h9) hown hK hP 0 rfl rfl 2 (by decide) w19 (fun _ h9 => h9) rfl dX5_bestLag_32 ?_
      refine lv_aload_n hx hb dX5_bestLag_35 rfl (lv_at hl 0 rfl) ?_
      refine va_get (D := (dC, dI)) (ci := 5) (v := .ref (a 1)) (C := RX5) (T := TX5) (N := 6) hx hb huX5 (fun _ h9 => h9) hown hK hP 0 rfl rfl 0 (by decide) w10 (fun _ h9 => h9) rfl dX5_bestLag_36 ?_
      obtain ⟨v5, g6, h⟩ := o_b h
      refine k_rwL (va_runV (As := [.ref (a 1)]) (rest := []) ⟨hx, hb, hml, hown, hts⟩ (c_X2_copyFrom l dC dI cI cF (fun i => a (i + 15)) (fun i => a (i + 1)) (g_X5_trial S) (g_X5_frame S) v5 g6 H.size) (cwV 1 hts gX5_bestLag_X2_copyFrom rfl rfl rfl (by decide +kernel) ⟨Nat.le_of_ble_eq_true rfl, Nat.le_of_ble_eq_true rfl⟩) (k_preLw (q0 := 0) (ci := 2) hK hP hD (LN_sw (LX5_frame_trial a cI cF S (g_X5_frame S) v5)) rfl rfl rfl) rfl rfl hl.1 rfl (lv_room (Nat.le_of_ble_eq_true rfl)) dX5_bestLag_39 ⟨Nat.zero_le _, Nat.zero_le _⟩) (st1 := []) rfl hP hD hS hA (wn := wX5 a cI cF (s_X5_trial S v5)) (LN_sw (LX5_frame_trial a cI cF S (g_X5_frame S) v5)) (fun H locs hP hD hS => ?_)
      refine lv_aload_n hx hb dX5_bestLag_42 rfl (lv_at hl 0 rfl) ?_
      refine va_get (D := (dC, dI)) (ci := 5) (v := .ref (a 15)) (C := RX5) (T := TX5) (N := 6) hx hb huX5 (fun _ h9 => h9) hown hK hP 0 rfl rfl 2 (by decide) w19 (fun _ h9 => h9) rfl dX5_bestLag_43 ?_
      refine lv_iconst (v := (0 : Int32)) hx hb dX5_bestLag_46 (by decide) ?_
      refine lv_iload hx hb dX5_bestLag_47 (lv_at hl 4 rfl) ?_
      obtain ⟨v7, g8, h⟩ := o_b h
      refine k_rwL (va_runV (As := [.int (0 : Int32), .int y4]) (rest := []) ⟨hx, hb, hml, hown, hts⟩ (c_X2_changeSetting l dC dI cI cF (fun i => a (i + 15)) v5 (0 : Int32) y4 v7 g8 H.size) (cwV 2 hts gX5_bestLag_X2_changeSetting rfl rfl rfl (by decide +kernel) ⟨Nat.le_of_ble_eq_true rfl, Nat.le_of_ble_eq_true rfl⟩) (k_preLw (q0 := 0) (ci := 2) hK hP hD (LX5_trial a cI cF (s_X5_trial S v5) v7 (LN_id (fX2 (fun i => a (i + 15)) cI cF v5 v7))) rfl rfl rfl) rfl rfl hl.1 rfl (lv_room (Nat.le_of_ble_eq_true rfl)) dX5_bestLag_49 ⟨Nat.zero_le _, Nat.zero_le _⟩) (st1 := []) rfl hP hD hS hA (wn := wX5 a cI cF (s_X5_trial S v7)) (LX5_trial a cI cF (s_X5_trial S v5) v7 (LN_id (fX2 (fun i => a (i + 15)) cI cF v5 v7))) (fun H locs hP hD hS => ?_)
      refine lv_aload_n hx hb dX5_bestLag_52 rfl (lv_at hl 0 rfl) ?_
      refine va_get (D := (dC, dI)) (ci := 5) (v := .ref (a 15)) (C := RX5) (T := TX5) (N := 6) hx hb huX5 (fun _ h9 => h9) hown hK hP 0 rfl rfl 2 (by decide) w19 (fun _ h9 => h9) rfl dX5_bestLag_53 ?_
      refine lv_iload_n hx hb dX5_bestLag_56 rfl (lv_at hl 1 rfl) ?_
      obtain ⟨v9, g10, h⟩ := o_b h
      refine k_rwL (va_runV (As := [.int y1]) (rest := []) ⟨hx, hb, hml, hown, hts⟩ (c_X2_advance l dC dI cI cF (fun i => a (i + 15)) v7 y1 v9 g10 H.size) (cwV 1 hts gX5_bestLag_X2_advance rfl rfl rfl (by decide +kernel) ⟨Nat.le_of_ble_eq_true rfl, Nat.le_of_ble_eq_true rfl⟩) (k_preLw (q0 := 0) (ci := 2) hK hP hD (LX5_trial a cI cF (s_X5_trial S v7) v9.2 (LN_id (fX2 (fun i => a (i + 15)) cI cF v7 v9.2))) rfl rfl rfl) rfl rfl hl.1 rfl (lv_room (Nat.le_of_ble_eq_true rfl)) dX5_bestLag_57 ⟨Nat.zero_le _, Nat.zero_le _⟩) (st1 := [.int v9.1]) rfl hP hD hS hA (wn := wX5 a cI cF (s_X5_trial S v9.2)) (LX5_trial a cI cF (s_X5_trial S v7) v9.2 (LN_id (fX2 (fun i => a (i + 15)) cI cF v7 v9.2))) (fun H locs hP hD hS => ?_)
      refine lv_pop hx hb dX5_bestLag_60 rfl ?_
      refine lv_aload_n hx hb dX5_bestLag_61 rfl (lv_at hl 0 rfl) ?_
      refine va_get (D := (dC, dI)) (ci := 5) (v := .ref (a 15)) (C := RX5) (T := TX5) (N := 6) hx hb huX5 (fun _ h9 => h9) hown hK hP 0 rfl rfl 2 (by decide) w19 (fun _ h9 => h9) rfl dX5_bestLag_62 ?_
      refine va_get (D := (dC, dI)) (ci := 2) (v := .ref (a 16)) (C := RX2) (T := TX2) (N := 12) hx hb huX2 (fun _ h9 => h9) hown hK hP 15 rfl rfl 0 (by decide) w60 (fun _ h9 => h9) rfl dX5_bestLag_65 ?_
      refine lv_aload_n hx hb dX5_bestLag_68 rfl (lv_at hl 0 rfl) ?_
      refine va_get (D := (dC, dI)) (ci := 5) (v := .ref (a 15)) (C := RX5) (T := TX5) (N := 6) hx hb huX5 (fun _ h9 => h9) hown hK hP 0 rfl rfl 2 (by decide) w19 (fun _ h9 => h9) rfl dX5_bestLag_69 ?_
      refine va_get (D := (dC, dI)) (ci := 2) (v := .int (g_X2_taker v9.2)) (C := RX2) (T := TX2) (N := 12) hx hb huX2 (fun _ h9 => h9) hown hK hP 15 rfl rfl 4 (by decide) w124 (fun _ h9 => h9) rfl dX5_bestLag_72 ?_
      obtain ⟨v11, g12, h⟩ := o_b h
      refine k_ro (va_runV (As := [.int (g_X2_taker v9.2)]) (rest := []) ⟨hx, hb, hml, hown, hts⟩ (c_X0_stepsOf l dC dI cI cF (fun i => a (i + 16)) (g_X2_cans v9.2) (g_X2_taker v9.2) v11 g12) (cwV 1 hts gX5_bestLag_X0_stepsOf rfl rfl rfl (by decide +kernel) ⟨Nat.le_of_ble_eq_true rfl, Nat.le_of_ble_eq_true rfl⟩) (k_preL (q0 := 0) (ci := 0) hK hP (LX5_trial a cI cF (s_X5_trial S v9.2) (s_X2_cans v9.2 (g_X2_cans v9.2)) (LX2_cans (fun i => a (i + 15)) cI cF v9.2 (g_X2_cans v9.2) (LN_id (fX0 (fun i => a (i + 16)) cI cF (g_X2_cans v9.2) (g_X2_cans v9.2))))) rfl rfl rfl) rfl rfl hl.1 rfl (lv_room (Nat.le_of_ble_eq_true rfl)) dX5_bestLag_75 ⟨Nat.zero_le _, Nat.zero_le _⟩) (st1 := [.int v11]) rfl ?_
      refine lv_istore (lv' := [(5, .int v11), (0, .ref (a 0)), (1, .int y1), (2, .int y2), (3, .int y3), (4, .int y4)]) hx hb dX5_bestLag_78 hl (by decide) rfl (fun ls hl => ?_)
      refine lv_iload hx hb dX5_bestLag_80 (lv_at hl 5 rfl) ?_
      refine lv_if_eq (tgt := 91) hx hb dX5_bestLag_82 (by decide) (fun c13 => ?_) (fun c13 => ?_)
      · have h := o_t h c13
        refine lv_iload hx hb dX5_bestLag_91 (lv_at hl 0 rfl) ?_
        refine lv_istore_n (lv' := [(3, .int v11), (5, .int v11), (0, .ref (a 0)), (1, .int y1), (2, .int y2), (4, .int y4)]) hx hb dX5_bestLag_93 rfl hl (by decide) rfl (fun ls hl => ?_)
        refine lv_iload hx hb dX5_bestLag_94 (lv_at hl 5 rfl) ?_
        refine lv_istore_n (lv' := [(2, .int y4), (3, .int v11), (5, .int v11), (0, .ref (a 0)), (1, .int y1), (4, .int y4)]) hx hb dX5_bestLag_96 rfl hl (by decide) rfl (fun ls hl => ?_)
        obtain ⟨x4_14, e15, h⟩ := o_n h
        refine lv_iinc (v := x4_14) (lv' := [(4, .int x4_14), (2, .int y4), (3, .int v11), (5, .int v11), (0, .ref (a 0)), (1, .int y1)]) hx hb dX5_bestLag_97 hl (k := 5) rfl (by rw [e15]; rfl) (by decide) rfl (fun ls hl => ?_)
        refine lv_goto (tgt := 24) hx hb dX5_bestLag_100 (by decide) ?_
        exact ih24 _ _ _ _ _ h _ _ hP hD hS _ (lv_sub hl [4, 5, 1, 2, 0] rfl)
      have h := o_f h c13
      refine lv_iload hx hb dX5_bestLag_85 (lv_at hl 0 rfl) ?_
      refine lv_iload_n hx hb dX5_bestLag_87 rfl (lv_at hl 4 rfl) ?_
      refine lv_icmp_ge (tgt := 97) hx hb dX5_bestLag_88 (by decide) (fun c16 => ?_) (fun c16 => ?_)
      · have h := o_t h c16
        obtain ⟨x4_17, e18, h⟩ := o_n h
        refine lv_iinc (v := x4_17) (lv' := [(4, .int x4_17), (5, .int v11), (0, .ref (a 0)), (1, .int y1), (2, .int y2), (3, .int y3)]) hx hb dX5_bestLag_97 hl (k := 5) rfl (by rw [e18]; rfl) (by decide) rfl (fun ls hl => ?_)
        refine lv_goto (tgt := 24) hx hb dX5_bestLag_100 (by decide) ?_
        exact ih24 _ _ _ _ _ h _ _ hP hD hS _ (lv_sub hl [2, 3, 4, 5, 0] rfl)
      have h := o_f h c16
      refine lv_iload hx hb dX5_bestLag_91 (lv_at hl 0 rfl) ?_
      refine lv_istore_n (lv' := [(3, .int v11), (5, .int v11), (0, .ref (a 0)), (1, .int y1), (2, .int y2), (4, .int y4)]) hx hb dX5_bestLag_93 rfl hl (by decide) rfl (fun ls hl => ?_)
      refine lv_iload hx hb dX5_bestLag_94 (lv_at hl 5 rfl) ?_
      refine lv_istore_n (lv' := [(2, .int y4), (3, .int v11), (5, .int v11), (0, .ref (a 0)), (1, .int y1), (4, .int y4)]) hx hb dX5_bestLag_96 rfl hl (by decide) rfl (fun ls hl => ?_)
      obtain ⟨x4_19, e20, h⟩ := o_n h
      refine lv_iinc (v := x4_19) (lv' := [(4, .int x4_19), (2, .int y4), (3, .int v11), (5, .int v11), (0, .ref (a 0)), (1, .int y1)]) hx hb dX5_bestLag_97 hl (k := 5) rfl (by rw [e20]; rfl) (by decide) rfl (fun ls hl => ?_)
      refine lv_goto (tgt := 24) hx hb dX5_bestLag_100 (by decide) ?_
      exact ih24 _ _ _ _ _ h _ _ hP hD hS _ (lv_sub hl [4, 5, 1, 2, 0] rfl)
  have hl := lv_entry ([.ref (a 0), .int x1]) (n := 6) (Nat.le_of_ble_eq_true rfl)
  rw [lg_entry_eq]
  generalize (lg_sl ([.ref (a 0), .int x1]) ++ List.replicate (6 - (lg_sl ([.ref (a 0), .int x1])).length) Slot.unset).toArray = ls at hl ⊢
  have hl : lv_has ls 6 [(0, .ref (a 0)), (1, .int x1)] := hl
  rw [m_X5_bestLag] at h
  refine lv_iload_n hx hb dX5_bestLag_0 rfl (lv_at hl 1 rfl) ?_
  obtain ⟨v1, g2, h⟩ := o_b h
  refine k_ro (va_runS (As := [.int x1]) (rest := []) ⟨hx, hb, hml, hown, hts⟩ (c_X5_isRunLength l dC dI cI cF x1 v1 g2) (va_cwS 1 hts gX5_bestLag_X5_isRunLength rfl rfl rfl (by decide +kernel) ⟨Nat.le_of_ble_eq_true rfl, Nat.le_of_ble_eq_true rfl⟩) (k_prePU) rfl rfl hl.1 rfl (lv_room (Nat.le_of_ble_eq_true rfl)) dX5_bestLag_1 ⟨Nat.zero_le _, Nat.zero_le _⟩) (st1 := [.int v1]) rfl ?_
  refine lv_if_ne (tgt := 17) hx hb dX5_bestLag_4 (by decide) (fun c3 => ?_) (fun c3 => ?_)
  rotate_left
  · have h := o_t h c3
    have hu := Sum.inl.inj (Option.some.inj h)
    obtain ⟨sa, hsa⟩ := hE.2.1 (130, "steps are 1 to 40") (by decide)
    exact vx_throwS (own := RX5) (cls := "java/lang/IllegalArgumentException") (text := "steps are 1 to 40") (names := ["java/lang/RuntimeException", "java/lang/Exception"]) (ik := 55) (is := 130) (ic := 59) (sa := sa) (A := A) hx hb hfl hown (by decide +kernel) (by decide +kernel) w55 wix2 hsa (vx_hat (fun w h => hts w (List.mem_cons_of_mem _ (List.mem_append_right _ (h)))) (B := xW) (by decide +kernel) (fun w h => va_Nw.use (xW_ot w h) (hE.2.2.1 w h))) (by decide +kernel) hE.1.1 hE.1.2 hS (by rw [hml]; exact hl.1) dX5_bestLag_7 dX5_bestLag_10 dX5_bestLag_11 dX5_bestLag_13 dX5_bestLag_16 (fun z hz => (hnx z hz).elim) (Nat.le_of_ble_eq_true rfl) (Nat.le_of_ble_eq_true rfl) (Nat.le_of_ble_eq_true rfl) (Nat.le_of_ble_eq_true rfl) hlocks (fun t hv hz hq => ⟨⟨by rw [← hu]; rfl, by rw [← hu]; exact k_Pkeep hP hq⟩, k_Fkeep hS hz hq⟩) hS.2.2 (Nat.le_refl _) (Nat.le_refl _)
  have h := o_f h c3
  refine lv_iconst (v := (0 : Int32)) hx hb dX5_bestLag_17 (by decide) ?_
  refine lv_istore_n (lv' := [(2, .int (0 : Int32)), (0, .ref (a 0)), (1, .int x1)]) hx hb dX5_bestLag_18 rfl hl (by decide) rfl (fun ls hl => ?_)
  refine lv_iconst (v := (0 : Int32)) hx hb dX5_bestLag_19 (by decide) ?_
  refine lv_istore_n (lv' := [(3, .int (0 : Int32)), (2, .int (0 : Int32)), (0, .ref (a 0)), (1, .int x1)]) hx hb dX5_bestLag_20 rfl hl (by decide) rfl (fun ls hl => ?_)
  refine lv_iconst (v := (0 : Int32)) hx hb dX5_bestLag_21 (by decide) ?_
  refine lv_istore (lv' := [(4, .int (0 : Int32)), (3, .int (0 : Int32)), (2, .int (0 : Int32)), (0, .ref (a 0)), (1, .int x1)]) hx hb dX5_bestLag_22 hl (by decide) rfl (fun ls hl => ?_)
  exact L24 _ _ _ _ _ _ h _ _ hP hD hS _ (lv_sub hl [3, 4, 2, 1, 0] rfl)

def m_X5_mean (S : S_X5) (x1 : Int32) : Option ((Nat) ⊕ (UInt64)) := (m_X5_isCan x1).bind fun v1 => (if v1 = 0 then (some (.inl 1)) else ((m_X0_sizeOf (g_X2_cans (g_X5_frame S)) x1).bind fun v4 => (if v4 = 0 then (some (.inr FP.dconst0)) else ((m_X0_sumOf (g_X2_cans (g_X5_frame S)) x1).bind fun v7 => (if (FP.ddiv (FP.i2d v7) (FP.i2d v4)) &&& 0x7fffffffffffffff ≤ 0x7ff0000000000000 then (some (.inr (FP.ddiv (FP.i2d v7) (FP.i2d v4)))) else none)))))
set_option maxHeartbeats 4000000 in
set_option maxRecDepth 100000 in
theorem c_X5_mean (l : Launch) (dC : Nat → ClassId) (dI : Nat → Nat → Nat) (cI cF : ClassId) (a : Nat → Nat) (S : S_X5) (x1 : Int32) (u : UInt64) (h : m_X5_mean S x1 = some (.inr u)) : cRO l (dC, dI) cI cF yX5_mean wsX5_mean ({ frames := 3, cells := 0, slots := 0, locals := 68 } : Room) [.ref (a 0), .int x1] (wX5 a cI cF S) (some (.double u)) := by
  refine Met.ofW (cc := cX5_mean) (maxL := 3) (ret := (some .double)) (by decide) rfl ?_
  intro p e s m args below meth c s₁ B hml hv
  obtain ⟨hargs, hP, hK⟩ := hv
  subst hargs
  have hx := B.exec
  have hb := B.bytes
  have hr := B.returns
  have hts := atoms_spec (ws := wsX5_mean) B.pre
  have hown : s.vm.findClass RX5 = some m.cls := findClass_of_methodNamed B.named
  have hlocks := B.notSynchronized
  have w10 := hts (.fieldLink RX5 10 "DrawnSlivers" "frame" "LDrawnSlivers$Frame;") (List.mem_of_getElem? (i := 3) rfl)
  have w103 := hts (.methodLink RX5 103 yX0_sumOf) (List.mem_of_getElem? (i := 15) rfl)
  have w40 := hts (.methodLink RX5 40 yX5_isCan) (List.mem_of_getElem? (i := 5) rfl)
  have w60 := hts (.fieldLink RX5 60 "DrawnSlivers$Frame" "cans" "LDrawnSlivers$Cans;") (List.mem_of_getElem? (i := 4) rfl)
  have w64 := hts (.methodLink RX5 64 yX0_sizeOf) (List.mem_of_getElem? (i := 9) rfl)
  have huX2 : ∀ w ∈ u_ws RX2 TX2 12, w.before _ s = true := fun w h => hts w (List.mem_cons_of_mem _ (List.mem_append_left _ (List.mem_append_left _ (List.mem_append_right _ (h)))))
  have huX5 : ∀ w ∈ u_ws RX5 TX5 6, w.before _ s = true := fun w h => hts w (List.mem_cons_of_mem _ (List.mem_append_left _ (List.mem_append_left _ (List.mem_append_left _ (List.mem_append_right _ (h))))))
  have hl := lv_entry ([.ref (a 0), .int x1]) (n := 3) (Nat.le_of_ble_eq_true rfl)
  rw [lg_entry_eq]
  generalize (lg_sl ([.ref (a 0), .int x1]) ++ List.replicate (3 - (lg_sl ([.ref (a 0), .int x1])).length) Slot.unset).toArray = ls at hl ⊢
  have hl : lv_has ls 3 [(0, .ref (a 0)), (1, .int x1)] := hl
  rw [m_X5_mean] at h
  refine lv_iload_n hx hb dX5_mean_0 rfl (lv_at hl 1 rfl) ?_
  obtain ⟨v1, g2, h⟩ := o_b h
  refine k_ro (va_runS (As := [.int x1]) (rest := []) ⟨hx, hb, hml, hown, hts⟩ (c_X5_isCan l dC dI cI cF x1 v1 g2) (va_cwS 1 hts gX5_mean_X5_isCan rfl rfl rfl (by decide +kernel) ⟨Nat.le_of_ble_eq_true rfl, Nat.le_of_ble_eq_true rfl⟩) (k_prePU) rfl rfl hl.1 rfl (lv_room (Nat.le_of_ble_eq_true rfl)) dX5_mean_1 ⟨Nat.zero_le _, Nat.zero_le _⟩) (st1 := [.int v1]) rfl ?_
  refine lv_if_ne (tgt := 17) hx hb dX5_mean_4 (by decide) (fun c3 => ?_) (fun c3 => ?_)
  rotate_left
  · have h := o_t h c3
    cases h
  have h := o_f h c3
  refine lv_aload_n hx hb dX5_mean_17 rfl (lv_at hl 0 rfl) ?_
  refine va_get (D := (dC, dI)) (ci := 5) (v := .ref (a 1)) (C := RX5) (T := TX5) (N := 6) hx hb huX5 (fun _ h9 => h9) hown hK hP 0 rfl rfl 0 (by decide) w10 (fun _ h9 => h9) rfl dX5_mean_18 ?_
  refine va_get (D := (dC, dI)) (ci := 2) (v := .ref (a 2)) (C := RX2) (T := TX2) (N := 12) hx hb huX2 (fun _ h9 => h9) hown hK hP 1 rfl rfl 0 (by decide) w60 (fun _ h9 => h9) rfl dX5_mean_21 ?_
  refine lv_iload_n hx hb dX5_mean_24 rfl (lv_at hl 1 rfl) ?_
  obtain ⟨v4, g5, h⟩ := o_b h
  refine k_ro (va_runV (As := [.int x1]) (rest := []) ⟨hx, hb, hml, hown, hts⟩ (c_X0_sizeOf l dC dI cI cF (fun i => a (i + 2)) (g_X2_cans (g_X5_frame S)) x1 v4 g5) (cwV 1 hts gX5_mean_X0_sizeOf rfl rfl rfl (by decide +kernel) ⟨Nat.le_of_ble_eq_true rfl, Nat.le_of_ble_eq_true rfl⟩) (k_preL (q0 := 0) (ci := 0) hK hP (LX5_frame a cI cF S (s_X2_cans (g_X5_frame S) (g_X2_cans (g_X5_frame S))) (LX2_cans (fun i => a (i + 1)) cI cF (g_X5_frame S) (g_X2_cans (g_X5_frame S)) (LN_id (fX0 (fun i => a (i + 2)) cI cF (g_X2_cans (g_X5_frame S)) (g_X2_cans (g_X5_frame S)))))) rfl rfl rfl) rfl rfl hl.1 rfl (lv_room (Nat.le_of_ble_eq_true rfl)) dX5_mean_25 ⟨Nat.zero_le _, Nat.zero_le _⟩) (st1 := [.int v4]) rfl ?_
  refine lv_istore_n (lv' := [(2, .int v4), (0, .ref (a 0)), (1, .int x1)]) hx hb dX5_mean_28 rfl hl (by decide) rfl (fun ls hl => ?_)
  refine lv_iload_n hx hb dX5_mean_29 rfl (lv_at hl 0 rfl) ?_
  refine lv_if_ne (tgt := 37) hx hb dX5_mean_30 (by decide) (fun c6 => ?_) (fun c6 => ?_)
  rotate_left
  · have h := o_t h c6
    refine lv_dconst0 hx hb dX5_mean_33 ?_
    refine lv_goto (tgt := 52) hx hb dX5_mean_34 (by decide) ?_
    have hu := Sum.inr.inj (Option.some.inj h)
    exact W.dret (v := FP.dconst0) hx hb hr (fun t ht hW => ⟨congrArg (fun z => Outcome.returned (some (Value.double z))) hu, ht⟩) (fun q hq => absurd hq List.not_mem_nil) dX5_mean_52
  have h := o_f h c6
  refine lv_aload_n hx hb dX5_mean_37 rfl (lv_at hl 1 rfl) ?_
  refine va_get (D := (dC, dI)) (ci := 5) (v := .ref (a 1)) (C := RX5) (T := TX5) (N := 6) hx hb huX5 (fun _ h9 => h9) hown hK hP 0 rfl rfl 0 (by decide) w10 (fun _ h9 => h9) rfl dX5_mean_38 ?_
  refine va_get (D := (dC, dI)) (ci := 2) (v := .ref (a 2)) (C := RX2) (T := TX2) (N := 12) hx hb huX2 (fun _ h9 => h9) hown hK hP 1 rfl rfl 0 (by decide) w60 (fun _ h9 => h9) rfl dX5_mean_41 ?_
  refine lv_iload_n hx hb dX5_mean_44 rfl (lv_at hl 2 rfl) ?_
  obtain ⟨v7, g8, h⟩ := o_b h
  refine k_ro (va_runV (As := [.int x1]) (rest := []) ⟨hx, hb, hml, hown, hts⟩ (c_X0_sumOf l dC dI cI cF (fun i => a (i + 2)) (g_X2_cans (g_X5_frame S)) x1 v7 g8) (cwV 1 hts gX5_mean_X0_sumOf rfl rfl rfl (by decide +kernel) ⟨Nat.le_of_ble_eq_true rfl, Nat.le_of_ble_eq_true rfl⟩) (k_preL (q0 := 0) (ci := 0) hK hP (LX5_frame a cI cF S (s_X2_cans (g_X5_frame S) (g_X2_cans (g_X5_frame S))) (LX2_cans (fun i => a (i + 1)) cI cF (g_X5_frame S) (g_X2_cans (g_X5_frame S)) (LN_id (fX0 (fun i => a (i + 2)) cI cF (g_X2_cans (g_X5_frame S)) (g_X2_cans (g_X5_frame S)))))) rfl rfl rfl) rfl rfl hl.1 rfl (lv_room (Nat.le_of_ble_eq_true rfl)) dX5_mean_45 ⟨Nat.zero_le _, Nat.zero_le _⟩) (st1 := [.int v7]) rfl ?_
  refine lv_i2d hx hb dX5_mean_48 ?_
  refine lv_iload_n hx hb dX5_mean_49 rfl (lv_at hl 0 rfl) ?_
  refine lv_i2d hx hb dX5_mean_50 ?_
  obtain ⟨i9, h⟩ := o_ok h
  refine lv_ddiv hx hb dX5_mean_51 i9 ?_
  have hu := Sum.inr.inj (Option.some.inj h)
  exact W.dret (v := FP.ddiv (FP.i2d v7) (FP.i2d v4)) hx hb hr (fun t ht hW => ⟨congrArg (fun z => Outcome.returned (some (Value.double z))) hu, ht⟩) (fun q hq => absurd hq List.not_mem_nil) dX5_mean_52

set_option maxHeartbeats 4000000 in
set_option maxRecDepth 100000 in
theorem c_X5_mean_x (l : Launch) (hfl : l.stackTraces = false) (dC : Nat → ClassId) (dI : Nat → Nat → Nat) (cI cF : ClassId) (a : Nat → Nat) (S : S_X5) (x1 : Int32) (u : Nat) (h : m_X5_mean S x1 = some (.inl u)) : ∀ sz : Nat, vx_Met l yX5_mean wsX5_mean ({ frames := 6, cells := 1, slots := 6, locals := 100 } : Room) (va_Pc [.ref (a 0), .int x1] (pRWe (dC, dI) cI cF (wX5 a cI cF S) sz)) (fun _ _ _ _ => False) (qX (dC, dI) (wX5 a cI cF S) (xnm u) (va_A (wX5 a cI cF S) sz)) 1 6 (va_A (wX5 a cI cF S) sz) := by
  intro sz
  refine vx_ofW (cc := cX5_mean) (maxL := 3) (ret := (some .double)) (by decide) rfl ?_
  intro p e s m args below meth c s₁ B hml hnx hv
  obtain ⟨hargs, ⟨hsz, hP, hK, hD0⟩, hE⟩ := hv
  subst hargs
  have hx := B.exec
  have hb := B.bytes
  have hr := B.returns
  have hts := atoms_spec (ws := wsX5_mean) B.pre
  have hown : s.vm.findClass RX5 = some m.cls := findClass_of_methodNamed B.named
  have hlocks := B.notSynchronized
  have w10 := hts (.fieldLink RX5 10 "DrawnSlivers" "frame" "LDrawnSlivers$Frame;") (List.mem_of_getElem? (i := 3) rfl)
  have w103 := hts (.methodLink RX5 103 yX0_sumOf) (List.mem_of_getElem? (i := 15) rfl)
  have w40 := hts (.methodLink RX5 40 yX5_isCan) (List.mem_of_getElem? (i := 5) rfl)
  have w44 := hts (.classLink RX5 44 "java/lang/IndexOutOfBoundsException") (List.mem_of_getElem? (i := 1) rfl)
  have w60 := hts (.fieldLink RX5 60 "DrawnSlivers$Frame" "cans" "LDrawnSlivers$Cans;") (List.mem_of_getElem? (i := 4) rfl)
  have w64 := hts (.methodLink RX5 64 yX0_sizeOf) (List.mem_of_getElem? (i := 9) rfl)
  have wix1 := hts (.initialized "java/lang/IndexOutOfBoundsException") (List.mem_of_getElem? (i := 2) rfl)
  have huX2 : ∀ w ∈ u_ws RX2 TX2 12, w.before _ s = true := fun w h => hts w (List.mem_cons_of_mem _ (List.mem_append_left _ (List.mem_append_left _ (List.mem_append_right _ (h)))))
  have huX5 : ∀ w ∈ u_ws RX5 TX5 6, w.before _ s = true := fun w h => hts w (List.mem_cons_of_mem _ (List.mem_append_left _ (List.mem_append_left _ (List.mem_append_left _ (List.mem_append_right _ (h))))))
  subst hsz
  have hD := hD0.self (sz := s.heap.size)
  generalize hAe : va_A (wX5 a cI cF S) s.heap.size = A at hD hE ⊢
  have hA : ∀ q : Nat, s.heap.size ≤ q → A q := fun q h => by rw [← hAe]; exact Or.inr h
  have hS : va_S A s.heap s.heap [] := va_S.rf
  have hl := lv_entry ([.ref (a 0), .int x1]) (n := 3) (Nat.le_of_ble_eq_true rfl)
  rw [lg_entry_eq]
  generalize (lg_sl ([.ref (a 0), .int x1]) ++ List.replicate (3 - (lg_sl ([.ref (a 0), .int x1])).length) Slot.unset).toArray = ls at hl ⊢
  have hl : lv_has ls 3 [(0, .ref (a 0)), (1, .int x1)] := hl
  rw [m_X5_mean] at h
  refine lv_iload_n hx hb dX5_mean_0 rfl (lv_at hl 1 rfl) ?_
  obtain ⟨v1, g2, h⟩ := o_b h
  refine k_ro (va_runS (As := [.int x1]) (rest := []) ⟨hx, hb, hml, hown, hts⟩ (c_X5_isCan l dC dI cI cF x1 v1 g2) (va_cwS 1 hts gX5_mean_X5_isCan rfl rfl rfl (by decide +kernel) ⟨Nat.le_of_ble_eq_true rfl, Nat.le_of_ble_eq_true rfl⟩) (k_prePU) rfl rfl hl.1 rfl (lv_room (Nat.le_of_ble_eq_true rfl)) dX5_mean_1 ⟨Nat.zero_le _, Nat.zero_le _⟩) (st1 := [.int v1]) rfl ?_
  refine lv_if_ne (tgt := 17) hx hb dX5_mean_4 (by decide) (fun c3 => ?_) (fun c3 => ?_)
  rotate_left
  · have h := o_t h c3
    have hu := Sum.inl.inj (Option.some.inj h)
    obtain ⟨sa, hsa⟩ := hE.2.1 (46, "no such can") (by decide)
    exact vx_throwS (own := RX5) (cls := "java/lang/IndexOutOfBoundsException") (text := "no such can") (names := ["java/lang/RuntimeException", "java/lang/Exception"]) (ik := 44) (is := 46) (ic := 48) (sa := sa) (A := A) hx hb hfl hown (by decide +kernel) (by decide +kernel) w44 wix1 hsa (vx_hat (fun w h => hts w (List.mem_cons_of_mem _ (List.mem_append_right _ (h)))) (B := xW) (by decide +kernel) (fun w h => va_Nw.use (xW_ot w h) (hE.2.2.1 w h))) (by decide +kernel) hE.1.1 hE.1.2 hS (by rw [hml]; exact hl.1) dX5_mean_7 dX5_mean_10 dX5_mean_11 dX5_mean_13 dX5_mean_16 (fun z hz => (hnx z hz).elim) (Nat.le_of_ble_eq_true rfl) (Nat.le_of_ble_eq_true rfl) (Nat.le_of_ble_eq_true rfl) (Nat.le_of_ble_eq_true rfl) hlocks (fun t hv hz hq => ⟨⟨by rw [← hu]; rfl, k_Pkeep hP hq⟩, k_Fkeep hS hz hq⟩) hS.2.2 (Nat.le_refl _) (Nat.le_refl _)
  have h := o_f h c3
  refine lv_aload_n hx hb dX5_mean_17 rfl (lv_at hl 0 rfl) ?_
  refine va_get (D := (dC, dI)) (ci := 5) (v := .ref (a 1)) (C := RX5) (T := TX5) (N := 6) hx hb huX5 (fun _ h9 => h9) hown hK hP 0 rfl rfl 0 (by decide) w10 (fun _ h9 => h9) rfl dX5_mean_18 ?_
  refine va_get (D := (dC, dI)) (ci := 2) (v := .ref (a 2)) (C := RX2) (T := TX2) (N := 12) hx hb huX2 (fun _ h9 => h9) hown hK hP 1 rfl rfl 0 (by decide) w60 (fun _ h9 => h9) rfl dX5_mean_21 ?_
  refine lv_iload_n hx hb dX5_mean_24 rfl (lv_at hl 1 rfl) ?_
  obtain ⟨v4, g5, h⟩ := o_b h
  refine k_ro (va_runV (As := [.int x1]) (rest := []) ⟨hx, hb, hml, hown, hts⟩ (c_X0_sizeOf l dC dI cI cF (fun i => a (i + 2)) (g_X2_cans (g_X5_frame S)) x1 v4 g5) (cwV 1 hts gX5_mean_X0_sizeOf rfl rfl rfl (by decide +kernel) ⟨Nat.le_of_ble_eq_true rfl, Nat.le_of_ble_eq_true rfl⟩) (k_preL (q0 := 0) (ci := 0) hK hP (LX5_frame a cI cF S (s_X2_cans (g_X5_frame S) (g_X2_cans (g_X5_frame S))) (LX2_cans (fun i => a (i + 1)) cI cF (g_X5_frame S) (g_X2_cans (g_X5_frame S)) (LN_id (fX0 (fun i => a (i + 2)) cI cF (g_X2_cans (g_X5_frame S)) (g_X2_cans (g_X5_frame S)))))) rfl rfl rfl) rfl rfl hl.1 rfl (lv_room (Nat.le_of_ble_eq_true rfl)) dX5_mean_25 ⟨Nat.zero_le _, Nat.zero_le _⟩) (st1 := [.int v4]) rfl ?_
  refine lv_istore_n (lv' := [(2, .int v4), (0, .ref (a 0)), (1, .int x1)]) hx hb dX5_mean_28 rfl hl (by decide) rfl (fun ls hl => ?_)
  refine lv_iload_n hx hb dX5_mean_29 rfl (lv_at hl 0 rfl) ?_
  refine lv_if_ne (tgt := 37) hx hb dX5_mean_30 (by decide) (fun c6 => ?_) (fun c6 => ?_)
  rotate_left
  · have h := o_t h c6
    refine lv_dconst0 hx hb dX5_mean_33 ?_
    refine lv_goto (tgt := 52) hx hb dX5_mean_34 (by decide) ?_
    cases h
  have h := o_f h c6
  refine lv_aload_n hx hb dX5_mean_37 rfl (lv_at hl 1 rfl) ?_
  refine va_get (D := (dC, dI)) (ci := 5) (v := .ref (a 1)) (C := RX5) (T := TX5) (N := 6) hx hb huX5 (fun _ h9 => h9) hown hK hP 0 rfl rfl 0 (by decide) w10 (fun _ h9 => h9) rfl dX5_mean_38 ?_
  refine va_get (D := (dC, dI)) (ci := 2) (v := .ref (a 2)) (C := RX2) (T := TX2) (N := 12) hx hb huX2 (fun _ h9 => h9) hown hK hP 1 rfl rfl 0 (by decide) w60 (fun _ h9 => h9) rfl dX5_mean_41 ?_
  refine lv_iload_n hx hb dX5_mean_44 rfl (lv_at hl 2 rfl) ?_
  obtain ⟨v7, g8, h⟩ := o_b h
  refine k_ro (va_runV (As := [.int x1]) (rest := []) ⟨hx, hb, hml, hown, hts⟩ (c_X0_sumOf l dC dI cI cF (fun i => a (i + 2)) (g_X2_cans (g_X5_frame S)) x1 v7 g8) (cwV 1 hts gX5_mean_X0_sumOf rfl rfl rfl (by decide +kernel) ⟨Nat.le_of_ble_eq_true rfl, Nat.le_of_ble_eq_true rfl⟩) (k_preL (q0 := 0) (ci := 0) hK hP (LX5_frame a cI cF S (s_X2_cans (g_X5_frame S) (g_X2_cans (g_X5_frame S))) (LX2_cans (fun i => a (i + 1)) cI cF (g_X5_frame S) (g_X2_cans (g_X5_frame S)) (LN_id (fX0 (fun i => a (i + 2)) cI cF (g_X2_cans (g_X5_frame S)) (g_X2_cans (g_X5_frame S)))))) rfl rfl rfl) rfl rfl hl.1 rfl (lv_room (Nat.le_of_ble_eq_true rfl)) dX5_mean_45 ⟨Nat.zero_le _, Nat.zero_le _⟩) (st1 := [.int v7]) rfl ?_
  refine lv_i2d hx hb dX5_mean_48 ?_
  refine lv_iload_n hx hb dX5_mean_49 rfl (lv_at hl 0 rfl) ?_
  refine lv_i2d hx hb dX5_mean_50 ?_
  obtain ⟨i9, h⟩ := o_ok h
  refine lv_ddiv hx hb dX5_mean_51 i9 ?_
  cases h

def m_X5_mixCan_L84 (S : S_X5) (y3 : Int32) (y4 : Int64) : Option (Int64) := (o_R (m_X5_mean S y3)).bind fun v5 => ((m_X5_bitsOfDouble v5).bind fun v7 => ((m_X5_mix y4 v7).bind fun v9 => (some v9)))
def m_X5_mixCan_L50 (S : S_X5) : Nat → Int32 → Int64 → Int32 → Int32 → Option (Int64)
  | 0, _, _, _, _ => none
  | n + 1, y3, y4, y6, y7 => if y6 ≤ y7 then (m_X5_mixCan_L84 S y3 y4) else ((m_X0_weightOf (g_X2_cans (g_X5_frame S)) y3 y7).bind fun v11 => ((m_X5_mix y4 v11.toInt64).bind fun v13 => (nmL (y7 + 1) fun x7_15 => ((m_X5_mixCan_L50 S n) y3 v13 y6 x7_15))))
def m_X5_mixCan_L34 (S : S_X5) (y3 : Int32) (y4 : Int64) : Option (Int64) := (m_X0_sizeOf (g_X2_cans (g_X5_frame S)) y3).bind fun v2 => (m_X5_mixCan_L50 S 4000 y3 y4 v2 (0 : Int32))
def m_X5_mixCan_L6 (S : S_X5) : Nat → Int32 → Int64 → Int32 → Option (Int64)
  | 0, _, _, _ => none
  | n + 1, y3, y4, y6 => if (8 : Int32) ≤ y6 then (m_X5_mixCan_L34 S y3 y4) else ((o_R (m_X5_can S y3 y6)).bind fun v17 => ((m_X5_mix y4 v17.toInt64).bind fun v19 => (nmL (y6 + 1) fun x6_21 => ((m_X5_mixCan_L6 S n) y3 v19 x6_21))))
def m_X5_mixCan (S : S_X5) (x1 : Int64) (x3 : Int32) : Option (Int64) := m_X5_mixCan_L6 S 4000 x3 x1 (0 : Int32)
set_option maxHeartbeats 4000000 in
set_option maxRecDepth 100000 in
theorem c_X5_mixCan (l : Launch) (dC : Nat → ClassId) (dI : Nat → Nat → Nat) (cI cF : ClassId) (a : Nat → Nat) (S : S_X5) (x1 : Int64) (x3 : Int32) (u : Int64) (h : m_X5_mixCan S x1 x3 = some u) : cRO l (dC, dI) cI cF yX5_mixCan wsX5_mixCan ({ frames := 5, cells := 0, slots := 0, locals := 111 } : Room) [.ref (a 0), .long x1, .int x3] (wX5 a cI cF S) (some (.long u)) := by
  refine Met.ofW (cc := cX5_mixCan) (maxL := 8) (ret := (some .long)) (by decide) rfl ?_
  intro p e s m args below meth c s₁ B hml hv
  obtain ⟨hargs, hP, hK⟩ := hv
  subst hargs
  have hx := B.exec
  have hb := B.bytes
  have hr := B.returns
  have hts := atoms_spec (ws := wsX5_mixCan) B.pre
  have hown : s.vm.findClass RX5 = some m.cls := findClass_of_methodNamed B.named
  have hlocks := B.notSynchronized
  have w10 := hts (.fieldLink RX5 10 "DrawnSlivers" "frame" "LDrawnSlivers$Frame;") (List.mem_of_getElem? (i := 1) rfl)
  have w203 := hts (.methodLink RX5 203 yX0_weightOf) (List.mem_of_getElem? (i := 65) rfl)
  have w261 := hts (.methodLink RX5 261 yX5_mix) (List.mem_of_getElem? (i := 66) rfl)
  have w297 := hts (.methodLink RX5 297 yX5_can) (List.mem_of_getElem? (i := 3) rfl)
  have w300 := hts (.methodLink RX5 300 yX5_mean) (List.mem_of_getElem? (i := 70) rfl)
  have w304 := hts (.methodLink RX5 304 yX5_bitsOfDouble) (List.mem_of_getElem? (i := 74) rfl)
  have w60 := hts (.fieldLink RX5 60 "DrawnSlivers$Frame" "cans" "LDrawnSlivers$Cans;") (List.mem_of_getElem? (i := 2) rfl)
  have w64 := hts (.methodLink RX5 64 yX0_sizeOf) (List.mem_of_getElem? (i := 15) rfl)
  have huX2 : ∀ w ∈ u_ws RX2 TX2 12, w.before _ s = true := fun w h => hts w (List.mem_cons_of_mem _ (List.mem_append_left _ (List.mem_append_left _ (List.mem_append_left _ (List.mem_append_right _ (h))))))
  have huX5 : ∀ w ∈ u_ws RX5 TX5 6, w.before _ s = true := fun w h => hts w (List.mem_cons_of_mem _ (List.mem_append_left _ (List.mem_append_left _ (List.mem_append_left _ (List.mem_append_left _ (List.mem_append_right _ (h)))))))
  have L84 : ∀ (y3 : Int32) (y4 : Int64), m_X5_mixCan_L84 S y3 y4 = some u → ∀ (ls : Array Slot), lv_has ls 8 [(0, .ref (a 0)), (3, .int y3), (4, .long y4)] → W p l e (headSpec wsX5_mixCan ({ frames := 5, cells := 0, slots := 0, locals := 111 } : Room)).room s m ([.ref (a 0), .long x1, .int x3] : List Value).toArray below meth c s.heap [] 0 0 (MQ below (qRO (some (.long u))) ([.ref (a 0), .long x1, .int x3] : List Value).toArray s 0 0 (fun _ => False)) (F0 m 84 ls []) := by
    intro  y3 y4 h ls hl
    rw [m_X5_mixCan_L84] at h
    refine lv_lload hx hb dX5_mixCan_84 (lv_at hl 2 rfl) ?_
    refine lv_aload_n hx hb dX5_mixCan_86 rfl (lv_at hl 0 rfl) ?_
    refine lv_iload_n hx hb dX5_mixCan_87 rfl (lv_at hl 1 rfl) ?_
    obtain ⟨v5, g6, h⟩ := o_b h
    have g6 := o_R_ g6
    refine k_ro (va_runV (As := [.int y3]) (rest := [.long y4]) ⟨hx, hb, hml, hown, hts⟩ (c_X5_mean l dC dI cI cF a S y3 v5 g6) (cwV 1 hts gX5_mixCan_X5_mean rfl rfl rfl (by decide +kernel) ⟨Nat.le_of_ble_eq_true rfl, Nat.le_of_ble_eq_true rfl⟩) (k_preL (q0 := 0) (ci := 5) hK hP (LN_id (fX5 a cI cF S S)) rfl rfl rfl) rfl rfl hl.1 rfl (lv_room (Nat.le_of_ble_eq_true rfl)) dX5_mixCan_88 ⟨Nat.zero_le _, Nat.zero_le _⟩) (st1 := [.double v5, .long y4]) rfl ?_
    obtain ⟨v7, g8, h⟩ := o_b h
    refine k_ro (va_runS (As := [.double v5]) (rest := [.long y4]) ⟨hx, hb, hml, hown, hts⟩ (c_X5_bitsOfDouble l dC dI cI cF v5 v7 g8) (va_cwS 1 hts gX5_mixCan_X5_bitsOfDouble rfl rfl rfl (by decide +kernel) ⟨Nat.le_of_ble_eq_true rfl, Nat.le_of_ble_eq_true rfl⟩) (k_prePU) rfl rfl hl.1 rfl (lv_room (Nat.le_of_ble_eq_true rfl)) dX5_mixCan_91 ⟨Nat.zero_le _, Nat.zero_le _⟩) (st1 := [.long v7, .long y4]) rfl ?_
    obtain ⟨v9, g10, h⟩ := o_b h
    refine k_ro (va_runS (As := [.long y4, .long v7]) (rest := []) ⟨hx, hb, hml, hown, hts⟩ (c_X5_mix l dC dI cI cF y4 v7 v9 g10) (va_cwS 2 hts gX5_mixCan_X5_mix rfl rfl rfl (by decide +kernel) ⟨Nat.le_of_ble_eq_true rfl, Nat.le_of_ble_eq_true rfl⟩) (k_prePU) rfl rfl hl.1 rfl (lv_room (Nat.le_of_ble_eq_true rfl)) dX5_mixCan_94 ⟨Nat.zero_le _, Nat.zero_le _⟩) (st1 := [.long v9]) rfl ?_
    have hu := Option.some.inj h
    exact W.lret (v := v9) hx hb hr (fun t ht hW => ⟨congrArg (fun z => Outcome.returned (some (Value.long z))) hu, ht⟩) (fun q hq => absurd hq List.not_mem_nil) dX5_mixCan_97
  have L50 : ∀ (n : Nat), ∀ (y3 : Int32) (y4 : Int64) (y6 : Int32) (y7 : Int32), m_X5_mixCan_L50 S n y3 y4 y6 y7 = some u → ∀ (ls : Array Slot), lv_has ls 8 [(0, .ref (a 0)), (3, .int y3), (4, .long y4), (6, .int y6), (7, .int y7)] → W p l e (headSpec wsX5_mixCan ({ frames := 5, cells := 0, slots := 0, locals := 111 } : Room)).room s m ([.ref (a 0), .long x1, .int x3] : List Value).toArray below meth c s.heap [] 0 0 (MQ below (qRO (some (.long u))) ([.ref (a 0), .long x1, .int x3] : List Value).toArray s 0 0 (fun _ => False)) (F0 m 50 ls []) := by
    intro  n
    induction n with
    | zero =>
      intro y3 y4 y6 y7 h
      exact (o_0 h).elim
    | succ n ih50 =>
      intro y3 y4 y6 y7 h ls hl
      rw [m_X5_mixCan_L50] at h
      refine lv_iload hx hb dX5_mixCan_50 (lv_at hl 4 rfl) ?_
      refine lv_iload hx hb dX5_mixCan_52 (lv_at hl 3 rfl) ?_
      refine lv_icmp_ge (tgt := 84) hx hb dX5_mixCan_54 (by decide) (fun c4 => ?_) (fun c4 => ?_)
      · have h := o_t h c4
        exact L84 _ _ h _ (lv_sub hl [0, 1, 2] rfl)
      have h := o_f h c4
      refine lv_lload hx hb dX5_mixCan_57 (lv_at hl 2 rfl) ?_
      refine lv_aload_n hx hb dX5_mixCan_59 rfl (lv_at hl 0 rfl) ?_
      refine va_get (D := (dC, dI)) (ci := 5) (v := .ref (a 1)) (C := RX5) (T := TX5) (N := 6) hx hb huX5 (fun _ h9 => h9) hown hK hP 0 rfl rfl 0 (by decide) w10 (fun _ h9 => h9) rfl dX5_mixCan_60 ?_
      refine va_get (D := (dC, dI)) (ci := 2) (v := .ref (a 2)) (C := RX2) (T := TX2) (N := 12) hx hb huX2 (fun _ h9 => h9) hown hK hP 1 rfl rfl 0 (by decide) w60 (fun _ h9 => h9) rfl dX5_mixCan_63 ?_
      refine lv_iload_n hx hb dX5_mixCan_66 rfl (lv_at hl 1 rfl) ?_
      refine lv_iload hx hb dX5_mixCan_67 (lv_at hl 4 rfl) ?_
      obtain ⟨v11, g12, h⟩ := o_b h
      refine k_ro (va_runV (As := [.int y3, .int y7]) (rest := [.long y4]) ⟨hx, hb, hml, hown, hts⟩ (c_X0_weightOf l dC dI cI cF (fun i => a (i + 2)) (g_X2_cans (g_X5_frame S)) y3 y7 v11 g12) (cwV 2 hts gX5_mixCan_X0_weightOf rfl rfl rfl (by decide +kernel) ⟨Nat.le_of_ble_eq_true rfl, Nat.le_of_ble_eq_true rfl⟩) (k_preL (q0 := 0) (ci := 0) hK hP (LX5_frame a cI cF S (s_X2_cans (g_X5_frame S) (g_X2_cans (g_X5_frame S))) (LX2_cans (fun i => a (i + 1)) cI cF (g_X5_frame S) (g_X2_cans (g_X5_frame S)) (LN_id (fX0 (fun i => a (i + 2)) cI cF (g_X2_cans (g_X5_frame S)) (g_X2_cans (g_X5_frame S)))))) rfl rfl rfl) rfl rfl hl.1 rfl (lv_room (Nat.le_of_ble_eq_true rfl)) dX5_mixCan_69 ⟨Nat.zero_le _, Nat.zero_le _⟩) (st1 := [.int v11, .long y4]) rfl ?_
      refine lv_i2l hx hb dX5_mixCan_72 rfl ?_
      obtain ⟨v13, g14, h⟩ := o_b h
      refine k_ro (va_runS (As := [.long y4, .long v11.toInt64]) (rest := []) ⟨hx, hb, hml, hown, hts⟩ (c_X5_mix l dC dI cI cF y4 v11.toInt64 v13 g14) (va_cwS 2 hts gX5_mixCan_X5_mix rfl rfl rfl (by decide +kernel) ⟨Nat.le_of_ble_eq_true rfl, Nat.le_of_ble_eq_true rfl⟩) (k_prePU) rfl rfl hl.1 rfl (lv_room (Nat.le_of_ble_eq_true rfl)) dX5_mixCan_73 ⟨Nat.zero_le _, Nat.zero_le _⟩) (st1 := [.long v13]) rfl ?_
      refine lv_lstore (lv' := [(4, .long v13), (0, .ref (a 0)), (3, .int y3), (6, .int y6), (7, .int y7)]) hx hb dX5_mixCan_76 hl (by decide) rfl (fun ls hl => ?_)
      obtain ⟨x7_15, e16, h⟩ := o_n h
      refine lv_iinc (v := x7_15) (lv' := [(7, .int x7_15), (4, .long v13), (0, .ref (a 0)), (3, .int y3), (6, .int y6)]) hx hb dX5_mixCan_78 hl (k := 4) rfl (by rw [e16]; rfl) (by decide) rfl (fun ls hl => ?_)
      refine lv_goto (tgt := 50) hx hb dX5_mixCan_81 (by decide) ?_
      exact ih50 _ _ _ _ h _ (lv_sub hl [2, 3, 1, 4, 0] rfl)
  have L34 : ∀ (y3 : Int32) (y4 : Int64), m_X5_mixCan_L34 S y3 y4 = some u → ∀ (ls : Array Slot), lv_has ls 8 [(0, .ref (a 0)), (3, .int y3), (4, .long y4)] → W p l e (headSpec wsX5_mixCan ({ frames := 5, cells := 0, slots := 0, locals := 111 } : Room)).room s m ([.ref (a 0), .long x1, .int x3] : List Value).toArray below meth c s.heap [] 0 0 (MQ below (qRO (some (.long u))) ([.ref (a 0), .long x1, .int x3] : List Value).toArray s 0 0 (fun _ => False)) (F0 m 34 ls []) := by
    intro  y3 y4 h ls hl
    rw [m_X5_mixCan_L34] at h
    refine lv_aload_n hx hb dX5_mixCan_34 rfl (lv_at hl 0 rfl) ?_
    refine va_get (D := (dC, dI)) (ci := 5) (v := .ref (a 1)) (C := RX5) (T := TX5) (N := 6) hx hb huX5 (fun _ h9 => h9) hown hK hP 0 rfl rfl 0 (by decide) w10 (fun _ h9 => h9) rfl dX5_mixCan_35 ?_
    refine va_get (D := (dC, dI)) (ci := 2) (v := .ref (a 2)) (C := RX2) (T := TX2) (N := 12) hx hb huX2 (fun _ h9 => h9) hown hK hP 1 rfl rfl 0 (by decide) w60 (fun _ h9 => h9) rfl dX5_mixCan_38 ?_
    refine lv_iload_n hx hb dX5_mixCan_41 rfl (lv_at hl 1 rfl) ?_
    obtain ⟨v2, g3, h⟩ := o_b h
    refine k_ro (va_runV (As := [.int y3]) (rest := []) ⟨hx, hb, hml, hown, hts⟩ (c_X0_sizeOf l dC dI cI cF (fun i => a (i + 2)) (g_X2_cans (g_X5_frame S)) y3 v2 g3) (cwV 1 hts gX5_mixCan_X0_sizeOf rfl rfl rfl (by decide +kernel) ⟨Nat.le_of_ble_eq_true rfl, Nat.le_of_ble_eq_true rfl⟩) (k_preL (q0 := 0) (ci := 0) hK hP (LX5_frame a cI cF S (s_X2_cans (g_X5_frame S) (g_X2_cans (g_X5_frame S))) (LX2_cans (fun i => a (i + 1)) cI cF (g_X5_frame S) (g_X2_cans (g_X5_frame S)) (LN_id (fX0 (fun i => a (i + 2)) cI cF (g_X2_cans (g_X5_frame S)) (g_X2_cans (g_X5_frame S)))))) rfl rfl rfl) rfl rfl hl.1 rfl (lv_room (Nat.le_of_ble_eq_true rfl)) dX5_mixCan_42 ⟨Nat.zero_le _, Nat.zero_le _⟩) (st1 := [.int v2]) rfl ?_
    refine lv_istore (lv' := [(6, .int v2), (0, .ref (a 0)), (3, .int y3), (4, .long y4)]) hx hb dX5_mixCan_45 hl (by decide) rfl (fun ls hl => ?_)
    refine lv_iconst (v := (0 : Int32)) hx hb dX5_mixCan_47 (by decide) ?_
    refine lv_istore (lv' := [(7, .int (0 : Int32)), (6, .int v2), (0, .ref (a 0)), (3, .int y3), (4, .long y4)]) hx hb dX5_mixCan_48 hl (by decide) rfl (fun ls hl => ?_)
    exact L50 _ _ _ _ _ h _ (lv_sub hl [2, 3, 4, 1, 0] rfl)
  have L6 : ∀ (n : Nat), ∀ (y3 : Int32) (y4 : Int64) (y6 : Int32), m_X5_mixCan_L6 S n y3 y4 y6 = some u → ∀ (ls : Array Slot), lv_has ls 8 [(0, .ref (a 0)), (3, .int y3), (4, .long y4), (6, .int y6)] → W p l e (headSpec wsX5_mixCan ({ frames := 5, cells := 0, slots := 0, locals := 111 } : Room)).room s m ([.ref (a 0), .long x1, .int x3] : List Value).toArray below meth c s.heap [] 0 0 (MQ below (qRO (some (.long u))) ([.ref (a 0), .long x1, .int x3] : List Value).toArray s 0 0 (fun _ => False)) (F0 m 6 ls []) := by
    intro  n
    induction n with
    | zero =>
      intro y3 y4 y6 h
      exact (o_0 h).elim
    | succ n ih6 =>
      intro y3 y4 y6 h ls hl
      rw [m_X5_mixCan_L6] at h
      refine lv_iload hx hb dX5_mixCan_6 (lv_at hl 3 rfl) ?_
      refine lv_bipush (v := (8 : Int32)) hx hb dX5_mixCan_8 (by decide) ?_
      refine lv_icmp_ge (tgt := 34) hx hb dX5_mixCan_10 (by decide) (fun c1 => ?_) (fun c1 => ?_)
      · have h := o_t h c1
        exact L34 _ _ h _ (lv_sub hl [0, 1, 2] rfl)
      have h := o_f h c1
      refine lv_lload hx hb dX5_mixCan_13 (lv_at hl 2 rfl) ?_
      refine lv_aload_n hx hb dX5_mixCan_15 rfl (lv_at hl 0 rfl) ?_
      refine lv_iload_n hx hb dX5_mixCan_16 rfl (lv_at hl 1 rfl) ?_
      refine lv_iload hx hb dX5_mixCan_17 (lv_at hl 3 rfl) ?_
      obtain ⟨v17, g18, h⟩ := o_b h
      have g18 := o_R_ g18
      refine k_ro (va_runV (As := [.int y3, .int y6]) (rest := [.long y4]) ⟨hx, hb, hml, hown, hts⟩ (c_X5_can l dC dI cI cF a S y3 y6 v17 g18) (cwV 2 hts gX5_mixCan_X5_can rfl rfl rfl (by decide +kernel) ⟨Nat.le_of_ble_eq_true rfl, Nat.le_of_ble_eq_true rfl⟩) (k_preL (q0 := 0) (ci := 5) hK hP (LN_id (fX5 a cI cF S S)) rfl rfl rfl) rfl rfl hl.1 rfl (lv_room (Nat.le_of_ble_eq_true rfl)) dX5_mixCan_19 ⟨Nat.zero_le _, Nat.zero_le _⟩) (st1 := [.int v17, .long y4]) rfl ?_
      refine lv_i2l hx hb dX5_mixCan_22 rfl ?_
      obtain ⟨v19, g20, h⟩ := o_b h
      refine k_ro (va_runS (As := [.long y4, .long v17.toInt64]) (rest := []) ⟨hx, hb, hml, hown, hts⟩ (c_X5_mix l dC dI cI cF y4 v17.toInt64 v19 g20) (va_cwS 2 hts gX5_mixCan_X5_mix rfl rfl rfl (by decide +kernel) ⟨Nat.le_of_ble_eq_true rfl, Nat.le_of_ble_eq_true rfl⟩) (k_prePU) rfl rfl hl.1 rfl (lv_room (Nat.le_of_ble_eq_true rfl)) dX5_mixCan_23 ⟨Nat.zero_le _, Nat.zero_le _⟩) (st1 := [.long v19]) rfl ?_
      refine lv_lstore (lv' := [(4, .long v19), (0, .ref (a 0)), (3, .int y3), (6, .int y6)]) hx hb dX5_mixCan_26 hl (by decide) rfl (fun ls hl => ?_)
      obtain ⟨x6_21, e22, h⟩ := o_n h
      refine lv_iinc (v := x6_21) (lv' := [(6, .int x6_21), (4, .long v19), (0, .ref (a 0)), (3, .int y3)]) hx hb dX5_mixCan_28 hl (k := 3) rfl (by rw [e22]; rfl) (by decide) rfl (fun ls hl => ?_)
      refine lv_goto (tgt := 6) hx hb dX5_mixCan_31 (by decide) ?_
      exact ih6 _ _ _ h _ (lv_sub hl [2, 3, 1, 0] rfl)
  have hl := lv_entry ([.ref (a 0), .long x1, .int x3]) (n := 8) (Nat.le_of_ble_eq_true rfl)
  rw [lg_entry_eq]
  generalize (lg_sl ([.ref (a 0), .long x1, .int x3]) ++ List.replicate (8 - (lg_sl ([.ref (a 0), .long x1, .int x3])).length) Slot.unset).toArray = ls at hl ⊢
  have hl : lv_has ls 8 [(0, .ref (a 0)), (1, .long x1), (3, .int x3)] := hl
  rw [m_X5_mixCan] at h
  refine lv_lload_n hx hb dX5_mixCan_0 rfl (lv_at hl 1 rfl) ?_
  refine lv_lstore (lv' := [(4, .long x1), (0, .ref (a 0)), (1, .long x1), (3, .int x3)]) hx hb dX5_mixCan_1 hl (by decide) rfl (fun ls hl => ?_)
  refine lv_iconst (v := (0 : Int32)) hx hb dX5_mixCan_3 (by decide) ?_
  refine lv_istore (lv' := [(6, .int (0 : Int32)), (4, .long x1), (0, .ref (a 0)), (1, .long x1), (3, .int x3)]) hx hb dX5_mixCan_4 hl (by decide) rfl (fun ls hl => ?_)
  exact L6 _ _ _ _ h _ (lv_sub hl [2, 4, 1, 0] rfl)

