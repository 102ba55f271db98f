-- X4_readToError X4_readWhole
def m_X4_readToError_L16 : Nat → Int32 → Int32 → S_X4 → Option (Int32 × S_X4)
  | 0, _, _, _ => none
  | n + 1, y1, y2, S => if y1 ≤ y2 then (some (y1, S)) else ((m_X4_codeAt S y2).bind fun v6 => ((m_X4_accepts S v6).bind fun v8 => (if v8.1 = 0 then (some (y2, v8.2)) else (nmL (y2 + 1) fun x2_11 => ((m_X4_readToError_L16 n) y1 x2_11 v8.2)))))
def m_X4_readToError (S : S_X4) : Option (Int32 × S_X4) := (m_X4_beginPart (s_X4_parts S (0 : Int32))).bind fun v1 => (nmL (g_X4_length v1) fun x1_3 => (m_X4_readToError_L16 4000 x1_3 (0 : Int32) v1))
set_option maxHeartbeats 4000000 in
set_option maxRecDepth 100000 in
theorem c_X4_readToError (l : Launch) (dC : Nat → ClassId) (dI : Nat → Nat → Nat) (cI cF : ClassId) (a : Nat → Nat) (S : S_X4) (u : Int32 × S_X4) (h : m_X4_readToError S = some u) : cRW l (dC, dI) cI cF yX4_readToError wsX4_readToError ({ frames := 3, cells := 0, slots := 0, locals := 66 } : Room) [.ref (a 0)] (wX4 a cI cF S) (wX4 a cI cF u.2) (some (.int u.1)) := by
  intro sz
  refine Met.ofW (cc := cX4_readToError) (maxL := 3) (ret := (some .int)) (by decide) rfl ?_
  intro p e s m args below meth c s₁ B hml hv
  obtain ⟨hargs, hsz, hP, hK, hD0⟩ := hv
  subst hargs
  have hx := B.exec
  have hb := B.bytes
  have hr := B.returns
  have hts := atoms_spec (ws := wsX4_readToError) B.pre
  have hown : s.vm.findClass RX4 = some m.cls := findClass_of_methodNamed B.named
  have hlocks := B.notSynchronized
  have w15 := hts (.fieldLink RX4 15 "DrawnSlivers$SliverText" "length" "I") (List.mem_of_getElem? (i := 2) rfl)
  have w25 := hts (.fieldLink RX4 25 "DrawnSlivers$SliverText" "parts" "I") (List.mem_of_getElem? (i := 1) rfl)
  have w55 := hts (.methodLink RX4 55 yX4_beginPart) (List.mem_of_getElem? (i := 3) rfl)
  have w58 := hts (.methodLink RX4 58 yX4_codeAt) (List.mem_of_getElem? (i := 11) rfl)
  have w61 := hts (.methodLink RX4 61 yX4_accepts) (List.mem_of_getElem? (i := 16) rfl)
  have huX4 : ∀ w ∈ u_ws RX4 TX4 9, w.before _ s = true := fun w h => hts w (List.mem_cons_of_mem _ (List.mem_append_right _ (h)))
  subst hsz
  have hD := hD0.self (sz := s.heap.size)
  generalize hAe : va_A (wX4 a cI cF S) s.heap.size = A at hD ⊢
  have hA : ∀ q : Nat, s.heap.size ≤ q → A q := fun q h => by rw [← hAe]; exact Or.inr h
  have hS : va_S A s.heap s.heap [] := va_S.rf
  have L16 : ∀ (n : Nat), ∀ (y1 : Int32) (y2 : Int32) (S : S_X4), m_X4_readToError_L16 n y1 y2 S = some u → ∀ (H : Heap) (locs : List Loc), va_P (dC, dI) vwCl (wX4 a cI cF S) H → va_D A (wX4 a cI cF S) → va_S A s.heap H locs → ∀ (ls : Array Slot), lv_has ls 3 [(0, .ref (a 0)), (1, .int y1), (2, .int y2)] → W p l e (headSpec wsX4_readToError ({ frames := 3, cells := 0, slots := 0, locals := 66 } : Room)).room s m ([.ref (a 0)] : List Value).toArray below meth c H locs 0 0 (MQ below (qRW (dC, dI) (wX4 a cI cF u.2) (some (.int u.1)) A) ([.ref (a 0)] : List Value).toArray s 0 0 A) (F0 m 16 ls []) := by
    intro  n
    induction n with
    | zero =>
      intro y1 y2 S h
      exact (o_0 h).elim
    | succ n ih16 =>
      intro y1 y2 S h H locs hP hD hS ls hl
      rw [m_X4_readToError_L16] at h
      refine lv_iload_n hx hb dX4_readToError_16 rfl (lv_at hl 2 rfl) ?_
      refine lv_iload_n hx hb dX4_readToError_17 rfl (lv_at hl 1 rfl) ?_
      refine lv_icmp_ge (tgt := 41) hx hb dX4_readToError_18 (by decide) (fun c5 => ?_) (fun c5 => ?_)
      · have h := o_t h c5
        refine lv_iload_n hx hb dX4_readToError_41 rfl (lv_at hl 1 rfl) ?_
        have hu := Option.some.inj h
        exact W.iret (v := y1) hx hb hr (fun t ht hW => ⟨⟨congrArg (fun z => Outcome.returned (some (Value.int z.1))) hu, by rw [ht, ← hu]; exact hP⟩, hS.F ht⟩) hS.2.2 dX4_readToError_42
      have h := o_f h c5
      refine lv_aload_n hx hb dX4_readToError_21 rfl (lv_at hl 0 rfl) ?_
      refine lv_aload_n hx hb dX4_readToError_22 rfl (lv_at hl 0 rfl) ?_
      refine lv_iload_n hx hb dX4_readToError_23 rfl (lv_at hl 2 rfl) ?_
      obtain ⟨v6, g7, h⟩ := o_b h
      refine k_ro (va_runV (As := [.int y2]) (rest := [.ref (a 0)]) ⟨hx, hb, hml, hown, hts⟩ (c_X4_codeAt l dC dI cI cF a S y2 v6 g7) (cwV 1 hts gX4_readToError_X4_codeAt rfl rfl rfl (by decide +kernel) ⟨Nat.le_of_ble_eq_true rfl, Nat.le_of_ble_eq_true rfl⟩) (k_preV (q0 := 0) (ci := 4) hK (hP.sub (ws' := wX4 a cI cF S) [0, 1, 2, 3] rfl) rfl rfl rfl) rfl rfl hl.1 rfl (lv_room (Nat.le_of_ble_eq_true rfl)) dX4_readToError_24 ⟨Nat.zero_le _, Nat.zero_le _⟩) (st1 := [.int v6, .ref (a 0)]) rfl ?_
      obtain ⟨v8, g9, h⟩ := o_b h
      refine k_rw (va_runV (As := [.int v6]) (rest := []) ⟨hx, hb, hml, hown, hts⟩ (c_X4_accepts l dC dI cI cF a S v6 v8 g9 H.size) (cwV 1 hts gX4_readToError_X4_accepts rfl rfl rfl (by decide +kernel) ⟨Nat.le_of_ble_eq_true rfl, Nat.le_of_ble_eq_true rfl⟩) (k_preVw (q0 := 0) (ci := 4) hK hP hD [0, 1, 2, 3] rfl rfl rfl rfl rfl) rfl rfl hl.1 rfl (lv_room (Nat.le_of_ble_eq_true rfl)) dX4_readToError_27 ⟨Nat.zero_le _, Nat.zero_le _⟩) (st1 := [.int v8.1]) rfl hP hD hS hA [0, 1, 2, 3] rfl rfl (wn := wX4 a cI cF v8.2) rfl rfl rfl (fun H locs hP hD hS => ?_)
      refine lv_if_ne (tgt := 35) hx hb dX4_readToError_30 (by decide) (fun c10 => ?_) (fun c10 => ?_)
      rotate_left
      · have h := o_t h c10
        refine lv_iload_n hx hb dX4_readToError_33 rfl (lv_at hl 2 rfl) ?_
        have hu := Option.some.inj h
        exact W.iret (v := y2) hx hb hr (fun t ht hW => ⟨⟨congrArg (fun z => Outcome.returned (some (Value.int z.1))) hu, by rw [ht, ← hu]; exact hP⟩, hS.F ht⟩) hS.2.2 dX4_readToError_34
      have h := o_f h c10
      obtain ⟨x2_11, e12, h⟩ := o_n h
      refine lv_iinc (v := x2_11) (lv' := [(2, .int x2_11), (0, .ref (a 0)), (1, .int y1)]) hx hb dX4_readToError_35 hl (k := 2) rfl (by rw [e12]; rfl) (by decide) rfl (fun ls hl => ?_)
      refine lv_goto (tgt := 16) hx hb dX4_readToError_38 (by decide) ?_
      exact ih16 _ _ _ h _ _ hP hD hS _ (lv_sub hl [1, 2, 0] rfl)
  have hl := lv_entry ([.ref (a 0)]) (n := 3) (Nat.le_of_ble_eq_true rfl)
  rw [lg_entry_eq]
  generalize (lg_sl ([.ref (a 0)]) ++ List.replicate (3 - (lg_sl ([.ref (a 0)])).length) Slot.unset).toArray = ls at hl ⊢
  have hl : lv_has ls 3 [(0, .ref (a 0))] := hl
  rw [m_X4_readToError] at h
  refine lv_aload_n hx hb dX4_readToError_0 rfl (lv_at hl 0 rfl) ?_
  refine lv_iconst (v := (0 : Int32)) hx hb dX4_readToError_1 (by decide) ?_
  refine va_put (D := (dC, dI)) (ci := 4) (v := .int (0 : Int32)) (ty := .int) (C := RX4) (T := TX4) (N := 9) hx hb huX4 (fun _ h9 => h9) tyX4 tyX4_ok nmX4 hown hK hP hD hS 0 rfl rfl 4 (by decide) w25 (fun _ h9 => h9) rfl (by decide +kernel) rfl rfl (Nat.le_of_ble_eq_true rfl) dX4_readToError_2 (fun H locs hP hD hS => ?_)
  have hP : va_P (dC, dI) vwCl (wX4 a cI cF (s_X4_parts S (0 : Int32))) H := hP
  have hD : va_D A (wX4 a cI cF (s_X4_parts S (0 : Int32))) := hD
  refine lv_aload_n hx hb dX4_readToError_5 rfl (lv_at hl 0 rfl) ?_
  obtain ⟨v1, g2, h⟩ := o_b h
  refine k_rw (va_runV (As := []) (rest := []) ⟨hx, hb, hml, hown, hts⟩ (c_X4_beginPart l dC dI cI cF a (s_X4_parts S (0 : Int32)) v1 g2 H.size) (cwV 0 hts gX4_readToError_X4_beginPart rfl rfl rfl (by decide +kernel) ⟨Nat.le_of_ble_eq_true rfl, Nat.le_of_ble_eq_true rfl⟩) (k_preVw (q0 := 0) (ci := 4) hK hP hD [0, 1, 2, 3] rfl rfl rfl rfl rfl) rfl rfl hl.1 rfl (lv_room (Nat.le_of_ble_eq_true rfl)) dX4_readToError_6 ⟨Nat.zero_le _, Nat.zero_le _⟩) (st1 := []) rfl hP hD hS hA [0, 1, 2, 3] rfl rfl (wn := wX4 a cI cF v1) rfl rfl rfl (fun H locs hP hD hS => ?_)
  refine lv_aload_n hx hb dX4_readToError_9 rfl (lv_at hl 0 rfl) ?_
  refine va_get (D := (dC, dI)) (ci := 4) (v := .int (g_X4_length v1)) (C := RX4) (T := TX4) (N := 9) hx hb huX4 (fun _ h9 => h9) hown hK hP 0 rfl rfl 1 (by decide) w15 (fun _ h9 => h9) rfl dX4_readToError_10 ?_
  obtain ⟨x1_3, e4, h⟩ := o_n h
  refine lv_nmi e4 ?_
  refine lv_istore_n (lv' := [(1, .int x1_3), (0, .ref (a 0))]) hx hb dX4_readToError_13 rfl hl (by decide) rfl (fun ls hl => ?_)
  refine lv_iconst (v := (0 : Int32)) hx hb dX4_readToError_14 (by decide) ?_
  refine lv_istore_n (lv' := [(2, .int (0 : Int32)), (1, .int x1_3), (0, .ref (a 0))]) hx hb dX4_readToError_15 rfl hl (by decide) rfl (fun ls hl => ?_)
  exact L16 _ _ _ _ h _ _ hP hD hS _ (lv_sub hl [2, 1, 0] rfl)

def m_X4_readWhole (S : S_X4) : Option (Int32 × S_X4) := (m_X4_readToError S).bind fun v1 => (if v1.1 < (g_X4_length v1.2) then (some ((0 : Int32), v1.2)) else ((m_X4_mayEndPart v1.2).bind fun v4 => (if v4 = 0 then (some ((0 : Int32), v1.2)) else ((m_X4_endPart v1.2).bind fun v7 => (some ((1 : Int32), v7))))))
set_option maxHeartbeats 4000000 in
set_option maxRecDepth 100000 in
theorem c_X4_readWhole (l : Launch) (dC : Nat → ClassId) (dI : Nat → Nat → Nat) (cI cF : ClassId) (a : Nat → Nat) (S : S_X4) (u : Int32 × S_X4) (h : m_X4_readWhole S = some u) : cRW l (dC, dI) cI cF yX4_readWhole wsX4_readWhole ({ frames := 4, cells := 0, slots := 0, locals := 88 } : Room) [.ref (a 0)] (wX4 a cI cF S) (wX4 a cI cF u.2) (some (.int u.1)) := by
  intro sz
  refine Met.ofW (cc := cX4_readWhole) (maxL := 1) (ret := (some .boolean)) (by decide) rfl ?_
  intro p e s m args below meth c s₁ B hml hv
  obtain ⟨hargs, hsz, hP, hK, hD0⟩ := hv
  subst hargs
  have hx := B.exec
  have hb := B.bytes
  have hr := B.returns
  have hts := atoms_spec (ws := wsX4_readWhole) B.pre
  have hown : s.vm.findClass RX4 = some m.cls := findClass_of_methodNamed B.named
  have hlocks := B.notSynchronized
  have w15 := hts (.fieldLink RX4 15 "DrawnSlivers$SliverText" "length" "I") (List.mem_of_getElem? (i := 1) rfl)
  have w44 := hts (.methodLink RX4 44 yX4_readToError) (List.mem_of_getElem? (i := 2) rfl)
  have w48 := hts (.methodLink RX4 48 yX4_mayEndPart) (List.mem_of_getElem? (i := 37) rfl)
  have w52 := hts (.methodLink RX4 52 yX4_endPart) (List.mem_of_getElem? (i := 41) rfl)
  have huX4 : ∀ w ∈ u_ws RX4 TX4 9, w.before _ s = true := fun w h => hts w (List.mem_cons_of_mem _ (List.mem_append_right _ (h)))
  subst hsz
  have hD := hD0.self (sz := s.heap.size)
  generalize hAe : va_A (wX4 a cI cF S) s.heap.size = A at hD ⊢
  have hA : ∀ q : Nat, s.heap.size ≤ q → A q := fun q h => by rw [← hAe]; exact Or.inr h
  have hS : va_S A s.heap s.heap [] := va_S.rf
  have hl := lv_entry ([.ref (a 0)]) (n := 1) (Nat.le_of_ble_eq_true rfl)
  rw [lg_entry_eq]
  generalize (lg_sl ([.ref (a 0)]) ++ List.replicate (1 - (lg_sl ([.ref (a 0)])).length) Slot.unset).toArray = ls at hl ⊢
  have hl : lv_has ls 1 [(0, .ref (a 0))] := hl
  rw [m_X4_readWhole] at h
  refine lv_aload_n hx hb dX4_readWhole_0 rfl (lv_at hl 0 rfl) ?_
  obtain ⟨v1, g2, h⟩ := o_b h
  refine k_rw (va_runV (As := []) (rest := []) ⟨hx, hb, hml, hown, hts⟩ (c_X4_readToError l dC dI cI cF a S v1 g2 s.heap.size) (cwV 0 hts gX4_readWhole_X4_readToError rfl rfl rfl (by decide +kernel) ⟨Nat.le_of_ble_eq_true rfl, Nat.le_of_ble_eq_true rfl⟩) (k_preVw (q0 := 0) (ci := 4) hK hP hD [0, 1, 2, 3] rfl rfl rfl rfl rfl) rfl rfl hl.1 rfl (lv_room (Nat.le_of_ble_eq_true rfl)) dX4_readWhole_1 ⟨Nat.zero_le _, Nat.zero_le _⟩) (st1 := [.int v1.1]) rfl hP hD hS hA [0, 1, 2, 3] rfl rfl (wn := wX4 a cI cF v1.2) rfl rfl rfl (fun H locs hP hD hS => ?_)
  refine lv_aload_n hx hb dX4_readWhole_4 rfl (lv_at hl 0 rfl) ?_
  refine va_get (D := (dC, dI)) (ci := 4) (v := .int (g_X4_length v1.2)) (C := RX4) (T := TX4) (N := 9) hx hb huX4 (fun _ h9 => h9) hown hK hP 0 rfl rfl 1 (by decide) w15 (fun _ h9 => h9) rfl dX4_readWhole_5 ?_
  refine lv_icmp_lt (tgt := 18) hx hb dX4_readWhole_8 (by decide) (fun c3 => ?_) (fun c3 => ?_)
  · have h := o_t h c3
    refine lv_iconst (v := (0 : Int32)) hx hb dX4_readWhole_18 (by decide) ?_
    have hu := Option.some.inj h
    exact W.zret (v := (0 : Int32)) hx hb hr rfl (fun t ht hW => ⟨⟨congrArg (fun z => Outcome.returned (some (Value.int z.1))) hu, by rw [ht, ← hu]; exact hP⟩, hS.F ht⟩) hS.2.2 dX4_readWhole_19
  have h := o_f h c3
  refine lv_aload_n hx hb dX4_readWhole_11 rfl (lv_at hl 0 rfl) ?_
  obtain ⟨v4, g5, h⟩ := o_b h
  refine k_ro (va_runV (As := []) (rest := []) ⟨hx, hb, hml, hown, hts⟩ (c_X4_mayEndPart l dC dI cI cF a v1.2 v4 g5) (cwV 0 hts gX4_readWhole_X4_mayEndPart rfl rfl rfl (by decide +kernel) ⟨Nat.le_of_ble_eq_true rfl, Nat.le_of_ble_eq_true rfl⟩) (k_preV (q0 := 0) (ci := 4) hK (hP.sub (ws' := wX4 a cI cF v1.2) [0, 1, 2, 3] rfl) rfl rfl rfl) rfl rfl hl.1 rfl (lv_room (Nat.le_of_ble_eq_true rfl)) dX4_readWhole_12 ⟨Nat.zero_le _, Nat.zero_le _⟩) (st1 := [.int v4]) rfl ?_
  refine lv_if_ne (tgt := 20) hx hb dX4_readWhole_15 (by decide) (fun c6 => ?_) (fun c6 => ?_)
  rotate_left
  · have h := o_t h c6
    refine lv_iconst (v := (0 : Int32)) hx hb dX4_readWhole_18 (by decide) ?_
    have hu := Option.some.inj h
    exact W.zret (v := (0 : Int32)) hx hb hr rfl (fun t ht hW => ⟨⟨congrArg (fun z => Outcome.returned (some (Value.int z.1))) hu, by rw [ht, ← hu]; exact hP⟩, hS.F ht⟩) hS.2.2 dX4_readWhole_19
  have h := o_f h c6
  refine lv_aload_n hx hb dX4_readWhole_20 rfl (lv_at hl 0 rfl) ?_
  obtain ⟨v7, g8, h⟩ := o_b h
  refine k_rw (va_runV (As := []) (rest := []) ⟨hx, hb, hml, hown, hts⟩ (c_X4_endPart l dC dI cI cF a v1.2 v7 g8 H.size) (cwV 0 hts gX4_readWhole_X4_endPart rfl rfl rfl (by decide +kernel) ⟨Nat.le_of_ble_eq_true rfl, Nat.le_of_ble_eq_true rfl⟩) (k_preVw (q0 := 0) (ci := 4) hK hP hD [0, 1, 2, 3] rfl rfl rfl rfl rfl) rfl rfl hl.1 rfl (lv_room (Nat.le_of_ble_eq_true rfl)) dX4_readWhole_21 ⟨Nat.zero_le _, Nat.zero_le _⟩) (st1 := []) rfl hP hD hS hA [0, 1, 2, 3] rfl rfl (wn := wX4 a cI cF v7) rfl rfl rfl (fun H locs hP hD hS => ?_)
  refine lv_iconst (v := (1 : Int32)) hx hb dX4_readWhole_24 (by decide) ?_
  have hu := Option.some.inj h
  exact W.zret (v := (1 : Int32)) hx hb hr rfl (fun t ht hW => ⟨⟨congrArg (fun z => Outcome.returned (some (Value.int z.1))) hu, by rw [ht, ← hu]; exact hP⟩, hS.F ht⟩) hS.2.2 dX4_readWhole_25

