-- X3_savedCount X3_rowAt X3_save X3_restore
def m_X3_savedCount (S : S_X3) : Option (Int32) := some (g_X3_saved S)
set_option maxHeartbeats 4000000 in
set_option maxRecDepth 100000 in
theorem c_X3_savedCount (l : Launch) (dC : Nat → ClassId) (dI : Nat → Nat → Nat) (cI cF : ClassId) (a : Nat → Nat) (S : S_X3) (u : Int32) (h : m_X3_savedCount S = some u) : cRO l (dC, dI) cI cF yX3_savedCount wsX3_savedCount ({ frames := 0, cells := 0, slots := 0, locals := 0 } : Room) [.ref (a 0)] (wX3 a cI cF S) (some (.int u)) := by
  refine Met.ofW (cc := cX3_savedCount) (maxL := 1) (ret := (some .int)) (by decide) rfl ?_
  intro p e s m args below meth c s₁ B hml hv
  obtain ⟨hargs, hP, hK⟩ := hv
  subst hargs
  have hx := B.exec
  have hb := B.bytes
  have hr := B.returns
  have hts := atoms_spec (ws := wsX3_savedCount) B.pre
  have hown : s.vm.findClass RX3 = some m.cls := findClass_of_methodNamed B.named
  have hlocks := B.notSynchronized
  have w21 := hts (.fieldLink RX3 21 "DrawnSlivers$History" "saved" "I") (List.mem_of_getElem? (i := 1) rfl)
  have huX3 : ∀ w ∈ u_ws RX3 TX3 3, w.before _ s = true := fun w h => hts w (List.mem_cons_of_mem _ (List.mem_append_right _ (h)))
  have hl := lv_entry ([.ref (a 0)]) (n := 1) (Nat.le_of_ble_eq_true rfl)
  rw [lg_entry_eq]
  generalize (lg_sl ([.ref (a 0)]) ++ List.replicate (1 - (lg_sl ([.ref (a 0)])).length) Slot.unset).toArray = ls at hl ⊢
  have hl : lv_has ls 1 [(0, .ref (a 0))] := hl
  rw [m_X3_savedCount] at h
  refine lv_aload_n hx hb dX3_savedCount_0 rfl (lv_at hl 0 rfl) ?_
  refine va_get (D := (dC, dI)) (ci := 3) (v := .int (g_X3_saved S)) (C := RX3) (T := TX3) (N := 3) hx hb huX3 (fun _ h9 => h9) hown hK hP 0 rfl rfl 2 (by decide) w21 (fun _ h9 => h9) rfl dX3_savedCount_1 ?_
  have hu := Option.some.inj h
  exact W.iret (v := g_X3_saved S) hx hb hr (fun t ht hW => ⟨congrArg (fun z => Outcome.returned (some (Value.int z))) hu, ht⟩) (fun q hq => absurd hq List.not_mem_nil) dX3_savedCount_4

def m_X3_rowAt (S : S_X3) (x1 : Int32) : Option (Option Nat) := if x1 < 0 then (some (none)) else (if (6 : Int32) ≤ x1 then (some (none)) else (if x1 < 0 ∨ 6 ≤ x1.toNatClampNeg then none else (some (some (x1.toNatClampNeg)))))
set_option maxHeartbeats 4000000 in
set_option maxRecDepth 100000 in
theorem c_X3_rowAt (l : Launch) (dC : Nat → ClassId) (dI : Nat → Nat → Nat) (cI cF : ClassId) (a : Nat → Nat) (S : S_X3) (x1 : Int32) (u : Option Nat) (h : m_X3_rowAt S x1 = some u) : cRO l (dC, dI) cI cF yX3_rowAt wsX3_rowAt ({ frames := 0, cells := 0, slots := 0, locals := 0 } : Room) [.ref (a 0), .int x1] (wX3 a cI cF S) (some (va_rf (u.map fun i => a (2 + 7 * i)))) := by
  refine Met.ofW (cc := cX3_rowAt) (maxL := 2) (ret := (some (.object "DrawnSlivers$Frame"))) (by decide) rfl ?_
  intro p e s m args below meth c s₁ B hml hv
  obtain ⟨hargs, hP, hK⟩ := hv
  subst hargs
  have hx := B.exec
  have hb := B.bytes
  have hr := B.returns
  have hts := atoms_spec (ws := wsX3_rowAt) B.pre
  have hown : s.vm.findClass RX3 = some m.cls := findClass_of_methodNamed B.named
  have hlocks := B.notSynchronized
  have w11 := hts (.fieldLink RX3 11 "DrawnSlivers$History" "rows" "[LDrawnSlivers$Frame;") (List.mem_of_getElem? (i := 1) rfl)
  have huX3 : ∀ w ∈ u_ws RX3 TX3 3, w.before _ s = true := fun w h => hts w (List.mem_cons_of_mem _ (List.mem_append_right _ (h)))
  have hl := lv_entry ([.ref (a 0), .int x1]) (n := 2) (Nat.le_of_ble_eq_true rfl)
  rw [lg_entry_eq]
  generalize (lg_sl ([.ref (a 0), .int x1]) ++ List.replicate (2 - (lg_sl ([.ref (a 0), .int x1])).length) Slot.unset).toArray = ls at hl ⊢
  have hl : lv_has ls 2 [(0, .ref (a 0)), (1, .int x1)] := hl
  rw [m_X3_rowAt] at h
  refine lv_iload_n hx hb dX3_rowAt_0 rfl (lv_at hl 1 rfl) ?_
  refine lv_if_lt (tgt := 22) hx hb dX3_rowAt_1 (by decide) (fun c1 => ?_) (fun c1 => ?_)
  · have h := o_t h c1
    refine lv_null hx hb dX3_rowAt_22 ?_
    have hu := Option.some.inj h
    exact W.aret (rt := .object RX2) hx hb hr (Or.inl ⟨_, rfl⟩) (Or.inl rfl) (fun t ht hW => ⟨by rw [← hu]; rfl, ht⟩) (fun q hq => absurd hq List.not_mem_nil) dX3_rowAt_23
  have h := o_f h c1
  refine lv_iload_n hx hb dX3_rowAt_4 rfl (lv_at hl 1 rfl) ?_
  refine lv_aload_n hx hb dX3_rowAt_5 rfl (lv_at hl 0 rfl) ?_
  refine va_get (D := (dC, dI)) (ci := 3) (v := .ref (a 1)) (C := RX3) (T := TX3) (N := 3) hx hb huX3 (fun _ h9 => h9) hown hK hP 0 rfl rfl 0 (by decide) w11 (fun _ h9 => h9) rfl dX3_rowAt_6 ?_
  refine va_alen (v := 6) hx hb hK hP 1 1 rfl rfl rfl dX3_rowAt_9 ?_
  refine lv_icmp_ge (tgt := 22) hx hb dX3_rowAt_10 (by decide) (fun c2 => ?_) (fun c2 => ?_)
  · have h := o_t h c2
    refine lv_null hx hb dX3_rowAt_22 ?_
    have hu := Option.some.inj h
    exact W.aret (rt := .object RX2) hx hb hr (Or.inl ⟨_, rfl⟩) (Or.inl rfl) (fun t ht hW => ⟨by rw [← hu]; rfl, ht⟩) (fun q hq => absurd hq List.not_mem_nil) dX3_rowAt_23
  have h := o_f h c2
  refine lv_aload_n hx hb dX3_rowAt_13 rfl (lv_at hl 0 rfl) ?_
  refine va_get (D := (dC, dI)) (ci := 3) (v := .ref (a 1)) (C := RX3) (T := TX3) (N := 3) hx hb huX3 (fun _ h9 => h9) hown hK hP 0 rfl rfl 0 (by decide) w11 (fun _ h9 => h9) rfl dX3_rowAt_14 ?_
  refine lv_iload_n hx hb dX3_rowAt_17 rfl (lv_at hl 1 rfl) ?_
  obtain ⟨i3, h⟩ := o_in h
  refine va_aldq hx hb hK hP 1 1 rfl rfl i3 dX3_rowAt_18 ?_
  refine lv_goto (tgt := 23) hx hb dX3_rowAt_19 (by decide) ?_
  have hu := Option.some.inj h
  exact W.aret (rt := .object RX2) hx hb hr (Or.inl ⟨_, rfl⟩) (Or.inr ⟨_, rfl⟩) (fun t ht hW => ⟨by rw [← hu]; rfl, ht⟩) (fun q hq => absurd hq List.not_mem_nil) dX3_rowAt_23

def m_X3_save_L32 (S1 : S_X2) (S : S_X3) : Option (S_X3) := (m_X3_rowAt S (((g_X3_oldest S) + (g_X3_saved S)) - ((g_X3_oldest S) + (g_X3_saved S)) / (6 : Int32) * (6 : Int32))).bind fun v2 => (v2.bind fun k4 => if k4 < 6 then ((m_X2_copyFrom ((g_X3_rows S) k4) S1).bind fun v7 => (some (s_X3_saved (s_X3_rows S (va_up (g_X3_rows S) k4 v7)) ((g_X3_saved S) + (1 : Int32))))) else none)
def m_X3_save (S : S_X3) (S1 : S_X2) : Option (S_X3) := if (g_X3_saved S) = (6 : Int32) then (m_X3_save_L32 S1 (s_X3_saved (s_X3_oldest S (((g_X3_oldest S) + (1 : Int32)) - ((g_X3_oldest S) + (1 : Int32)) / (6 : Int32) * (6 : Int32))) ((g_X3_saved S) - (1 : Int32)))) else (m_X3_save_L32 S1 S)
set_option maxHeartbeats 4000000 in
set_option maxRecDepth 100000 in
theorem c_X3_save (l : Launch) (dC : Nat → ClassId) (dI : Nat → Nat → Nat) (cI cF : ClassId) (a : Nat → Nat) (b : Nat → Nat) (S : S_X3) (S1 : S_X2) (u : S_X3) (h : m_X3_save S S1 = some u) : cRW l (dC, dI) cI cF yX3_save wsX3_save ({ frames := 3, cells := 0, slots := 0, locals := 102 } : Room) [.ref (a 0), .ref (b 0)] (wX3 a cI cF S ++ wX2 b cI cF S1) (wX3 a cI cF u ++ wX2 b cI cF S1) (none) := by
  intro sz
  refine Met.ofW (cc := cX3_save) (maxL := 3) (ret := none) (by decide) rfl ?_
  intro p e s m args below meth c s₁ B hml hv
  obtain ⟨hargs, hsz, hP, hK, hD0⟩ := hv
  subst hargs
  have hx := B.exec
  have hb := B.bytes
  have hr := B.returns
  have hts := atoms_spec (ws := wsX3_save) B.pre
  have hown : s.vm.findClass RX3 = some m.cls := findClass_of_methodNamed B.named
  have hlocks := B.notSynchronized
  have w17 := hts (.fieldLink RX3 17 "DrawnSlivers$History" "oldest" "I") (List.mem_of_getElem? (i := 2) rfl)
  have w21 := hts (.fieldLink RX3 21 "DrawnSlivers$History" "saved" "I") (List.mem_of_getElem? (i := 1) rfl)
  have w25 := hts (.methodLink RX3 25 yX3_rowAt) (List.mem_of_getElem? (i := 3) rfl)
  have w29 := hts (.methodLink RX3 29 yX2_copyFrom) (List.mem_of_getElem? (i := 9) rfl)
  have huX3 : ∀ w ∈ u_ws RX3 TX3 3, w.before _ s = true := fun w h => hts w (List.mem_cons_of_mem _ (List.mem_append_left _ (List.mem_append_left _ (List.mem_append_left _ (List.mem_append_right _ (h))))))
  subst hsz
  have hD := hD0.self (sz := s.heap.size)
  generalize hAe : va_A (wX3 a cI cF S ++ wX2 b cI cF S1) s.heap.size = A at hD ⊢
  have hA : ∀ q : Nat, s.heap.size ≤ q → A q := fun q h => by rw [← hAe]; exact Or.inr h
  have hS : va_S A s.heap s.heap [] := va_S.rf
  have L32 : ∀ (S : S_X3), m_X3_save_L32 S1 S = some u → ∀ (H : Heap) (locs : List Loc), va_P (dC, dI) vwCl (wX3 a cI cF S ++ wX2 b cI cF S1) H → va_D A (wX3 a cI cF S ++ wX2 b cI cF S1) → va_S A s.heap H locs → ∀ (ls : Array Slot), lv_has ls 3 [(0, .ref (a 0)), (1, .ref (b 0))] → W p l e (headSpec wsX3_save ({ frames := 3, cells := 0, slots := 0, locals := 102 } : Room)).room s m ([.ref (a 0), .ref (b 0)] : List Value).toArray below meth c H locs 0 0 (MQ below (qRW (dC, dI) (wX3 a cI cF u ++ wX2 b cI cF S1) (none) A) ([.ref (a 0), .ref (b 0)] : List Value).toArray s 0 0 A) (F0 m 32 ls []) := by
    intro  S h H locs hP hD hS ls hl
    rw [m_X3_save_L32] at h
    refine lv_aload_n hx hb dX3_save_32 rfl (lv_at hl 0 rfl) ?_
    refine lv_aload_n hx hb dX3_save_33 rfl (lv_at hl 0 rfl) ?_
    refine va_get (D := (dC, dI)) (ci := 3) (v := .int (g_X3_oldest S)) (C := RX3) (T := TX3) (N := 3) hx hb huX3 (fun _ h9 => h9) hown hK hP 0 rfl rfl 1 (by decide) w17 (fun _ h9 => h9) rfl dX3_save_34 ?_
    refine lv_aload_n hx hb dX3_save_37 rfl (lv_at hl 0 rfl) ?_
    refine va_get (D := (dC, dI)) (ci := 3) (v := .int (g_X3_saved S)) (C := RX3) (T := TX3) (N := 3) hx hb huX3 (fun _ h9 => h9) hown hK hP 0 rfl rfl 2 (by decide) w21 (fun _ h9 => h9) rfl dX3_save_38 ?_
    refine lv_iadd hx hb dX3_save_41 ?_
    refine lv_bipush (v := (6 : Int32)) hx hb dX3_save_42 (by decide) ?_
    refine lv_irem hx hb dX3_save_44 (by decide) ?_
    obtain ⟨v2, g3, h⟩ := o_b h
    refine k_ro (va_runV (As := [.int (((g_X3_oldest S) + (g_X3_saved S)) - ((g_X3_oldest S) + (g_X3_saved S)) / (6 : Int32) * (6 : Int32))]) (rest := []) ⟨hx, hb, hml, hown, hts⟩ (c_X3_rowAt l dC dI cI cF a S (((g_X3_oldest S) + (g_X3_saved S)) - ((g_X3_oldest S) + (g_X3_saved S)) / (6 : Int32) * (6 : Int32)) v2 g3) (cwV 1 hts gX3_save_X3_rowAt rfl rfl rfl (by decide +kernel) ⟨Nat.le_of_ble_eq_true rfl, Nat.le_of_ble_eq_true rfl⟩) (k_preL (q0 := 0) (ci := 3) hK hP (LN_l (LN_id (fX3 a cI cF S S))) rfl rfl rfl) rfl rfl hl.1 rfl (lv_room (Nat.le_of_ble_eq_true rfl)) dX3_save_45 ⟨Nat.zero_le _, Nat.zero_le _⟩) (st1 := [va_rf (v2.map fun i => a (2 + 7 * i))]) rfl ?_
    obtain ⟨k4, g5, hk9⟩ := o_b h
    clear h
    obtain ⟨b6, h⟩ := o_ok hk9
    clear hk9
    subst g5
    rcases (show k4 = 0 ∨ k4 = 1 ∨ k4 = 2 ∨ k4 = 3 ∨ k4 = 4 ∨ k4 = 5 by omega) with rfl | rfl | rfl | rfl | rfl | rfl
    · refine lv_astore_n (lv' := [(2, .ref (a 2)), (0, .ref (a 0)), (1, .ref (b 0))]) hx hb dX3_save_48 rfl hl (by decide) rfl (fun ls hl => ?_)
      refine lv_aload_n hx hb dX3_save_49 rfl (lv_at hl 0 rfl) ?_
      refine lv_ifnull hx hb dX3_save_50 ?_
      refine lv_aload_n hx hb dX3_save_53 rfl (lv_at hl 0 rfl) ?_
      refine lv_aload_n hx hb dX3_save_54 rfl (lv_at hl 2 rfl) ?_
      obtain ⟨v7, g8, h⟩ := o_b h
      refine k_rwL (va_runV (As := [.ref (b 0)]) (rest := []) ⟨hx, hb, hml, hown, hts⟩ (c_X2_copyFrom l dC dI cI cF (fun i => a (i + 2)) b ((g_X3_rows S) 0) S1 v7 g8 H.size) (cwV 1 hts gX3_save_X2_copyFrom rfl rfl rfl (by decide +kernel) ⟨Nat.le_of_ble_eq_true rfl, Nat.le_of_ble_eq_true rfl⟩) (k_preLw (q0 := 0) (ci := 2) hK hP hD (LN_two (LX3_row0 a cI cF S v7 (LN_id (fX2 (fun i => a (i + 2)) cI cF ((g_X3_rows S) 0) v7))) (LN_id (fX2 b cI cF S1 S1))) rfl rfl rfl) rfl rfl hl.1 rfl (lv_room (Nat.le_of_ble_eq_true rfl)) dX3_save_55 ⟨Nat.zero_le _, Nat.zero_le _⟩) (st1 := []) rfl hP hD hS hA (wn := wX3 a cI cF (s_X3_rows S (va_up (g_X3_rows S) 0 v7)) ++ wX2 b cI cF S1) (LN_two (LX3_row0 a cI cF S v7 (LN_id (fX2 (fun i => a (i + 2)) cI cF ((g_X3_rows S) 0) v7))) (LN_id (fX2 b cI cF S1 S1))) (fun H locs hP hD hS => ?_)
      refine lv_aload_n hx hb dX3_save_58 rfl (lv_at hl 1 rfl) ?_
      refine lv_dup hx hb dX3_save_59 rfl ?_
      refine va_get (D := (dC, dI)) (ci := 3) (v := .int (g_X3_saved S)) (C := RX3) (T := TX3) (N := 3) hx hb huX3 (fun _ h9 => h9) hown hK hP 0 rfl rfl 2 (by decide) w21 (fun _ h9 => h9) rfl dX3_save_60 ?_
      refine lv_iconst (v := (1 : Int32)) hx hb dX3_save_63 (by decide) ?_
      refine lv_iadd hx hb dX3_save_64 ?_
      refine va_put (D := (dC, dI)) (ci := 3) (v := .int ((g_X3_saved S) + (1 : Int32))) (ty := .int) (C := RX3) (T := TX3) (N := 3) hx hb huX3 (fun _ h9 => h9) tyX3 tyX3_ok nmX3 hown hK hP hD hS 0 rfl rfl 2 (by decide) w21 (fun _ h9 => h9) rfl (by decide +kernel) rfl rfl (Nat.le_of_ble_eq_true rfl) dX3_save_65 (fun H locs hP2 hD2 hS => ?_)
      obtain ⟨hP, hD⟩ : va_P (dC, dI) vwCl (wX3 a cI cF (s_X3_saved (s_X3_rows S (va_up (g_X3_rows S) 0 v7)) ((g_X3_saved S) + (1 : Int32))) ++ wX2 b cI cF S1) H ∧ va_D A (wX3 a cI cF (s_X3_saved (s_X3_rows S (va_up (g_X3_rows S) 0 v7)) ((g_X3_saved S) + (1 : Int32))) ++ wX2 b cI cF S1) := LN.set (LN_l (LX3_saved a cI cF (s_X3_rows S (va_up (g_X3_rows S) 0 v7)) ((g_X3_saved S) + (1 : Int32)))) (p := 0) rfl rfl hD hP2 hD2
      have hu := Option.some.inj h
      exact W.vret hx hb hr (fun t ht hW => ⟨⟨rfl, by rw [ht, ← hu]; exact hP⟩, hS.F ht⟩) hS.2.2 dX3_save_68
    · refine lv_astore_n (lv' := [(2, .ref (a 9)), (0, .ref (a 0)), (1, .ref (b 0))]) hx hb dX3_save_48 rfl hl (by decide) rfl (fun ls hl => ?_)
      refine lv_aload_n hx hb dX3_save_49 rfl (lv_at hl 0 rfl) ?_
      refine lv_ifnull hx hb dX3_save_50 ?_
      refine lv_aload_n hx hb dX3_save_53 rfl (lv_at hl 0 rfl) ?_
      refine lv_aload_n hx hb dX3_save_54 rfl (lv_at hl 2 rfl) ?_
      obtain ⟨v7, g8, h⟩ := o_b h
      refine k_rwL (va_runV (As := [.ref (b 0)]) (rest := []) ⟨hx, hb, hml, hown, hts⟩ (c_X2_copyFrom l dC dI cI cF (fun i => a (i + 9)) b ((g_X3_rows S) 1) S1 v7 g8 H.size) (cwV 1 hts gX3_save_X2_copyFrom rfl rfl rfl (by decide +kernel) ⟨Nat.le_of_ble_eq_true rfl, Nat.le_of_ble_eq_true rfl⟩) (k_preLw (q0 := 0) (ci := 2) hK hP hD (LN_two (LX3_row1 a cI cF S v7 (LN_id (fX2 (fun i => a (i + 9)) cI cF ((g_X3_rows S) 1) v7))) (LN_id (fX2 b cI cF S1 S1))) rfl rfl rfl) rfl rfl hl.1 rfl (lv_room (Nat.le_of_ble_eq_true rfl)) dX3_save_55 ⟨Nat.zero_le _, Nat.zero_le _⟩) (st1 := []) rfl hP hD hS hA (wn := wX3 a cI cF (s_X3_rows S (va_up (g_X3_rows S) 1 v7)) ++ wX2 b cI cF S1) (LN_two (LX3_row1 a cI cF S v7 (LN_id (fX2 (fun i => a (i + 9)) cI cF ((g_X3_rows S) 1) v7))) (LN_id (fX2 b cI cF S1 S1))) (fun H locs hP hD hS => ?_)
      refine lv_aload_n hx hb dX3_save_58 rfl (lv_at hl 1 rfl) ?_
      refine lv_dup hx hb dX3_save_59 rfl ?_
      refine va_get (D := (dC, dI)) (ci := 3) (v := .int (g_X3_saved S)) (C := RX3) (T := TX3) (N := 3) hx hb huX3 (fun _ h9 => h9) hown hK hP 0 rfl rfl 2 (by decide) w21 (fun _ h9 => h9) rfl dX3_save_60 ?_
      refine lv_iconst (v := (1 : Int32)) hx hb dX3_save_63 (by decide) ?_
      refine lv_iadd hx hb dX3_save_64 ?_
      refine va_put (D := (dC, dI)) (ci := 3) (v := .int ((g_X3_saved S) + (1 : Int32))) (ty := .int) (C := RX3) (T := TX3) (N := 3) hx hb huX3 (fun _ h9 => h9) tyX3 tyX3_ok nmX3 hown hK hP hD hS 0 rfl rfl 2 (by decide) w21 (fun _ h9 => h9) rfl (by decide +kernel) rfl rfl (Nat.le_of_ble_eq_true rfl) dX3_save_65 (fun H locs hP2 hD2 hS => ?_)
      obtain ⟨hP, hD⟩ : va_P (dC, dI) vwCl (wX3 a cI cF (s_X3_saved (s_X3_rows S (va_up (g_X3_rows S) 1 v7)) ((g_X3_saved S) + (1 : Int32))) ++ wX2 b cI cF S1) H ∧ va_D A (wX3 a cI cF (s_X3_saved (s_X3_rows S (va_up (g_X3_rows S) 1 v7)) ((g_X3_saved S) + (1 : Int32))) ++ wX2 b cI cF S1) := LN.set (LN_l (LX3_saved a cI cF (s_X3_rows S (va_up (g_X3_rows S) 1 v7)) ((g_X3_saved S) + (1 : Int32)))) (p := 0) rfl rfl hD hP2 hD2
      have hu := Option.some.inj h
      exact W.vret hx hb hr (fun t ht hW => ⟨⟨rfl, by rw [ht, ← hu]; exact hP⟩, hS.F ht⟩) hS.2.2 dX3_save_68
    · refine lv_astore_n (lv' := [(2, .ref (a 16)), (0, .ref (a 0)), (1, .ref (b 0))]) hx hb dX3_save_48 rfl hl (by decide) rfl (fun ls hl => ?_)
      refine lv_aload_n hx hb dX3_save_49 rfl (lv_at hl 0 rfl) ?_
      refine lv_ifnull hx hb dX3_save_50 ?_
      refine lv_aload_n hx hb dX3_save_53 rfl (lv_at hl 0 rfl) ?_
      refine lv_aload_n hx hb dX3_save_54 rfl (lv_at hl 2 rfl) ?_
      obtain ⟨v7, g8, h⟩ := o_b h
      refine k_rwL (va_runV (As := [.ref (b 0)]) (rest := []) ⟨hx, hb, hml, hown, hts⟩ (c_X2_copyFrom l dC dI cI cF (fun i => a (i + 16)) b ((g_X3_rows S) 2) S1 v7 g8 H.size) (cwV 1 hts gX3_save_X2_copyFrom rfl rfl rfl (by decide +kernel) ⟨Nat.le_of_ble_eq_true rfl, Nat.le_of_ble_eq_true rfl⟩) (k_preLw (q0 := 0) (ci := 2) hK hP hD (LN_two (LX3_row2 a cI cF S v7 (LN_id (fX2 (fun i => a (i + 16)) cI cF ((g_X3_rows S) 2) v7))) (LN_id (fX2 b cI cF S1 S1))) rfl rfl rfl) rfl rfl hl.1 rfl (lv_room (Nat.le_of_ble_eq_true rfl)) dX3_save_55 ⟨Nat.zero_le _, Nat.zero_le _⟩) (st1 := []) rfl hP hD hS hA (wn := wX3 a cI cF (s_X3_rows S (va_up (g_X3_rows S) 2 v7)) ++ wX2 b cI cF S1) (LN_two (LX3_row2 a cI cF S v7 (LN_id (fX2 (fun i => a (i + 16)) cI cF ((g_X3_rows S) 2) v7))) (LN_id (fX2 b cI cF S1 S1))) (fun H locs hP hD hS => ?_)
      refine lv_aload_n hx hb dX3_save_58 rfl (lv_at hl 1 rfl) ?_
      refine lv_dup hx hb dX3_save_59 rfl ?_
      refine va_get (D := (dC, dI)) (ci := 3) (v := .int (g_X3_saved S)) (C := RX3) (T := TX3) (N := 3) hx hb huX3 (fun _ h9 => h9) hown hK hP 0 rfl rfl 2 (by decide) w21 (fun _ h9 => h9) rfl dX3_save_60 ?_
      refine lv_iconst (v := (1 : Int32)) hx hb dX3_save_63 (by decide) ?_
      refine lv_iadd hx hb dX3_save_64 ?_
      refine va_put (D := (dC, dI)) (ci := 3) (v := .int ((g_X3_saved S) + (1 : Int32))) (ty := .int) (C := RX3) (T := TX3) (N := 3) hx hb huX3 (fun _ h9 => h9) tyX3 tyX3_ok nmX3 hown hK hP hD hS 0 rfl rfl 2 (by decide) w21 (fun _ h9 => h9) rfl (by decide +kernel) rfl rfl (Nat.le_of_ble_eq_true rfl) dX3_save_65 (fun H locs hP2 hD2 hS => ?_)
      obtain ⟨hP, hD⟩ : va_P (dC, dI) vwCl (wX3 a cI cF (s_X3_saved (s_X3_rows S (va_up (g_X3_rows S) 2 v7)) ((g_X3_saved S) + (1 : Int32))) ++ wX2 b cI cF S1) H ∧ va_D A (wX3 a cI cF (s_X3_saved (s_X3_rows S (va_up (g_X3_rows S) 2 v7)) ((g_X3_saved S) + (1 : Int32))) ++ wX2 b cI cF S1) := LN.set (LN_l (LX3_saved a cI cF (s_X3_rows S (va_up (g_X3_rows S) 2 v7)) ((g_X3_saved S) + (1 : Int32)))) (p := 0) rfl rfl hD hP2 hD2
      have hu := Option.some.inj h
      exact W.vret hx hb hr (fun t ht hW => ⟨⟨rfl, by rw [ht, ← hu]; exact hP⟩, hS.F ht⟩) hS.2.2 dX3_save_68
    · refine lv_astore_n (lv' := [(2, .ref (a 23)), (0, .ref (a 0)), (1, .ref (b 0))]) hx hb dX3_save_48 rfl hl (by decide) rfl (fun ls hl => ?_)
      refine lv_aload_n hx hb dX3_save_49 rfl (lv_at hl 0 rfl) ?_
      refine lv_ifnull hx hb dX3_save_50 ?_
      refine lv_aload_n hx hb dX3_save_53 rfl (lv_at hl 0 rfl) ?_
      refine lv_aload_n hx hb dX3_save_54 rfl (lv_at hl 2 rfl) ?_
      obtain ⟨v7, g8, h⟩ := o_b h
      refine k_rwL (va_runV (As := [.ref (b 0)]) (rest := []) ⟨hx, hb, hml, hown, hts⟩ (c_X2_copyFrom l dC dI cI cF (fun i => a (i + 23)) b ((g_X3_rows S) 3) S1 v7 g8 H.size) (cwV 1 hts gX3_save_X2_copyFrom rfl rfl rfl (by decide +kernel) ⟨Nat.le_of_ble_eq_true rfl, Nat.le_of_ble_eq_true rfl⟩) (k_preLw (q0 := 0) (ci := 2) hK hP hD (LN_two (LX3_row3 a cI cF S v7 (LN_id (fX2 (fun i => a (i + 23)) cI cF ((g_X3_rows S) 3) v7))) (LN_id (fX2 b cI cF S1 S1))) rfl rfl rfl) rfl rfl hl.1 rfl (lv_room (Nat.le_of_ble_eq_true rfl)) dX3_save_55 ⟨Nat.zero_le _, Nat.zero_le _⟩) (st1 := []) rfl hP hD hS hA (wn := wX3 a cI cF (s_X3_rows S (va_up (g_X3_rows S) 3 v7)) ++ wX2 b cI cF S1) (LN_two (LX3_row3 a cI cF S v7 (LN_id (fX2 (fun i => a (i + 23)) cI cF ((g_X3_rows S) 3) v7))) (LN_id (fX2 b cI cF S1 S1))) (fun H locs hP hD hS => ?_)
      refine lv_aload_n hx hb dX3_save_58 rfl (lv_at hl 1 rfl) ?_
      refine lv_dup hx hb dX3_save_59 rfl ?_
      refine va_get (D := (dC, dI)) (ci := 3) (v := .int (g_X3_saved S)) (C := RX3) (T := TX3) (N := 3) hx hb huX3 (fun _ h9 => h9) hown hK hP 0 rfl rfl 2 (by decide) w21 (fun _ h9 => h9) rfl dX3_save_60 ?_
      refine lv_iconst (v := (1 : Int32)) hx hb dX3_save_63 (by decide) ?_
      refine lv_iadd hx hb dX3_save_64 ?_
      refine va_put (D := (dC, dI)) (ci := 3) (v := .int ((g_X3_saved S) + (1 : Int32))) (ty := .int) (C := RX3) (T := TX3) (N := 3) hx hb huX3 (fun _ h9 => h9) tyX3 tyX3_ok nmX3 hown hK hP hD hS 0 rfl rfl 2 (by decide) w21 (fun _ h9 => h9) rfl (by decide +kernel) rfl rfl (Nat.le_of_ble_eq_true rfl) dX3_save_65 (fun H locs hP2 hD2 hS => ?_)
      obtain ⟨hP, hD⟩ : va_P (dC, dI) vwCl (wX3 a cI cF (s_X3_saved (s_X3_rows S (va_up (g_X3_rows S) 3 v7)) ((g_X3_saved S) + (1 : Int32))) ++ wX2 b cI cF S1) H ∧ va_D A (wX3 a cI cF (s_X3_saved (s_X3_rows S (va_up (g_X3_rows S) 3 v7)) ((g_X3_saved S) + (1 : Int32))) ++ wX2 b cI cF S1) := LN.set (LN_l (LX3_saved a cI cF (s_X3_rows S (va_up (g_X3_rows S) 3 v7)) ((g_X3_saved S) + (1 : Int32)))) (p := 0) rfl rfl hD hP2 hD2
      have hu := Option.some.inj h
      exact W.vret hx hb hr (fun t ht hW => ⟨⟨rfl, by rw [ht, ← hu]; exact hP⟩, hS.F ht⟩) hS.2.2 dX3_save_68
    · refine lv_astore_n (lv' := [(2, .ref (a 30)), (0, .ref (a 0)), (1, .ref (b 0))]) hx hb dX3_save_48 rfl hl (by decide) rfl (fun ls hl => ?_)
      refine lv_aload_n hx hb dX3_save_49 rfl (lv_at hl 0 rfl) ?_
      refine lv_ifnull hx hb dX3_save_50 ?_
      refine lv_aload_n hx hb dX3_save_53 rfl (lv_at hl 0 rfl) ?_
      refine lv_aload_n hx hb dX3_save_54 rfl (lv_at hl 2 rfl) ?_
      obtain ⟨v7, g8, h⟩ := o_b h
      refine k_rwL (va_runV (As := [.ref (b 0)]) (rest := []) ⟨hx, hb, hml, hown, hts⟩ (c_X2_copyFrom l dC dI cI cF (fun i => a (i + 30)) b ((g_X3_rows S) 4) S1 v7 g8 H.size) (cwV 1 hts gX3_save_X2_copyFrom rfl rfl rfl (by decide +kernel) ⟨Nat.le_of_ble_eq_true rfl, Nat.le_of_ble_eq_true rfl⟩) (k_preLw (q0 := 0) (ci := 2) hK hP hD (LN_two (LX3_row4 a cI cF S v7 (LN_id (fX2 (fun i => a (i + 30)) cI cF ((g_X3_rows S) 4) v7))) (LN_id (fX2 b cI cF S1 S1))) rfl rfl rfl) rfl rfl hl.1 rfl (lv_room (Nat.le_of_ble_eq_true rfl)) dX3_save_55 ⟨Nat.zero_le _, Nat.zero_le _⟩) (st1 := []) rfl hP hD hS hA (wn := wX3 a cI cF (s_X3_rows S (va_up (g_X3_rows S) 4 v7)) ++ wX2 b cI cF S1) (LN_two (LX3_row4 a cI cF S v7 (LN_id (fX2 (fun i => a (i + 30)) cI cF ((g_X3_rows S) 4) v7))) (LN_id (fX2 b cI cF S1 S1))) (fun H locs hP hD hS => ?_)
      refine lv_aload_n hx hb dX3_save_58 rfl (lv_at hl 1 rfl) ?_
      refine lv_dup hx hb dX3_save_59 rfl ?_
      refine va_get (D := (dC, dI)) (ci := 3) (v := .int (g_X3_saved S)) (C := RX3) (T := TX3) (N := 3) hx hb huX3 (fun _ h9 => h9) hown hK hP 0 rfl rfl 2 (by decide) w21 (fun _ h9 => h9) rfl dX3_save_60 ?_
      refine lv_iconst (v := (1 : Int32)) hx hb dX3_save_63 (by decide) ?_
      refine lv_iadd hx hb dX3_save_64 ?_
      refine va_put (D := (dC, dI)) (ci := 3) (v := .int ((g_X3_saved S) + (1 : Int32))) (ty := .int) (C := RX3) (T := TX3) (N := 3) hx hb huX3 (fun _ h9 => h9) tyX3 tyX3_ok nmX3 hown hK hP hD hS 0 rfl rfl 2 (by decide) w21 (fun _ h9 => h9) rfl (by decide +kernel) rfl rfl (Nat.le_of_ble_eq_true rfl) dX3_save_65 (fun H locs hP2 hD2 hS => ?_)
      obtain ⟨hP, hD⟩ : va_P (dC, dI) vwCl (wX3 a cI cF (s_X3_saved (s_X3_rows S (va_up (g_X3_rows S) 4 v7)) ((g_X3_saved S) + (1 : Int32))) ++ wX2 b cI cF S1) H ∧ va_D A (wX3 a cI cF (s_X3_saved (s_X3_rows S (va_up (g_X3_rows S) 4 v7)) ((g_X3_saved S) + (1 : Int32))) ++ wX2 b cI cF S1) := LN.set (LN_l (LX3_saved a cI cF (s_X3_rows S (va_up (g_X3_rows S) 4 v7)) ((g_X3_saved S) + (1 : Int32)))) (p := 0) rfl rfl hD hP2 hD2
      have hu := Option.some.inj h
      exact W.vret hx hb hr (fun t ht hW => ⟨⟨rfl, by rw [ht, ← hu]; exact hP⟩, hS.F ht⟩) hS.2.2 dX3_save_68
    · refine lv_astore_n (lv' := [(2, .ref (a 37)), (0, .ref (a 0)), (1, .ref (b 0))]) hx hb dX3_save_48 rfl hl (by decide) rfl (fun ls hl => ?_)
      refine lv_aload_n hx hb dX3_save_49 rfl (lv_at hl 0 rfl) ?_
      refine lv_ifnull hx hb dX3_save_50 ?_
      refine lv_aload_n hx hb dX3_save_53 rfl (lv_at hl 0 rfl) ?_
      refine lv_aload_n hx hb dX3_save_54 rfl (lv_at hl 2 rfl) ?_
      obtain ⟨v7, g8, h⟩ := o_b h
      refine k_rwL (va_runV (As := [.ref (b 0)]) (rest := []) ⟨hx, hb, hml, hown, hts⟩ (c_X2_copyFrom l dC dI cI cF (fun i => a (i + 37)) b ((g_X3_rows S) 5) S1 v7 g8 H.size) (cwV 1 hts gX3_save_X2_copyFrom rfl rfl rfl (by decide +kernel) ⟨Nat.le_of_ble_eq_true rfl, Nat.le_of_ble_eq_true rfl⟩) (k_preLw (q0 := 0) (ci := 2) hK hP hD (LN_two (LX3_row5 a cI cF S v7 (LN_id (fX2 (fun i => a (i + 37)) cI cF ((g_X3_rows S) 5) v7))) (LN_id (fX2 b cI cF S1 S1))) rfl rfl rfl) rfl rfl hl.1 rfl (lv_room (Nat.le_of_ble_eq_true rfl)) dX3_save_55 ⟨Nat.zero_le _, Nat.zero_le _⟩) (st1 := []) rfl hP hD hS hA (wn := wX3 a cI cF (s_X3_rows S (va_up (g_X3_rows S) 5 v7)) ++ wX2 b cI cF S1) (LN_two (LX3_row5 a cI cF S v7 (LN_id (fX2 (fun i => a (i + 37)) cI cF ((g_X3_rows S) 5) v7))) (LN_id (fX2 b cI cF S1 S1))) (fun H locs hP hD hS => ?_)
      refine lv_aload_n hx hb dX3_save_58 rfl (lv_at hl 1 rfl) ?_
      refine lv_dup hx hb dX3_save_59 rfl ?_
      refine va_get (D := (dC, dI)) (ci := 3) (v := .int (g_X3_saved S)) (C := RX3) (T := TX3) (N := 3) hx hb huX3 (fun _ h9 => h9) hown hK hP 0 rfl rfl 2 (by decide) w21 (fun _ h9 => h9) rfl dX3_save_60 ?_
      refine lv_iconst (v := (1 : Int32)) hx hb dX3_save_63 (by decide) ?_
      refine lv_iadd hx hb dX3_save_64 ?_
      refine va_put (D := (dC, dI)) (ci := 3) (v := .int ((g_X3_saved S) + (1 : Int32))) (ty := .int) (C := RX3) (T := TX3) (N := 3) hx hb huX3 (fun _ h9 => h9) tyX3 tyX3_ok nmX3 hown hK hP hD hS 0 rfl rfl 2 (by decide) w21 (fun _ h9 => h9) rfl (by decide +kernel) rfl rfl (Nat.le_of_ble_eq_true rfl) dX3_save_65 (fun H locs hP2 hD2 hS => ?_)
      obtain ⟨hP, hD⟩ : va_P (dC, dI) vwCl (wX3 a cI cF (s_X3_saved (s_X3_rows S (va_up (g_X3_rows S) 5 v7)) ((g_X3_saved S) + (1 : Int32))) ++ wX2 b cI cF S1) H ∧ va_D A (wX3 a cI cF (s_X3_saved (s_X3_rows S (va_up (g_X3_rows S) 5 v7)) ((g_X3_saved S) + (1 : Int32))) ++ wX2 b cI cF S1) := LN.set (LN_l (LX3_saved a cI cF (s_X3_rows S (va_up (g_X3_rows S) 5 v7)) ((g_X3_saved S) + (1 : Int32)))) (p := 0) rfl rfl hD hP2 hD2
      have hu := Option.some.inj h
      exact W.vret hx hb hr (fun t ht hW => ⟨⟨rfl, by rw [ht, ← hu]; exact hP⟩, hS.F ht⟩) hS.2.2 dX3_save_68
  have hl := lv_entry ([.ref (a 0), .ref (b 0)]) (n := 3) (Nat.le_of_ble_eq_true rfl)
  rw [lg_entry_eq]
  generalize (lg_sl ([.ref (a 0), .ref (b 0)]) ++ List.replicate (3 - (lg_sl ([.ref (a 0), .ref (b 0)])).length) Slot.unset).toArray = ls at hl ⊢
  have hl : lv_has ls 3 [(0, .ref (a 0)), (1, .ref (b 0))] := hl
  rw [m_X3_save] at h
  refine lv_aload_n hx hb dX3_save_0 rfl (lv_at hl 0 rfl) ?_
  refine va_get (D := (dC, dI)) (ci := 3) (v := .int (g_X3_saved S)) (C := RX3) (T := TX3) (N := 3) hx hb huX3 (fun _ h9 => h9) hown hK hP 0 rfl rfl 2 (by decide) w21 (fun _ h9 => h9) rfl dX3_save_1 ?_
  refine lv_bipush (v := (6 : Int32)) hx hb dX3_save_4 (by decide) ?_
  refine lv_icmp_ne (tgt := 32) hx hb dX3_save_6 (by decide) (fun c1 => ?_) (fun c1 => ?_)
  · have h := o_f h c1
    exact L32 _ h _ _ hP hD hS _ (lv_sub hl [0, 1] rfl)
  have h := o_t h c1
  refine lv_aload_n hx hb dX3_save_9 rfl (lv_at hl 0 rfl) ?_
  refine lv_aload_n hx hb dX3_save_10 rfl (lv_at hl 0 rfl) ?_
  refine va_get (D := (dC, dI)) (ci := 3) (v := .int (g_X3_oldest S)) (C := RX3) (T := TX3) (N := 3) hx hb huX3 (fun _ h9 => h9) hown hK hP 0 rfl rfl 1 (by decide) w17 (fun _ h9 => h9) rfl dX3_save_11 ?_
  refine lv_iconst (v := (1 : Int32)) hx hb dX3_save_14 (by decide) ?_
  refine lv_iadd hx hb dX3_save_15 ?_
  refine lv_bipush (v := (6 : Int32)) hx hb dX3_save_16 (by decide) ?_
  refine lv_irem hx hb dX3_save_18 (by decide) ?_
  refine va_put (D := (dC, dI)) (ci := 3) (v := .int (((g_X3_oldest S) + (1 : Int32)) - ((g_X3_oldest S) + (1 : Int32)) / (6 : Int32) * (6 : Int32))) (ty := .int) (C := RX3) (T := TX3) (N := 3) hx hb huX3 (fun _ h9 => h9) tyX3 tyX3_ok nmX3 hown hK hP hD hS 0 rfl rfl 1 (by decide) w17 (fun _ h9 => h9) rfl (by decide +kernel) rfl rfl (Nat.le_of_ble_eq_true rfl) dX3_save_19 (fun H locs hP2 hD2 hS => ?_)
  obtain ⟨hP, hD⟩ : va_P (dC, dI) vwCl (wX3 a cI cF (s_X3_oldest S (((g_X3_oldest S) + (1 : Int32)) - ((g_X3_oldest S) + (1 : Int32)) / (6 : Int32) * (6 : Int32))) ++ wX2 b cI cF S1) H ∧ va_D A (wX3 a cI cF (s_X3_oldest S (((g_X3_oldest S) + (1 : Int32)) - ((g_X3_oldest S) + (1 : Int32)) / (6 : Int32) * (6 : Int32))) ++ wX2 b cI cF S1) := LN.set (LN_l (LX3_oldest a cI cF S (((g_X3_oldest S) + (1 : Int32)) - ((g_X3_oldest S) + (1 : Int32)) / (6 : Int32) * (6 : Int32)))) (p := 0) rfl rfl hD hP2 hD2
  refine lv_aload_n hx hb dX3_save_22 rfl (lv_at hl 0 rfl) ?_
  refine lv_dup hx hb dX3_save_23 rfl ?_
  refine va_get (D := (dC, dI)) (ci := 3) (v := .int (g_X3_saved S)) (C := RX3) (T := TX3) (N := 3) hx hb huX3 (fun _ h9 => h9) hown hK hP 0 rfl rfl 2 (by decide) w21 (fun _ h9 => h9) rfl dX3_save_24 ?_
  refine lv_iconst (v := (1 : Int32)) hx hb dX3_save_27 (by decide) ?_
  refine lv_isub hx hb dX3_save_28 ?_
  refine va_put (D := (dC, dI)) (ci := 3) (v := .int ((g_X3_saved S) - (1 : Int32))) (ty := .int) (C := RX3) (T := TX3) (N := 3) hx hb huX3 (fun _ h9 => h9) tyX3 tyX3_ok nmX3 hown hK hP hD hS 0 rfl rfl 2 (by decide) w21 (fun _ h9 => h9) rfl (by decide +kernel) rfl rfl (Nat.le_of_ble_eq_true rfl) dX3_save_29 (fun H locs hP2 hD2 hS => ?_)
  obtain ⟨hP, hD⟩ : va_P (dC, dI) vwCl (wX3 a cI cF (s_X3_saved (s_X3_oldest S (((g_X3_oldest S) + (1 : Int32)) - ((g_X3_oldest S) + (1 : Int32)) / (6 : Int32) * (6 : Int32))) ((g_X3_saved S) - (1 : Int32))) ++ wX2 b cI cF S1) H ∧ va_D A (wX3 a cI cF (s_X3_saved (s_X3_oldest S (((g_X3_oldest S) + (1 : Int32)) - ((g_X3_oldest S) + (1 : Int32)) / (6 : Int32) * (6 : Int32))) ((g_X3_saved S) - (1 : Int32))) ++ wX2 b cI cF S1) := LN.set (LN_l (LX3_saved a cI cF (s_X3_oldest S (((g_X3_oldest S) + (1 : Int32)) - ((g_X3_oldest S) + (1 : Int32)) / (6 : Int32) * (6 : Int32))) ((g_X3_saved S) - (1 : Int32)))) (p := 0) rfl rfl hD hP2 hD2
  exact L32 _ h _ _ hP hD hS _ (lv_sub hl [0, 1] rfl)

def m_X3_restore (S : S_X3) (S1 : S_X2) : Option (S_X3 × S_X2) := if (g_X3_saved S) = 0 then (some (S, S1)) else ((m_X3_rowAt S ((((g_X3_oldest S) + (g_X3_saved S)) - (1 : Int32)) - (((g_X3_oldest S) + (g_X3_saved S)) - (1 : Int32)) / (6 : Int32) * (6 : Int32))).bind fun v2 => (v2.bind fun k4 => if k4 < 6 then ((m_X2_copyFrom S1 ((g_X3_rows S) k4)).bind fun v7 => (some (s_X3_saved S ((g_X3_saved S) - (1 : Int32)), v7))) else none))
set_option maxHeartbeats 4000000 in
set_option maxRecDepth 100000 in
theorem c_X3_restore (l : Launch) (dC : Nat → ClassId) (dI : Nat → Nat → Nat) (cI cF : ClassId) (a : Nat → Nat) (b : Nat → Nat) (S : S_X3) (S1 : S_X2) (u : S_X3 × S_X2) (h : m_X3_restore S S1 = some u) : cRW l (dC, dI) cI cF yX3_restore wsX3_restore ({ frames := 3, cells := 0, slots := 0, locals := 102 } : Room) [.ref (a 0), .ref (b 0)] (wX3 a cI cF S ++ wX2 b cI cF S1) (wX3 a cI cF u.1 ++ wX2 b cI cF u.2) (none) := by
  intro sz
  refine Met.ofW (cc := cX3_restore) (maxL := 3) (ret := none) (by decide) rfl ?_
  intro p e s m args below meth c s₁ B hml hv
  obtain ⟨hargs, hsz, hP, hK, hD0⟩ := hv
  subst hargs
  have hx := B.exec
  have hb := B.bytes
  have hr := B.returns
  have hts := atoms_spec (ws := wsX3_restore) B.pre
  have hown : s.vm.findClass RX3 = some m.cls := findClass_of_methodNamed B.named
  have hlocks := B.notSynchronized
  have w17 := hts (.fieldLink RX3 17 "DrawnSlivers$History" "oldest" "I") (List.mem_of_getElem? (i := 2) rfl)
  have w21 := hts (.fieldLink RX3 21 "DrawnSlivers$History" "saved" "I") (List.mem_of_getElem? (i := 1) rfl)
  have w25 := hts (.methodLink RX3 25 yX3_rowAt) (List.mem_of_getElem? (i := 3) rfl)
  have w29 := hts (.methodLink RX3 29 yX2_copyFrom) (List.mem_of_getElem? (i := 9) rfl)
  have huX3 : ∀ w ∈ u_ws RX3 TX3 3, w.before _ s = true := fun w h => hts w (List.mem_cons_of_mem _ (List.mem_append_left _ (List.mem_append_left _ (List.mem_append_left _ (List.mem_append_right _ (h))))))
  subst hsz
  have hD := hD0.self (sz := s.heap.size)
  generalize hAe : va_A (wX3 a cI cF S ++ wX2 b cI cF S1) s.heap.size = A at hD ⊢
  have hA : ∀ q : Nat, s.heap.size ≤ q → A q := fun q h => by rw [← hAe]; exact Or.inr h
  have hS : va_S A s.heap s.heap [] := va_S.rf
  have hl := lv_entry ([.ref (a 0), .ref (b 0)]) (n := 3) (Nat.le_of_ble_eq_true rfl)
  rw [lg_entry_eq]
  generalize (lg_sl ([.ref (a 0), .ref (b 0)]) ++ List.replicate (3 - (lg_sl ([.ref (a 0), .ref (b 0)])).length) Slot.unset).toArray = ls at hl ⊢
  have hl : lv_has ls 3 [(0, .ref (a 0)), (1, .ref (b 0))] := hl
  rw [m_X3_restore] at h
  refine lv_aload_n hx hb dX3_restore_0 rfl (lv_at hl 0 rfl) ?_
  refine va_get (D := (dC, dI)) (ci := 3) (v := .int (g_X3_saved S)) (C := RX3) (T := TX3) (N := 3) hx hb huX3 (fun _ h9 => h9) hown hK hP 0 rfl rfl 2 (by decide) w21 (fun _ h9 => h9) rfl dX3_restore_1 ?_
  refine lv_if_ne (tgt := 8) hx hb dX3_restore_4 (by decide) (fun c1 => ?_) (fun c1 => ?_)
  rotate_left
  · have h := o_t h c1
    have hu := Option.some.inj h
    exact W.vret hx hb hr (fun t ht hW => ⟨⟨rfl, by rw [ht, ← hu]; exact hP⟩, hS.F ht⟩) hS.2.2 dX3_restore_7
  have h := o_f h c1
  refine lv_aload_n hx hb dX3_restore_8 rfl (lv_at hl 0 rfl) ?_
  refine lv_aload_n hx hb dX3_restore_9 rfl (lv_at hl 0 rfl) ?_
  refine va_get (D := (dC, dI)) (ci := 3) (v := .int (g_X3_oldest S)) (C := RX3) (T := TX3) (N := 3) hx hb huX3 (fun _ h9 => h9) hown hK hP 0 rfl rfl 1 (by decide) w17 (fun _ h9 => h9) rfl dX3_restore_10 ?_
  refine lv_aload_n hx hb dX3_restore_13 rfl (lv_at hl 0 rfl) ?_
  refine va_get (D := (dC, dI)) (ci := 3) (v := .int (g_X3_saved S)) (C := RX3) (T := TX3) (N := 3) hx hb huX3 (fun _ h9 => h9) hown hK hP 0 rfl rfl 2 (by decide) w21 (fun _ h9 => h9) rfl dX3_restore_14 ?_
  refine lv_iadd hx hb dX3_restore_17 ?_
  refine lv_iconst (v := (1 : Int32)) hx hb dX3_restore_18 (by decide) ?_
  refine lv_isub hx hb dX3_restore_19 ?_
  refine lv_bipush (v := (6 : Int32)) hx hb dX3_restore_20 (by decide) ?_
  refine lv_irem hx hb dX3_restore_22 (by decide) ?_
  obtain ⟨v2, g3, h⟩ := o_b h
  refine k_ro (va_runV (As := [.int ((((g_X3_oldest S) + (g_X3_saved S)) - (1 : Int32)) - (((g_X3_oldest S) + (g_X3_saved S)) - (1 : Int32)) / (6 : Int32) * (6 : Int32))]) (rest := []) ⟨hx, hb, hml, hown, hts⟩ (c_X3_rowAt l dC dI cI cF a S ((((g_X3_oldest S) + (g_X3_saved S)) - (1 : Int32)) - (((g_X3_oldest S) + (g_X3_saved S)) - (1 : Int32)) / (6 : Int32) * (6 : Int32)) v2 g3) (cwV 1 hts gX3_restore_X3_rowAt rfl rfl rfl (by decide +kernel) ⟨Nat.le_of_ble_eq_true rfl, Nat.le_of_ble_eq_true rfl⟩) (k_preL (q0 := 0) (ci := 3) hK hP (LN_l (LN_id (fX3 a cI cF S S))) rfl rfl rfl) rfl rfl hl.1 rfl (lv_room (Nat.le_of_ble_eq_true rfl)) dX3_restore_23 ⟨Nat.zero_le _, Nat.zero_le _⟩) (st1 := [va_rf (v2.map fun i => a (2 + 7 * i))]) rfl ?_
  obtain ⟨k4, g5, hk9⟩ := o_b h
  clear h
  obtain ⟨b6, h⟩ := o_ok hk9
  clear hk9
  subst g5
  rcases (show k4 = 0 ∨ k4 = 1 ∨ k4 = 2 ∨ k4 = 3 ∨ k4 = 4 ∨ k4 = 5 by omega) with rfl | rfl | rfl | rfl | rfl | rfl
  · refine lv_astore_n (lv' := [(2, .ref (a 2)), (0, .ref (a 0)), (1, .ref (b 0))]) hx hb dX3_restore_26 rfl hl (by decide) rfl (fun ls hl => ?_)
    refine lv_aload_n hx hb dX3_restore_27 rfl (lv_at hl 0 rfl) ?_
    refine lv_ifnull hx hb dX3_restore_28 ?_
    refine lv_aload_n hx hb dX3_restore_31 rfl (lv_at hl 2 rfl) ?_
    refine lv_aload_n hx hb dX3_restore_32 rfl (lv_at hl 0 rfl) ?_
    obtain ⟨v7, g8, h⟩ := o_b h
    refine k_rwL (va_runV (As := [.ref (a 2)]) (rest := []) ⟨hx, hb, hml, hown, hts⟩ (c_X2_copyFrom l dC dI cI cF b (fun i => a (i + 2)) S1 ((g_X3_rows S) 0) v7 g8 s.heap.size) (cwV 1 hts gX3_restore_X2_copyFrom rfl rfl rfl (by decide +kernel) ⟨Nat.le_of_ble_eq_true rfl, Nat.le_of_ble_eq_true rfl⟩) (k_preLw (q0 := 0) (ci := 2) hK hP hD (LN_sw (LN_two (LX3_row0 a cI cF S ((g_X3_rows S) 0) (LN_id (fX2 (fun i => a (i + 2)) cI cF ((g_X3_rows S) 0) ((g_X3_rows S) 0)))) (LN_id (fX2 b cI cF S1 v7)))) rfl rfl rfl) rfl rfl hl.1 rfl (lv_room (Nat.le_of_ble_eq_true rfl)) dX3_restore_33 ⟨Nat.zero_le _, Nat.zero_le _⟩) (st1 := []) rfl hP hD hS hA (wn := wX3 a cI cF S ++ wX2 b cI cF v7) (LN_sw (LN_two (LX3_row0 a cI cF S ((g_X3_rows S) 0) (LN_id (fX2 (fun i => a (i + 2)) cI cF ((g_X3_rows S) 0) ((g_X3_rows S) 0)))) (LN_id (fX2 b cI cF S1 v7)))) (fun H locs hP hD hS => ?_)
    refine lv_aload_n hx hb dX3_restore_36 rfl (lv_at hl 1 rfl) ?_
    refine lv_dup hx hb dX3_restore_37 rfl ?_
    refine va_get (D := (dC, dI)) (ci := 3) (v := .int (g_X3_saved S)) (C := RX3) (T := TX3) (N := 3) hx hb huX3 (fun _ h9 => h9) hown hK hP 0 rfl rfl 2 (by decide) w21 (fun _ h9 => h9) rfl dX3_restore_38 ?_
    refine lv_iconst (v := (1 : Int32)) hx hb dX3_restore_41 (by decide) ?_
    refine lv_isub hx hb dX3_restore_42 ?_
    refine va_put (D := (dC, dI)) (ci := 3) (v := .int ((g_X3_saved S) - (1 : Int32))) (ty := .int) (C := RX3) (T := TX3) (N := 3) hx hb huX3 (fun _ h9 => h9) tyX3 tyX3_ok nmX3 hown hK hP hD hS 0 rfl rfl 2 (by decide) w21 (fun _ h9 => h9) rfl (by decide +kernel) rfl rfl (Nat.le_of_ble_eq_true rfl) dX3_restore_43 (fun H locs hP2 hD2 hS => ?_)
    obtain ⟨hP, hD⟩ : va_P (dC, dI) vwCl (wX3 a cI cF (s_X3_saved S ((g_X3_saved S) - (1 : Int32))) ++ wX2 b cI cF v7) H ∧ va_D A (wX3 a cI cF (s_X3_saved S ((g_X3_saved S) - (1 : Int32))) ++ wX2 b cI cF v7) := LN.set (LN_l (LX3_saved a cI cF S ((g_X3_saved S) - (1 : Int32)))) (p := 0) rfl rfl hD hP2 hD2
    have hu := Option.some.inj h
    exact W.vret hx hb hr (fun t ht hW => ⟨⟨rfl, by rw [ht, ← hu]; exact hP⟩, hS.F ht⟩) hS.2.2 dX3_restore_46
  · refine lv_astore_n (lv' := [(2, .ref (a 9)), (0, .ref (a 0)), (1, .ref (b 0))]) hx hb dX3_restore_26 rfl hl (by decide) rfl (fun ls hl => ?_)
    refine lv_aload_n hx hb dX3_restore_27 rfl (lv_at hl 0 rfl) ?_
    refine lv_ifnull hx hb dX3_restore_28 ?_
    refine lv_aload_n hx hb dX3_restore_31 rfl (lv_at hl 2 rfl) ?_
    refine lv_aload_n hx hb dX3_restore_32 rfl (lv_at hl 0 rfl) ?_
    obtain ⟨v7, g8, h⟩ := o_b h
    refine k_rwL (va_runV (As := [.ref (a 9)]) (rest := []) ⟨hx, hb, hml, hown, hts⟩ (c_X2_copyFrom l dC dI cI cF b (fun i => a (i + 9)) S1 ((g_X3_rows S) 1) v7 g8 s.heap.size) (cwV 1 hts gX3_restore_X2_copyFrom rfl rfl rfl (by decide +kernel) ⟨Nat.le_of_ble_eq_true rfl, Nat.le_of_ble_eq_true rfl⟩) (k_preLw (q0 := 0) (ci := 2) hK hP hD (LN_sw (LN_two (LX3_row1 a cI cF S ((g_X3_rows S) 1) (LN_id (fX2 (fun i => a (i + 9)) cI cF ((g_X3_rows S) 1) ((g_X3_rows S) 1)))) (LN_id (fX2 b cI cF S1 v7)))) rfl rfl rfl) rfl rfl hl.1 rfl (lv_room (Nat.le_of_ble_eq_true rfl)) dX3_restore_33 ⟨Nat.zero_le _, Nat.zero_le _⟩) (st1 := []) rfl hP hD hS hA (wn := wX3 a cI cF S ++ wX2 b cI cF v7) (LN_sw (LN_two (LX3_row1 a cI cF S ((g_X3_rows S) 1) (LN_id (fX2 (fun i => a (i + 9)) cI cF ((g_X3_rows S) 1) ((g_X3_rows S) 1)))) (LN_id (fX2 b cI cF S1 v7)))) (fun H locs hP hD hS => ?_)
    refine lv_aload_n hx hb dX3_restore_36 rfl (lv_at hl 1 rfl) ?_
    refine lv_dup hx hb dX3_restore_37 rfl ?_
    refine va_get (D := (dC, dI)) (ci := 3) (v := .int (g_X3_saved S)) (C := RX3) (T := TX3) (N := 3) hx hb huX3 (fun _ h9 => h9) hown hK hP 0 rfl rfl 2 (by decide) w21 (fun _ h9 => h9) rfl dX3_restore_38 ?_
    refine lv_iconst (v := (1 : Int32)) hx hb dX3_restore_41 (by decide) ?_
    refine lv_isub hx hb dX3_restore_42 ?_
    refine va_put (D := (dC, dI)) (ci := 3) (v := .int ((g_X3_saved S) - (1 : Int32))) (ty := .int) (C := RX3) (T := TX3) (N := 3) hx hb huX3 (fun _ h9 => h9) tyX3 tyX3_ok nmX3 hown hK hP hD hS 0 rfl rfl 2 (by decide) w21 (fun _ h9 => h9) rfl (by decide +kernel) rfl rfl (Nat.le_of_ble_eq_true rfl) dX3_restore_43 (fun H locs hP2 hD2 hS => ?_)
    obtain ⟨hP, hD⟩ : va_P (dC, dI) vwCl (wX3 a cI cF (s_X3_saved S ((g_X3_saved S) - (1 : Int32))) ++ wX2 b cI cF v7) H ∧ va_D A (wX3 a cI cF (s_X3_saved S ((g_X3_saved S) - (1 : Int32))) ++ wX2 b cI cF v7) := LN.set (LN_l (LX3_saved a cI cF S ((g_X3_saved S) - (1 : Int32)))) (p := 0) rfl rfl hD hP2 hD2
    have hu := Option.some.inj h
    exact W.vret hx hb hr (fun t ht hW => ⟨⟨rfl, by rw [ht, ← hu]; exact hP⟩, hS.F ht⟩) hS.2.2 dX3_restore_46
  · refine lv_astore_n (lv' := [(2, .ref (a 16)), (0, .ref (a 0)), (1, .ref (b 0))]) hx hb dX3_restore_26 rfl hl (by decide) rfl (fun ls hl => ?_)
    refine lv_aload_n hx hb dX3_restore_27 rfl (lv_at hl 0 rfl) ?_
    refine lv_ifnull hx hb dX3_restore_28 ?_
    refine lv_aload_n hx hb dX3_restore_31 rfl (lv_at hl 2 rfl) ?_
    refine lv_aload_n hx hb dX3_restore_32 rfl (lv_at hl 0 rfl) ?_
    obtain ⟨v7, g8, h⟩ := o_b h
    refine k_rwL (va_runV (As := [.ref (a 16)]) (rest := []) ⟨hx, hb, hml, hown, hts⟩ (c_X2_copyFrom l dC dI cI cF b (fun i => a (i + 16)) S1 ((g_X3_rows S) 2) v7 g8 s.heap.size) (cwV 1 hts gX3_restore_X2_copyFrom rfl rfl rfl (by decide +kernel) ⟨Nat.le_of_ble_eq_true rfl, Nat.le_of_ble_eq_true rfl⟩) (k_preLw (q0 := 0) (ci := 2) hK hP hD (LN_sw (LN_two (LX3_row2 a cI cF S ((g_X3_rows S) 2) (LN_id (fX2 (fun i => a (i + 16)) cI cF ((g_X3_rows S) 2) ((g_X3_rows S) 2)))) (LN_id (fX2 b cI cF S1 v7)))) rfl rfl rfl) rfl rfl hl.1 rfl (lv_room (Nat.le_of_ble_eq_true rfl)) dX3_restore_33 ⟨Nat.zero_le _, Nat.zero_le _⟩) (st1 := []) rfl hP hD hS hA (wn := wX3 a cI cF S ++ wX2 b cI cF v7) (LN_sw (LN_two (LX3_row2 a cI cF S ((g_X3_rows S) 2) (LN_id (fX2 (fun i => a (i + 16)) cI cF ((g_X3_rows S) 2) ((g_X3_rows S) 2)))) (LN_id (fX2 b cI cF S1 v7)))) (fun H locs hP hD hS => ?_)
    refine lv_aload_n hx hb dX3_restore_36 rfl (lv_at hl 1 rfl) ?_
    refine lv_dup hx hb dX3_restore_37 rfl ?_
    refine va_get (D := (dC, dI)) (ci := 3) (v := .int (g_X3_saved S)) (C := RX3) (T := TX3) (N := 3) hx hb huX3 (fun _ h9 => h9) hown hK hP 0 rfl rfl 2 (by decide) w21 (fun _ h9 => h9) rfl dX3_restore_38 ?_
    refine lv_iconst (v := (1 : Int32)) hx hb dX3_restore_41 (by decide) ?_
    refine lv_isub hx hb dX3_restore_42 ?_
    refine va_put (D := (dC, dI)) (ci := 3) (v := .int ((g_X3_saved S) - (1 : Int32))) (ty := .int) (C := RX3) (T := TX3) (N := 3) hx hb huX3 (fun _ h9 => h9) tyX3 tyX3_ok nmX3 hown hK hP hD hS 0 rfl rfl 2 (by decide) w21 (fun _ h9 => h9) rfl (by decide +kernel) rfl rfl (Nat.le_of_ble_eq_true rfl) dX3_restore_43 (fun H locs hP2 hD2 hS => ?_)
    obtain ⟨hP, hD⟩ : va_P (dC, dI) vwCl (wX3 a cI cF (s_X3_saved S ((g_X3_saved S) - (1 : Int32))) ++ wX2 b cI cF v7) H ∧ va_D A (wX3 a cI cF (s_X3_saved S ((g_X3_saved S) - (1 : Int32))) ++ wX2 b cI cF v7) := LN.set (LN_l (LX3_saved a cI cF S ((g_X3_saved S) - (1 : Int32)))) (p := 0) rfl rfl hD hP2 hD2
    have hu := Option.some.inj h
    exact W.vret hx hb hr (fun t ht hW => ⟨⟨rfl, by rw [ht, ← hu]; exact hP⟩, hS.F ht⟩) hS.2.2 dX3_restore_46
  · refine lv_astore_n (lv' := [(2, .ref (a 23)), (0, .ref (a 0)), (1, .ref (b 0))]) hx hb dX3_restore_26 rfl hl (by decide) rfl (fun ls hl => ?_)
    refine lv_aload_n hx hb dX3_restore_27 rfl (lv_at hl 0 rfl) ?_
    refine lv_ifnull hx hb dX3_restore_28 ?_
    refine lv_aload_n hx hb dX3_restore_31 rfl (lv_at hl 2 rfl) ?_
    refine lv_aload_n hx hb dX3_restore_32 rfl (lv_at hl 0 rfl) ?_
    obtain ⟨v7, g8, h⟩ := o_b h
    refine k_rwL (va_runV (As := [.ref (a 23)]) (rest := []) ⟨hx, hb, hml, hown, hts⟩ (c_X2_copyFrom l dC dI cI cF b (fun i => a (i + 23)) S1 ((g_X3_rows S) 3) v7 g8 s.heap.size) (cwV 1 hts gX3_restore_X2_copyFrom rfl rfl rfl (by decide +kernel) ⟨Nat.le_of_ble_eq_true rfl, Nat.le_of_ble_eq_true rfl⟩) (k_preLw (q0 := 0) (ci := 2) hK hP hD (LN_sw (LN_two (LX3_row3 a cI cF S ((g_X3_rows S) 3) (LN_id (fX2 (fun i => a (i + 23)) cI cF ((g_X3_rows S) 3) ((g_X3_rows S) 3)))) (LN_id (fX2 b cI cF S1 v7)))) rfl rfl rfl) rfl rfl hl.1 rfl (lv_room (Nat.le_of_ble_eq_true rfl)) dX3_restore_33 ⟨Nat.zero_le _, Nat.zero_le _⟩) (st1 := []) rfl hP hD hS hA (wn := wX3 a cI cF S ++ wX2 b cI cF v7) (LN_sw (LN_two (LX3_row3 a cI cF S ((g_X3_rows S) 3) (LN_id (fX2 (fun i => a (i + 23)) cI cF ((g_X3_rows S) 3) ((g_X3_rows S) 3)))) (LN_id (fX2 b cI cF S1 v7)))) (fun H locs hP hD hS => ?_)
    refine lv_aload_n hx hb dX3_restore_36 rfl (lv_at hl 1 rfl) ?_
    refine lv_dup hx hb dX3_restore_37 rfl ?_
    refine va_get (D := (dC, dI)) (ci := 3) (v := .int (g_X3_saved S)) (C := RX3) (T := TX3) (N := 3) hx hb huX3 (fun _ h9 => h9) hown hK hP 0 rfl rfl 2 (by decide) w21 (fun _ h9 => h9) rfl dX3_restore_38 ?_
    refine lv_iconst (v := (1 : Int32)) hx hb dX3_restore_41 (by decide) ?_
    refine lv_isub hx hb dX3_restore_42 ?_
    refine va_put (D := (dC, dI)) (ci := 3) (v := .int ((g_X3_saved S) - (1 : Int32))) (ty := .int) (C := RX3) (T := TX3) (N := 3) hx hb huX3 (fun _ h9 => h9) tyX3 tyX3_ok nmX3 hown hK hP hD hS 0 rfl rfl 2 (by decide) w21 (fun _ h9 => h9) rfl (by decide +kernel) rfl rfl (Nat.le_of_ble_eq_true rfl) dX3_restore_43 (fun H locs hP2 hD2 hS => ?_)
    obtain ⟨hP, hD⟩ : va_P (dC, dI) vwCl (wX3 a cI cF (s_X3_saved S ((g_X3_saved S) - (1 : Int32))) ++ wX2 b cI cF v7) H ∧ va_D A (wX3 a cI cF (s_X3_saved S ((g_X3_saved S) - (1 : Int32))) ++ wX2 b cI cF v7) := LN.set (LN_l (LX3_saved a cI cF S ((g_X3_saved S) - (1 : Int32)))) (p := 0) rfl rfl hD hP2 hD2
    have hu := Option.some.inj h
    exact W.vret hx hb hr (fun t ht hW => ⟨⟨rfl, by rw [ht, ← hu]; exact hP⟩, hS.F ht⟩) hS.2.2 dX3_restore_46
  · refine lv_astore_n (lv' := [(2, .ref (a 30)), (0, .ref (a 0)), (1, .ref (b 0))]) hx hb dX3_restore_26 rfl hl (by decide) rfl (fun ls hl => ?_)
    refine lv_aload_n hx hb dX3_restore_27 rfl (lv_at hl 0 rfl) ?_
    refine lv_ifnull hx hb dX3_restore_28 ?_
    refine lv_aload_n hx hb dX3_restore_31 rfl (lv_at hl 2 rfl) ?_
    refine lv_aload_n hx hb dX3_restore_32 rfl (lv_at hl 0 rfl) ?_
    obtain ⟨v7, g8, h⟩ := o_b h
    refine k_rwL (va_runV (As := [.ref (a 30)]) (rest := []) ⟨hx, hb, hml, hown, hts⟩ (c_X2_copyFrom l dC dI cI cF b (fun i => a (i + 30)) S1 ((g_X3_rows S) 4) v7 g8 s.heap.size) (cwV 1 hts gX3_restore_X2_copyFrom rfl rfl rfl (by decide +kernel) ⟨Nat.le_of_ble_eq_true rfl, Nat.le_of_ble_eq_true rfl⟩) (k_preLw (q0 := 0) (ci := 2) hK hP hD (LN_sw (LN_two (LX3_row4 a cI cF S ((g_X3_rows S) 4) (LN_id (fX2 (fun i => a (i + 30)) cI cF ((g_X3_rows S) 4) ((g_X3_rows S) 4)))) (LN_id (fX2 b cI cF S1 v7)))) rfl rfl rfl) rfl rfl hl.1 rfl (lv_room (Nat.le_of_ble_eq_true rfl)) dX3_restore_33 ⟨Nat.zero_le _, Nat.zero_le _⟩) (st1 := []) rfl hP hD hS hA (wn := wX3 a cI cF S ++ wX2 b cI cF v7) (LN_sw (LN_two (LX3_row4 a cI cF S ((g_X3_rows S) 4) (LN_id (fX2 (fun i => a (i + 30)) cI cF ((g_X3_rows S) 4) ((g_X3_rows S) 4)))) (LN_id (fX2 b cI cF S1 v7)))) (fun H locs hP hD hS => ?_)
    refine lv_aload_n hx hb dX3_restore_36 rfl (lv_at hl 1 rfl) ?_
    refine lv_dup hx hb dX3_restore_37 rfl ?_
    refine va_get (D := (dC, dI)) (ci := 3) (v := .int (g_X3_saved S)) (C := RX3) (T := TX3) (N := 3) hx hb huX3 (fun _ h9 => h9) hown hK hP 0 rfl rfl 2 (by decide) w21 (fun _ h9 => h9) rfl dX3_restore_38 ?_
    refine lv_iconst (v := (1 : Int32)) hx hb dX3_restore_41 (by decide) ?_
    refine lv_isub hx hb dX3_restore_42 ?_
    refine va_put (D := (dC, dI)) (ci := 3) (v := .int ((g_X3_saved S) - (1 : Int32))) (ty := .int) (C := RX3) (T := TX3) (N := 3) hx hb huX3 (fun _ h9 => h9) tyX3 tyX3_ok nmX3 hown hK hP hD hS 0 rfl rfl 2 (by decide) w21 (fun _ h9 => h9) rfl (by decide +kernel) rfl rfl (Nat.le_of_ble_eq_true rfl) dX3_restore_43 (fun H locs hP2 hD2 hS => ?_)
    obtain ⟨hP, hD⟩ : va_P (dC, dI) vwCl (wX3 a cI cF (s_X3_saved S ((g_X3_saved S) - (1 : Int32))) ++ wX2 b cI cF v7) H ∧ va_D A (wX3 a cI cF (s_X3_saved S ((g_X3_saved S) - (1 : Int32))) ++ wX2 b cI cF v7) := LN.set (LN_l (LX3_saved a cI cF S ((g_X3_saved S) - (1 : Int32)))) (p := 0) rfl rfl hD hP2 hD2
    have hu := Option.some.inj h
    exact W.vret hx hb hr (fun t ht hW => ⟨⟨rfl, by rw [ht, ← hu]; exact hP⟩, hS.F ht⟩) hS.2.2 dX3_restore_46
  · refine lv_astore_n (lv' := [(2, .ref (a 37)), (0, .ref (a 0)), (1, .ref (b 0))]) hx hb dX3_restore_26 rfl hl (by decide) rfl (fun ls hl => ?_)
    refine lv_aload_n hx hb dX3_restore_27 rfl (lv_at hl 0 rfl) ?_
    refine lv_ifnull hx hb dX3_restore_28 ?_
    refine lv_aload_n hx hb dX3_restore_31 rfl (lv_at hl 2 rfl) ?_
    refine lv_aload_n hx hb dX3_restore_32 rfl (lv_at hl 0 rfl) ?_
    obtain ⟨v7, g8, h⟩ := o_b h
    refine k_rwL (va_runV (As := [.ref (a 37)]) (rest := []) ⟨hx, hb, hml, hown, hts⟩ (c_X2_copyFrom l dC dI cI cF b (fun i => a (i + 37)) S1 ((g_X3_rows S) 5) v7 g8 s.heap.size) (cwV 1 hts gX3_restore_X2_copyFrom rfl rfl rfl (by decide +kernel) ⟨Nat.le_of_ble_eq_true rfl, Nat.le_of_ble_eq_true rfl⟩) (k_preLw (q0 := 0) (ci := 2) hK hP hD (LN_sw (LN_two (LX3_row5 a cI cF S ((g_X3_rows S) 5) (LN_id (fX2 (fun i => a (i + 37)) cI cF ((g_X3_rows S) 5) ((g_X3_rows S) 5)))) (LN_id (fX2 b cI cF S1 v7)))) rfl rfl rfl) rfl rfl hl.1 rfl (lv_room (Nat.le_of_ble_eq_true rfl)) dX3_restore_33 ⟨Nat.zero_le _, Nat.zero_le _⟩) (st1 := []) rfl hP hD hS hA (wn := wX3 a cI cF S ++ wX2 b cI cF v7) (LN_sw (LN_two (LX3_row5 a cI cF S ((g_X3_rows S) 5) (LN_id (fX2 (fun i => a (i + 37)) cI cF ((g_X3_rows S) 5) ((g_X3_rows S) 5)))) (LN_id (fX2 b cI cF S1 v7)))) (fun H locs hP hD hS => ?_)
    refine lv_aload_n hx hb dX3_restore_36 rfl (lv_at hl 1 rfl) ?_
    refine lv_dup hx hb dX3_restore_37 rfl ?_
    refine va_get (D := (dC, dI)) (ci := 3) (v := .int (g_X3_saved S)) (C := RX3) (T := TX3) (N := 3) hx hb huX3 (fun _ h9 => h9) hown hK hP 0 rfl rfl 2 (by decide) w21 (fun _ h9 => h9) rfl dX3_restore_38 ?_
    refine lv_iconst (v := (1 : Int32)) hx hb dX3_restore_41 (by decide) ?_
    refine lv_isub hx hb dX3_restore_42 ?_
    refine va_put (D := (dC, dI)) (ci := 3) (v := .int ((g_X3_saved S) - (1 : Int32))) (ty := .int) (C := RX3) (T := TX3) (N := 3) hx hb huX3 (fun _ h9 => h9) tyX3 tyX3_ok nmX3 hown hK hP hD hS 0 rfl rfl 2 (by decide) w21 (fun _ h9 => h9) rfl (by decide +kernel) rfl rfl (Nat.le_of_ble_eq_true rfl) dX3_restore_43 (fun H locs hP2 hD2 hS => ?_)
    obtain ⟨hP, hD⟩ : va_P (dC, dI) vwCl (wX3 a cI cF (s_X3_saved S ((g_X3_saved S) - (1 : Int32))) ++ wX2 b cI cF v7) H ∧ va_D A (wX3 a cI cF (s_X3_saved S ((g_X3_saved S) - (1 : Int32))) ++ wX2 b cI cF v7) := LN.set (LN_l (LX3_saved a cI cF S ((g_X3_saved S) - (1 : Int32)))) (p := 0) rfl rfl hD hP2 hD2
    have hu := Option.some.inj h
    exact W.vret hx hb hr (fun t ht hW => ⟨⟨rfl, by rw [ht, ← hu]; exact hP⟩, hS.F ht⟩) hS.2.2 dX3_restore_46

