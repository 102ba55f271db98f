-- X6_isNext X6_number X6_times X6_go X6_fill X6_tip X6_feed
def m_X6_isNext (S : S_X6) (x1 : Int32) (x2 : Int32) : Option (Int32) := if (g_X6_isWrong S) = 0 then (if (g_X6_length S) ≤ (g_X6_place S) then (some (0 : Int32)) else (if (g_X6_place S) < 0 ∨ 60 ≤ (g_X6_place S).toNatClampNeg then none else ((m_X6_in ((g_X6_text S) (g_X6_place S).toNatClampNeg) x1 x2).bind fun v4 => (if v4 = 0 then (some (0 : Int32)) else (some (1 : Int32)))))) else (some (0 : Int32))
set_option maxHeartbeats 4000000 in
set_option maxRecDepth 100000 in
theorem c_X6_isNext (l : Launch) (dC : Nat → ClassId) (dI : Nat → Nat → Nat) (cI cF : ClassId) (a : Nat → Nat) (S : S_X6) (x1 : Int32) (x2 : Int32) (u : Int32) (h : m_X6_isNext S x1 x2 = some u) : cRO l (dC, dI) cI cF yX6_isNext wsX6_isNext ({ frames := 1, cells := 0, slots := 0, locals := 22 } : Room) [.ref (a 0), .int x1, .int x2] (wX6 a cI cF S) (some (.int u)) := by
  refine Met.ofW (cc := cX6_isNext) (maxL := 3) (ret := (some .boolean)) (by decide) rfl ?_
  intro p e s m args below meth c s₁ B hml hv
  obtain ⟨hargs, hP, hK⟩ := hv
  subst hargs
  have hx := B.exec
  have hb := B.bytes
  have hr := B.returns
  have hts := atoms_spec (ws := wsX6_isNext) B.pre
  have hown : s.vm.findClass RX6 = some m.cls := findClass_of_methodNamed B.named
  have hlocks := B.notSynchronized
  have w22 := hts (.fieldLink RX6 22 "DrawnSliversModel" "text" "[I") (List.mem_of_getElem? (i := 4) rfl)
  have w32 := hts (.methodLink RX6 32 yX6_in) (List.mem_of_getElem? (i := 5) rfl)
  have w72 := hts (.fieldLink RX6 72 "DrawnSliversModel" "place" "I") (List.mem_of_getElem? (i := 2) rfl)
  have w75 := hts (.fieldLink RX6 75 "DrawnSliversModel" "length" "I") (List.mem_of_getElem? (i := 3) rfl)
  have w78 := hts (.fieldLink RX6 78 "DrawnSliversModel" "isWrong" "Z") (List.mem_of_getElem? (i := 1) rfl)
  have huX6 : ∀ w ∈ u_ws RX6 TX6 11, w.before _ s = true := fun w h => hts w (List.mem_cons_of_mem _ (List.mem_append_right _ (h)))
  have hl := lv_entry ([.ref (a 0), .int x1, .int x2]) (n := 3) (Nat.le_of_ble_eq_true rfl)
  rw [lg_entry_eq]
  generalize (lg_sl ([.ref (a 0), .int x1, .int x2]) ++ List.replicate (3 - (lg_sl ([.ref (a 0), .int x1, .int x2])).length) Slot.unset).toArray = ls at hl ⊢
  have hl : lv_has ls 3 [(0, .ref (a 0)), (1, .int x1), (2, .int x2)] := hl
  rw [m_X6_isNext] at h
  refine lv_aload_n hx hb dX6_isNext_0 rfl (lv_at hl 0 rfl) ?_
  refine va_get (D := (dC, dI)) (ci := 6) (v := .int (g_X6_isWrong S)) (C := RX6) (T := TX6) (N := 11) hx hb huX6 (fun _ h9 => h9) hown hK hP 0 rfl rfl 10 (by decide) w78 (fun _ h9 => h9) rfl dX6_isNext_1 ?_
  refine lv_if_ne (tgt := 39) hx hb dX6_isNext_4 (by decide) (fun c1 => ?_) (fun c1 => ?_)
  · have h := o_f h c1
    refine lv_iconst (v := (0 : Int32)) hx hb dX6_isNext_39 (by decide) ?_
    have hu := Option.some.inj h
    exact W.zret (v := (0 : Int32)) hx hb hr rfl (fun t ht hW => ⟨congrArg (fun z => Outcome.returned (some (Value.int z))) hu, ht⟩) (fun q hq => absurd hq List.not_mem_nil) dX6_isNext_40
  have h := o_t h c1
  refine lv_aload_n hx hb dX6_isNext_7 rfl (lv_at hl 0 rfl) ?_
  refine va_get (D := (dC, dI)) (ci := 6) (v := .int (g_X6_place S)) (C := RX6) (T := TX6) (N := 11) hx hb huX6 (fun _ h9 => h9) hown hK hP 0 rfl rfl 9 (by decide) w72 (fun _ h9 => h9) rfl dX6_isNext_8 ?_
  refine lv_aload_n hx hb dX6_isNext_11 rfl (lv_at hl 0 rfl) ?_
  refine va_get (D := (dC, dI)) (ci := 6) (v := .int (g_X6_length S)) (C := RX6) (T := TX6) (N := 11) hx hb huX6 (fun _ h9 => h9) hown hK hP 0 rfl rfl 7 (by decide) w75 (fun _ h9 => h9) rfl dX6_isNext_12 ?_
  refine lv_icmp_ge (tgt := 39) hx hb dX6_isNext_15 (by decide) (fun c2 => ?_) (fun c2 => ?_)
  · have h := o_t h c2
    refine lv_iconst (v := (0 : Int32)) hx hb dX6_isNext_39 (by decide) ?_
    have hu := Option.some.inj h
    exact W.zret (v := (0 : Int32)) hx hb hr rfl (fun t ht hW => ⟨congrArg (fun z => Outcome.returned (some (Value.int z))) hu, ht⟩) (fun q hq => absurd hq List.not_mem_nil) dX6_isNext_40
  have h := o_f h c2
  refine lv_aload_n hx hb dX6_isNext_18 rfl (lv_at hl 0 rfl) ?_
  refine va_get (D := (dC, dI)) (ci := 6) (v := .ref (a 5)) (C := RX6) (T := TX6) (N := 11) hx hb huX6 (fun _ h9 => h9) hown hK hP 0 rfl rfl 6 (by decide) w22 (fun _ h9 => h9) rfl dX6_isNext_19 ?_
  refine lv_aload_n hx hb dX6_isNext_22 rfl (lv_at hl 0 rfl) ?_
  refine va_get (D := (dC, dI)) (ci := 6) (v := .int (g_X6_place S)) (C := RX6) (T := TX6) (N := 11) hx hb huX6 (fun _ h9 => h9) hown hK hP 0 rfl rfl 9 (by decide) w72 (fun _ h9 => h9) rfl dX6_isNext_23 ?_
  obtain ⟨i3, h⟩ := o_in h
  refine va_iald hx hb hK hP 5 0 rfl rfl i3 dX6_isNext_26 ?_
  refine lv_iload_n hx hb dX6_isNext_27 rfl (lv_at hl 1 rfl) ?_
  refine lv_iload_n hx hb dX6_isNext_28 rfl (lv_at hl 2 rfl) ?_
  obtain ⟨v4, g5, h⟩ := o_b h
  refine k_ro (va_runS (As := [.int ((g_X6_text S) (g_X6_place S).toNatClampNeg), .int x1, .int x2]) (rest := []) ⟨hx, hb, hml, hown, hts⟩ (c_X6_in l dC dI cI cF ((g_X6_text S) (g_X6_place S).toNatClampNeg) x1 x2 v4 g5) (va_cwS 3 hts gX6_isNext_X6_in rfl rfl rfl (by decide +kernel) ⟨Nat.le_of_ble_eq_true rfl, Nat.le_of_ble_eq_true rfl⟩) (k_prePU) rfl rfl hl.1 rfl (lv_room (Nat.le_of_ble_eq_true rfl)) dX6_isNext_29 ⟨Nat.zero_le _, Nat.zero_le _⟩) (st1 := [.int v4]) rfl ?_
  refine lv_if_eq (tgt := 39) hx hb dX6_isNext_32 (by decide) (fun c6 => ?_) (fun c6 => ?_)
  · have h := o_t h c6
    refine lv_iconst (v := (0 : Int32)) hx hb dX6_isNext_39 (by decide) ?_
    have hu := Option.some.inj h
    exact W.zret (v := (0 : Int32)) hx hb hr rfl (fun t ht hW => ⟨congrArg (fun z => Outcome.returned (some (Value.int z))) hu, ht⟩) (fun q hq => absurd hq List.not_mem_nil) dX6_isNext_40
  have h := o_f h c6
  refine lv_iconst (v := (1 : Int32)) hx hb dX6_isNext_35 (by decide) ?_
  refine lv_goto (tgt := 40) hx hb dX6_isNext_36 (by decide) ?_
  have hu := Option.some.inj h
  exact W.zret (v := (1 : Int32)) hx hb hr rfl (fun t ht hW => ⟨congrArg (fun z => Outcome.returned (some (Value.int z))) hu, ht⟩) (fun q hq => absurd hq List.not_mem_nil) dX6_isNext_40

def m_X6_number_L14 : Nat → Int32 → Int32 → S_X6 → Option (Int32 × S_X6)
  | 0, _, _, _ => none
  | n + 1, y2, y3, S => if y3 ≤ 0 then (some (y3, S)) else ((m_X6_isNext S (48 : Int32) (57 : Int32)).bind fun v6 => (if v6 = 0 then (some (y3, S)) else (if (g_X6_place S) < 0 ∨ 60 ≤ (g_X6_place S).toNatClampNeg then none else (if y2 < ((((10 : Int32) * y3) + ((g_X6_text S) (g_X6_place S).toNatClampNeg)) - (48 : Int32)) then (some (y3, S)) else (if (g_X6_place S) < 0 ∨ 60 ≤ (g_X6_place S).toNatClampNeg then none else (nmL ((((10 : Int32) * y3) + ((g_X6_text S) (g_X6_place S).toNatClampNeg)) - (48 : Int32)) fun x3_12 => ((m_X6_number_L14 n) y2 x3_12 (s_X6_place S ((g_X6_place S) + (1 : Int32))))))))))
def m_X6_number (S : S_X6) (x1 : Int32) (x2 : Int32) : Option (Int32 × S_X6) := (m_X6_sign S ((48 : Int32) + x1) (57 : Int32)).bind fun v1 => (nmL (v1.1 - (48 : Int32)) fun x3_3 => (m_X6_number_L14 4000 x2 x3_3 v1.2))
set_option maxHeartbeats 4000000 in
set_option maxRecDepth 100000 in
theorem c_X6_number (l : Launch) (dC : Nat → ClassId) (dI : Nat → Nat → Nat) (cI cF : ClassId) (a : Nat → Nat) (S : S_X6) (x1 : Int32) (x2 : Int32) (u : Int32 × S_X6) (h : m_X6_number S x1 x2 = some u) : cRW l (dC, dI) cI cF yX6_number wsX6_number ({ frames := 2, cells := 0, slots := 0, locals := 45 } : Room) [.ref (a 0), .int x1, .int x2] (wX6 a cI cF S) (wX6 a cI cF u.2) (some (.int u.1)) := by
  intro sz
  refine Met.ofW (cc := cX6_number) (maxL := 4) (ret := (some .int)) (by decide) rfl ?_
  intro p e s m args below meth c s₁ B hml hv
  obtain ⟨hargs, hsz, hP, hK, hD0⟩ := hv
  subst hargs
  have hx := B.exec
  have hb := B.bytes
  have hr := B.returns
  have hts := atoms_spec (ws := wsX6_number) B.pre
  have hown : s.vm.findClass RX6 = some m.cls := findClass_of_methodNamed B.named
  have hlocks := B.notSynchronized
  have w22 := hts (.fieldLink RX6 22 "DrawnSliversModel" "text" "[I") (List.mem_of_getElem? (i := 1) rfl)
  have w72 := hts (.fieldLink RX6 72 "DrawnSliversModel" "place" "I") (List.mem_of_getElem? (i := 2) rfl)
  have w82 := hts (.methodLink RX6 82 yX6_sign) (List.mem_of_getElem? (i := 3) rfl)
  have w85 := hts (.methodLink RX6 85 yX6_isNext) (List.mem_of_getElem? (i := 13) rfl)
  have huX6 : ∀ w ∈ u_ws RX6 TX6 11, w.before _ s = true := fun w h => hts w (List.mem_cons_of_mem _ (List.mem_append_right _ (h)))
  subst hsz
  have hD := hD0.self (sz := s.heap.size)
  generalize hAe : va_A (wX6 a cI cF S) s.heap.size = A at hD ⊢
  have hA : ∀ q : Nat, s.heap.size ≤ q → A q := fun q h => by rw [← hAe]; exact Or.inr h
  have hS : va_S A s.heap s.heap [] := va_S.rf
  have L14 : ∀ (n : Nat), ∀ (y2 : Int32) (y3 : Int32) (S : S_X6), m_X6_number_L14 n y2 y3 S = some u → ∀ (H : Heap) (locs : List Loc), va_P (dC, dI) vwCl (wX6 a cI cF S) H → va_D A (wX6 a cI cF S) → va_S A s.heap H locs → ∀ (ls : Array Slot), lv_has ls 4 [(0, .ref (a 0)), (2, .int y2), (3, .int y3)] → W p l e (headSpec wsX6_number ({ frames := 2, cells := 0, slots := 0, locals := 45 } : Room)).room s m ([.ref (a 0), .int x1, .int x2] : List Value).toArray below meth c H locs 0 0 (MQ below (qRW (dC, dI) (wX6 a cI cF u.2) (some (.int u.1)) A) ([.ref (a 0), .int x1, .int x2] : List Value).toArray s 0 0 A) (F0 m 14 ls []) := by
    intro  n
    induction n with
    | zero =>
      intro y2 y3 S h
      exact (o_0 h).elim
    | succ n ih14 =>
      intro y2 y3 S h H locs hP hD hS ls hl
      rw [m_X6_number_L14] at h
      refine lv_iload_n hx hb dX6_number_14 rfl (lv_at hl 2 rfl) ?_
      refine lv_if_le (tgt := 81) hx hb dX6_number_15 (by decide) (fun c5 => ?_) (fun c5 => ?_)
      · have h := o_t h c5
        refine lv_iload_n hx hb dX6_number_81 rfl (lv_at hl 2 rfl) ?_
        have hu := Option.some.inj h
        exact W.iret (v := y3) hx hb hr (fun t ht hW => ⟨⟨congrArg (fun z => Outcome.returned (some (Value.int z.1))) hu, by rw [ht, ← hu]; exact hP⟩, hS.F ht⟩) hS.2.2 dX6_number_82
      have h := o_f h c5
      refine lv_aload_n hx hb dX6_number_18 rfl (lv_at hl 0 rfl) ?_
      refine lv_bipush (v := (48 : Int32)) hx hb dX6_number_19 (by decide) ?_
      refine lv_bipush (v := (57 : Int32)) hx hb dX6_number_21 (by decide) ?_
      obtain ⟨v6, g7, h⟩ := o_b h
      refine k_ro (va_runV (As := [.int (48 : Int32), .int (57 : Int32)]) (rest := []) ⟨hx, hb, hml, hown, hts⟩ (c_X6_isNext l dC dI cI cF a S (48 : Int32) (57 : Int32) v6 g7) (cwV 2 hts gX6_number_X6_isNext rfl rfl rfl (by decide +kernel) ⟨Nat.le_of_ble_eq_true rfl, Nat.le_of_ble_eq_true rfl⟩) (k_preV (q0 := 0) (ci := 6) hK (hP.sub (ws' := wX6 a cI cF S) [0, 1, 2, 3, 4, 5] rfl) rfl rfl rfl) rfl rfl hl.1 rfl (lv_room (Nat.le_of_ble_eq_true rfl)) dX6_number_23 ⟨Nat.zero_le _, Nat.zero_le _⟩) (st1 := [.int v6]) rfl ?_
      refine lv_if_eq (tgt := 81) hx hb dX6_number_26 (by decide) (fun c8 => ?_) (fun c8 => ?_)
      · have h := o_t h c8
        refine lv_iload_n hx hb dX6_number_81 rfl (lv_at hl 2 rfl) ?_
        have hu := Option.some.inj h
        exact W.iret (v := y3) hx hb hr (fun t ht hW => ⟨⟨congrArg (fun z => Outcome.returned (some (Value.int z.1))) hu, by rw [ht, ← hu]; exact hP⟩, hS.F ht⟩) hS.2.2 dX6_number_82
      have h := o_f h c8
      refine lv_bipush (v := (10 : Int32)) hx hb dX6_number_29 (by decide) ?_
      refine lv_iload_n hx hb dX6_number_31 rfl (lv_at hl 2 rfl) ?_
      refine lv_imul hx hb dX6_number_32 ?_
      refine lv_aload_n hx hb dX6_number_33 rfl (lv_at hl 0 rfl) ?_
      refine va_get (D := (dC, dI)) (ci := 6) (v := .ref (a 5)) (C := RX6) (T := TX6) (N := 11) hx hb huX6 (fun _ h9 => h9) hown hK hP 0 rfl rfl 6 (by decide) w22 (fun _ h9 => h9) rfl dX6_number_34 ?_
      refine lv_aload_n hx hb dX6_number_37 rfl (lv_at hl 0 rfl) ?_
      refine va_get (D := (dC, dI)) (ci := 6) (v := .int (g_X6_place S)) (C := RX6) (T := TX6) (N := 11) hx hb huX6 (fun _ h9 => h9) hown hK hP 0 rfl rfl 9 (by decide) w72 (fun _ h9 => h9) rfl dX6_number_38 ?_
      obtain ⟨i9, h⟩ := o_in h
      refine va_iald hx hb hK hP 5 0 rfl rfl i9 dX6_number_41 ?_
      refine lv_iadd hx hb dX6_number_42 ?_
      refine lv_bipush (v := (48 : Int32)) hx hb dX6_number_43 (by decide) ?_
      refine lv_isub hx hb dX6_number_45 ?_
      refine lv_iload_n hx hb dX6_number_46 rfl (lv_at hl 1 rfl) ?_
      refine lv_icmp_gt (tgt := 81) hx hb dX6_number_47 (by decide) (fun c10 => ?_) (fun c10 => ?_)
      · have h := o_t h c10
        refine lv_iload_n hx hb dX6_number_81 rfl (lv_at hl 2 rfl) ?_
        have hu := Option.some.inj h
        exact W.iret (v := y3) hx hb hr (fun t ht hW => ⟨⟨congrArg (fun z => Outcome.returned (some (Value.int z.1))) hu, by rw [ht, ← hu]; exact hP⟩, hS.F ht⟩) hS.2.2 dX6_number_82
      have h := o_f h c10
      refine lv_bipush (v := (10 : Int32)) hx hb dX6_number_50 (by decide) ?_
      refine lv_iload_n hx hb dX6_number_52 rfl (lv_at hl 2 rfl) ?_
      refine lv_imul hx hb dX6_number_53 ?_
      refine lv_aload_n hx hb dX6_number_54 rfl (lv_at hl 0 rfl) ?_
      refine va_get (D := (dC, dI)) (ci := 6) (v := .ref (a 5)) (C := RX6) (T := TX6) (N := 11) hx hb huX6 (fun _ h9 => h9) hown hK hP 0 rfl rfl 6 (by decide) w22 (fun _ h9 => h9) rfl dX6_number_55 ?_
      refine lv_aload_n hx hb dX6_number_58 rfl (lv_at hl 0 rfl) ?_
      refine va_get (D := (dC, dI)) (ci := 6) (v := .int (g_X6_place S)) (C := RX6) (T := TX6) (N := 11) hx hb huX6 (fun _ h9 => h9) hown hK hP 0 rfl rfl 9 (by decide) w72 (fun _ h9 => h9) rfl dX6_number_59 ?_
      obtain ⟨i11, h⟩ := o_in h
      refine va_iald hx hb hK hP 5 0 rfl rfl i11 dX6_number_62 ?_
      refine lv_iadd hx hb dX6_number_63 ?_
      refine lv_bipush (v := (48 : Int32)) hx hb dX6_number_64 (by decide) ?_
      refine lv_isub hx hb dX6_number_66 ?_
      obtain ⟨x3_12, e13, h⟩ := o_n h
      refine lv_nmi e13 ?_
      refine lv_istore_n (lv' := [(3, .int x3_12), (0, .ref (a 0)), (2, .int y2)]) hx hb dX6_number_67 rfl hl (by decide) rfl (fun ls hl => ?_)
      refine lv_aload_n hx hb dX6_number_68 rfl (lv_at hl 1 rfl) ?_
      refine lv_dup hx hb dX6_number_69 rfl ?_
      refine va_get (D := (dC, dI)) (ci := 6) (v := .int (g_X6_place S)) (C := RX6) (T := TX6) (N := 11) hx hb huX6 (fun _ h9 => h9) hown hK hP 0 rfl rfl 9 (by decide) w72 (fun _ h9 => h9) rfl dX6_number_70 ?_
      refine lv_iconst (v := (1 : Int32)) hx hb dX6_number_73 (by decide) ?_
      refine lv_iadd hx hb dX6_number_74 ?_
      refine va_put (D := (dC, dI)) (ci := 6) (v := .int ((g_X6_place S) + (1 : Int32))) (ty := .int) (C := RX6) (T := TX6) (N := 11) hx hb huX6 (fun _ h9 => h9) tyX6 tyX6_ok nmX6 hown hK hP hD hS 0 rfl rfl 9 (by decide) w72 (fun _ h9 => h9) rfl (by decide +kernel) rfl rfl (Nat.le_of_ble_eq_true rfl) dX6_number_75 (fun H locs hP hD hS => ?_)
      have hP : va_P (dC, dI) vwCl (wX6 a cI cF (s_X6_place S ((g_X6_place S) + (1 : Int32)))) H := hP
      have hD : va_D A (wX6 a cI cF (s_X6_place S ((g_X6_place S) + (1 : Int32)))) := hD
      refine lv_goto (tgt := 14) hx hb dX6_number_78 (by decide) ?_
      exact ih14 _ _ _ h _ _ hP hD hS _ (lv_sub hl [1, 2, 0] rfl)
  have hl := lv_entry ([.ref (a 0), .int x1, .int x2]) (n := 4) (Nat.le_of_ble_eq_true rfl)
  rw [lg_entry_eq]
  generalize (lg_sl ([.ref (a 0), .int x1, .int x2]) ++ List.replicate (4 - (lg_sl ([.ref (a 0), .int x1, .int x2])).length) Slot.unset).toArray = ls at hl ⊢
  have hl : lv_has ls 4 [(0, .ref (a 0)), (1, .int x1), (2, .int x2)] := hl
  rw [m_X6_number] at h
  refine lv_aload_n hx hb dX6_number_0 rfl (lv_at hl 0 rfl) ?_
  refine lv_bipush (v := (48 : Int32)) hx hb dX6_number_1 (by decide) ?_
  refine lv_iload_n hx hb dX6_number_3 rfl (lv_at hl 1 rfl) ?_
  refine lv_iadd hx hb dX6_number_4 ?_
  refine lv_bipush (v := (57 : Int32)) hx hb dX6_number_5 (by decide) ?_
  obtain ⟨v1, g2, h⟩ := o_b h
  refine k_rw (va_runV (As := [.int ((48 : Int32) + x1), .int (57 : Int32)]) (rest := []) ⟨hx, hb, hml, hown, hts⟩ (c_X6_sign l dC dI cI cF a S ((48 : Int32) + x1) (57 : Int32) v1 g2 s.heap.size) (cwV 2 hts gX6_number_X6_sign rfl rfl rfl (by decide +kernel) ⟨Nat.le_of_ble_eq_true rfl, Nat.le_of_ble_eq_true rfl⟩) (k_preVw (q0 := 0) (ci := 6) hK hP hD [0, 1, 2, 3, 4, 5] rfl rfl rfl rfl rfl) rfl rfl hl.1 rfl (lv_room (Nat.le_of_ble_eq_true rfl)) dX6_number_7 ⟨Nat.zero_le _, Nat.zero_le _⟩) (st1 := [.int v1.1]) rfl hP hD hS hA [0, 1, 2, 3, 4, 5] rfl rfl (wn := wX6 a cI cF v1.2) rfl rfl rfl (fun H locs hP hD hS => ?_)
  refine lv_bipush (v := (48 : Int32)) hx hb dX6_number_10 (by decide) ?_
  refine lv_isub hx hb dX6_number_12 ?_
  obtain ⟨x3_3, e4, h⟩ := o_n h
  refine lv_nmi e4 ?_
  refine lv_istore_n (lv' := [(3, .int x3_3), (0, .ref (a 0)), (1, .int x1), (2, .int x2)]) hx hb dX6_number_13 rfl hl (by decide) rfl (fun ls hl => ?_)
  exact L14 _ _ _ _ h _ _ hP hD hS _ (lv_sub hl [1, 3, 0] rfl)

def m_X6_times (S : S_X6) : Option (Int32 × S_X6) := (m_X6_sign S (49 : Int32) (57 : Int32)).bind fun v1 => (nmL (v1.1 - (48 : Int32)) fun x1_3 => (if x1_3 = (1 : Int32) then ((m_X6_sign v1.2 (48 : Int32) (57 : Int32)).bind fun v14 => (nmL (((10 : Int32) + v14.1) - (48 : Int32)) fun x1_16 => (some (x1_16, v14.2)))) else ((m_X6_isNext v1.2 (48 : Int32) (57 : Int32)).bind fun v6 => (if v6 = 0 then (some (x1_3, v1.2)) else (if (g_X6_place v1.2) < 0 ∨ 60 ≤ (g_X6_place v1.2).toNatClampNeg then none else (if (40 : Int32) < ((((10 : Int32) * x1_3) + ((g_X6_text v1.2) (g_X6_place v1.2).toNatClampNeg)) - (48 : Int32)) then (some (x1_3, v1.2)) else (if (g_X6_place v1.2) < 0 ∨ 60 ≤ (g_X6_place v1.2).toNatClampNeg then none else (nmL ((((10 : Int32) * x1_3) + ((g_X6_text v1.2) (g_X6_place v1.2).toNatClampNeg)) - (48 : Int32)) fun x1_12 => (some (x1_12, s_X6_place v1.2 ((g_X6_place v1.2) + (1 : Int32))))))))))))
set_option maxHeartbeats 4000000 in
set_option maxRecDepth 100000 in
theorem c_X6_times (l : Launch) (dC : Nat → ClassId) (dI : Nat → Nat → Nat) (cI cF : ClassId) (a : Nat → Nat) (S : S_X6) (u : Int32 × S_X6) (h : m_X6_times S = some u) : cRW l (dC, dI) cI cF yX6_times wsX6_times ({ frames := 2, cells := 0, slots := 0, locals := 45 } : Room) [.ref (a 0)] (wX6 a cI cF S) (wX6 a cI cF u.2) (some (.int u.1)) := by
  intro sz
  refine Met.ofW (cc := cX6_times) (maxL := 2) (ret := (some .int)) (by decide) rfl ?_
  intro p e s m args below meth c s₁ B hml hv
  obtain ⟨hargs, hsz, hP, hK, hD0⟩ := hv
  subst hargs
  have hx := B.exec
  have hb := B.bytes
  have hr := B.returns
  have hts := atoms_spec (ws := wsX6_times) B.pre
  have hown : s.vm.findClass RX6 = some m.cls := findClass_of_methodNamed B.named
  have hlocks := B.notSynchronized
  have w22 := hts (.fieldLink RX6 22 "DrawnSliversModel" "text" "[I") (List.mem_of_getElem? (i := 1) rfl)
  have w72 := hts (.fieldLink RX6 72 "DrawnSliversModel" "place" "I") (List.mem_of_getElem? (i := 2) rfl)
  have w82 := hts (.methodLink RX6 82 yX6_sign) (List.mem_of_getElem? (i := 3) rfl)
  have w85 := hts (.methodLink RX6 85 yX6_isNext) (List.mem_of_getElem? (i := 13) rfl)
  have huX6 : ∀ w ∈ u_ws RX6 TX6 11, w.before _ s = true := fun w h => hts w (List.mem_cons_of_mem _ (List.mem_append_right _ (h)))
  subst hsz
  have hD := hD0.self (sz := s.heap.size)
  generalize hAe : va_A (wX6 a cI cF S) s.heap.size = A at hD ⊢
  have hA : ∀ q : Nat, s.heap.size ≤ q → A q := fun q h => by rw [← hAe]; exact Or.inr h
  have hS : va_S A s.heap s.heap [] := va_S.rf
  have hl := lv_entry ([.ref (a 0)]) (n := 2) (Nat.le_of_ble_eq_true rfl)
  rw [lg_entry_eq]
  generalize (lg_sl ([.ref (a 0)]) ++ List.replicate (2 - (lg_sl ([.ref (a 0)])).length) Slot.unset).toArray = ls at hl ⊢
  have hl : lv_has ls 2 [(0, .ref (a 0))] := hl
  rw [m_X6_times] at h
  refine lv_aload_n hx hb dX6_times_0 rfl (lv_at hl 0 rfl) ?_
  refine lv_bipush (v := (49 : Int32)) hx hb dX6_times_1 (by decide) ?_
  refine lv_bipush (v := (57 : Int32)) hx hb dX6_times_3 (by decide) ?_
  obtain ⟨v1, g2, h⟩ := o_b h
  refine k_rw (va_runV (As := [.int (49 : Int32), .int (57 : Int32)]) (rest := []) ⟨hx, hb, hml, hown, hts⟩ (c_X6_sign l dC dI cI cF a S (49 : Int32) (57 : Int32) v1 g2 s.heap.size) (cwV 2 hts gX6_times_X6_sign rfl rfl rfl (by decide +kernel) ⟨Nat.le_of_ble_eq_true rfl, Nat.le_of_ble_eq_true rfl⟩) (k_preVw (q0 := 0) (ci := 6) hK hP hD [0, 1, 2, 3, 4, 5] rfl rfl rfl rfl rfl) rfl rfl hl.1 rfl (lv_room (Nat.le_of_ble_eq_true rfl)) dX6_times_5 ⟨Nat.zero_le _, Nat.zero_le _⟩) (st1 := [.int v1.1]) rfl hP hD hS hA [0, 1, 2, 3, 4, 5] rfl rfl (wn := wX6 a cI cF v1.2) rfl rfl rfl (fun H locs hP hD hS => ?_)
  refine lv_bipush (v := (48 : Int32)) hx hb dX6_times_8 (by decide) ?_
  refine lv_isub hx hb dX6_times_10 ?_
  obtain ⟨x1_3, e4, h⟩ := o_n h
  refine lv_nmi e4 ?_
  refine lv_istore_n (lv' := [(1, .int x1_3), (0, .ref (a 0))]) hx hb dX6_times_11 rfl hl (by decide) rfl (fun ls hl => ?_)
  refine lv_iload_n hx hb dX6_times_12 rfl (lv_at hl 0 rfl) ?_
  refine lv_iconst (v := (1 : Int32)) hx hb dX6_times_13 (by decide) ?_
  refine lv_icmp_ne (tgt := 35) hx hb dX6_times_14 (by decide) (fun c5 => ?_) (fun c5 => ?_)
  rotate_left
  · have h := o_t h c5
    refine lv_bipush (v := (10 : Int32)) hx hb dX6_times_17 (by decide) ?_
    refine lv_aload_n hx hb dX6_times_19 rfl (lv_at hl 1 rfl) ?_
    refine lv_bipush (v := (48 : Int32)) hx hb dX6_times_20 (by decide) ?_
    refine lv_bipush (v := (57 : Int32)) hx hb dX6_times_22 (by decide) ?_
    obtain ⟨v14, g15, h⟩ := o_b h
    refine k_rw (va_runV (As := [.int (48 : Int32), .int (57 : Int32)]) (rest := [.int (10 : Int32)]) ⟨hx, hb, hml, hown, hts⟩ (c_X6_sign l dC dI cI cF a v1.2 (48 : Int32) (57 : Int32) v14 g15 H.size) (cwV 2 hts gX6_times_X6_sign rfl rfl rfl (by decide +kernel) ⟨Nat.le_of_ble_eq_true rfl, Nat.le_of_ble_eq_true rfl⟩) (k_preVw (q0 := 0) (ci := 6) hK hP hD [0, 1, 2, 3, 4, 5] rfl rfl rfl rfl rfl) rfl rfl hl.1 rfl (lv_room (Nat.le_of_ble_eq_true rfl)) dX6_times_24 ⟨Nat.zero_le _, Nat.zero_le _⟩) (st1 := [.int v14.1, .int (10 : Int32)]) rfl hP hD hS hA [0, 1, 2, 3, 4, 5] rfl rfl (wn := wX6 a cI cF v14.2) rfl rfl rfl (fun H locs hP hD hS => ?_)
    refine lv_iadd hx hb dX6_times_27 ?_
    refine lv_bipush (v := (48 : Int32)) hx hb dX6_times_28 (by decide) ?_
    refine lv_isub hx hb dX6_times_30 ?_
    obtain ⟨x1_16, e17, h⟩ := o_n h
    refine lv_nmi e17 ?_
    refine lv_istore_n (lv' := [(1, .int x1_16), (0, .ref (a 0))]) hx hb dX6_times_31 rfl hl (by decide) rfl (fun ls hl => ?_)
    refine lv_goto (tgt := 96) hx hb dX6_times_32 (by decide) ?_
    refine lv_iload_n hx hb dX6_times_96 rfl (lv_at hl 0 rfl) ?_
    have hu := Option.some.inj h
    exact W.iret (v := x1_16) hx hb hr (fun t ht hW => ⟨⟨congrArg (fun z => Outcome.returned (some (Value.int z.1))) hu, by rw [ht, ← hu]; exact hP⟩, hS.F ht⟩) hS.2.2 dX6_times_97
  have h := o_f h c5
  refine lv_aload_n hx hb dX6_times_35 rfl (lv_at hl 1 rfl) ?_
  refine lv_bipush (v := (48 : Int32)) hx hb dX6_times_36 (by decide) ?_
  refine lv_bipush (v := (57 : Int32)) hx hb dX6_times_38 (by decide) ?_
  obtain ⟨v6, g7, h⟩ := o_b h
  refine k_ro (va_runV (As := [.int (48 : Int32), .int (57 : Int32)]) (rest := []) ⟨hx, hb, hml, hown, hts⟩ (c_X6_isNext l dC dI cI cF a v1.2 (48 : Int32) (57 : Int32) v6 g7) (cwV 2 hts gX6_times_X6_isNext rfl rfl rfl (by decide +kernel) ⟨Nat.le_of_ble_eq_true rfl, Nat.le_of_ble_eq_true rfl⟩) (k_preV (q0 := 0) (ci := 6) hK (hP.sub (ws' := wX6 a cI cF v1.2) [0, 1, 2, 3, 4, 5] rfl) rfl rfl rfl) rfl rfl hl.1 rfl (lv_room (Nat.le_of_ble_eq_true rfl)) dX6_times_40 ⟨Nat.zero_le _, Nat.zero_le _⟩) (st1 := [.int v6]) rfl ?_
  refine lv_if_eq (tgt := 96) hx hb dX6_times_43 (by decide) (fun c8 => ?_) (fun c8 => ?_)
  · have h := o_t h c8
    refine lv_iload_n hx hb dX6_times_96 rfl (lv_at hl 0 rfl) ?_
    have hu := Option.some.inj h
    exact W.iret (v := x1_3) hx hb hr (fun t ht hW => ⟨⟨congrArg (fun z => Outcome.returned (some (Value.int z.1))) hu, by rw [ht, ← hu]; exact hP⟩, hS.F ht⟩) hS.2.2 dX6_times_97
  have h := o_f h c8
  refine lv_bipush (v := (10 : Int32)) hx hb dX6_times_46 (by decide) ?_
  refine lv_iload_n hx hb dX6_times_48 rfl (lv_at hl 0 rfl) ?_
  refine lv_imul hx hb dX6_times_49 ?_
  refine lv_aload_n hx hb dX6_times_50 rfl (lv_at hl 1 rfl) ?_
  refine va_get (D := (dC, dI)) (ci := 6) (v := .ref (a 5)) (C := RX6) (T := TX6) (N := 11) hx hb huX6 (fun _ h9 => h9) hown hK hP 0 rfl rfl 6 (by decide) w22 (fun _ h9 => h9) rfl dX6_times_51 ?_
  refine lv_aload_n hx hb dX6_times_54 rfl (lv_at hl 1 rfl) ?_
  refine va_get (D := (dC, dI)) (ci := 6) (v := .int (g_X6_place v1.2)) (C := RX6) (T := TX6) (N := 11) hx hb huX6 (fun _ h9 => h9) hown hK hP 0 rfl rfl 9 (by decide) w72 (fun _ h9 => h9) rfl dX6_times_55 ?_
  obtain ⟨i9, h⟩ := o_in h
  refine va_iald hx hb hK hP 5 0 rfl rfl i9 dX6_times_58 ?_
  refine lv_iadd hx hb dX6_times_59 ?_
  refine lv_bipush (v := (48 : Int32)) hx hb dX6_times_60 (by decide) ?_
  refine lv_isub hx hb dX6_times_62 ?_
  refine lv_bipush (v := (40 : Int32)) hx hb dX6_times_63 (by decide) ?_
  refine lv_icmp_gt (tgt := 96) hx hb dX6_times_65 (by decide) (fun c10 => ?_) (fun c10 => ?_)
  · have h := o_t h c10
    refine lv_iload_n hx hb dX6_times_96 rfl (lv_at hl 0 rfl) ?_
    have hu := Option.some.inj h
    exact W.iret (v := x1_3) hx hb hr (fun t ht hW => ⟨⟨congrArg (fun z => Outcome.returned (some (Value.int z.1))) hu, by rw [ht, ← hu]; exact hP⟩, hS.F ht⟩) hS.2.2 dX6_times_97
  have h := o_f h c10
  refine lv_bipush (v := (10 : Int32)) hx hb dX6_times_68 (by decide) ?_
  refine lv_iload_n hx hb dX6_times_70 rfl (lv_at hl 0 rfl) ?_
  refine lv_imul hx hb dX6_times_71 ?_
  refine lv_aload_n hx hb dX6_times_72 rfl (lv_at hl 1 rfl) ?_
  refine va_get (D := (dC, dI)) (ci := 6) (v := .ref (a 5)) (C := RX6) (T := TX6) (N := 11) hx hb huX6 (fun _ h9 => h9) hown hK hP 0 rfl rfl 6 (by decide) w22 (fun _ h9 => h9) rfl dX6_times_73 ?_
  refine lv_aload_n hx hb dX6_times_76 rfl (lv_at hl 1 rfl) ?_
  refine va_get (D := (dC, dI)) (ci := 6) (v := .int (g_X6_place v1.2)) (C := RX6) (T := TX6) (N := 11) hx hb huX6 (fun _ h9 => h9) hown hK hP 0 rfl rfl 9 (by decide) w72 (fun _ h9 => h9) rfl dX6_times_77 ?_
  obtain ⟨i11, h⟩ := o_in h
  refine va_iald hx hb hK hP 5 0 rfl rfl i11 dX6_times_80 ?_
  refine lv_iadd hx hb dX6_times_81 ?_
  refine lv_bipush (v := (48 : Int32)) hx hb dX6_times_82 (by decide) ?_
  refine lv_isub hx hb dX6_times_84 ?_
  obtain ⟨x1_12, e13, h⟩ := o_n h
  refine lv_nmi e13 ?_
  refine lv_istore_n (lv' := [(1, .int x1_12), (0, .ref (a 0))]) hx hb dX6_times_85 rfl hl (by decide) rfl (fun ls hl => ?_)
  refine lv_aload_n hx hb dX6_times_86 rfl (lv_at hl 1 rfl) ?_
  refine lv_dup hx hb dX6_times_87 rfl ?_
  refine va_get (D := (dC, dI)) (ci := 6) (v := .int (g_X6_place v1.2)) (C := RX6) (T := TX6) (N := 11) hx hb huX6 (fun _ h9 => h9) hown hK hP 0 rfl rfl 9 (by decide) w72 (fun _ h9 => h9) rfl dX6_times_88 ?_
  refine lv_iconst (v := (1 : Int32)) hx hb dX6_times_91 (by decide) ?_
  refine lv_iadd hx hb dX6_times_92 ?_
  refine va_put (D := (dC, dI)) (ci := 6) (v := .int ((g_X6_place v1.2) + (1 : Int32))) (ty := .int) (C := RX6) (T := TX6) (N := 11) hx hb huX6 (fun _ h9 => h9) tyX6 tyX6_ok nmX6 hown hK hP hD hS 0 rfl rfl 9 (by decide) w72 (fun _ h9 => h9) rfl (by decide +kernel) rfl rfl (Nat.le_of_ble_eq_true rfl) dX6_times_93 (fun H locs hP hD hS => ?_)
  have hP : va_P (dC, dI) vwCl (wX6 a cI cF (s_X6_place v1.2 ((g_X6_place v1.2) + (1 : Int32)))) H := hP
  have hD : va_D A (wX6 a cI cF (s_X6_place v1.2 ((g_X6_place v1.2) + (1 : Int32)))) := hD
  refine lv_iload_n hx hb dX6_times_96 rfl (lv_at hl 0 rfl) ?_
  have hu := Option.some.inj h
  exact W.iret (v := x1_12) hx hb hr (fun t ht hW => ⟨⟨congrArg (fun z => Outcome.returned (some (Value.int z.1))) hu, by rw [ht, ← hu]; exact hP⟩, hS.F ht⟩) hS.2.2 dX6_times_97

def m_X6_go_L126 (k14 : Int32 → Int32 → Int32 → S_X6 → Option (Int32 × S_X6)) (y1 : Int32) (y2 : Int32) (t0 : Int32) (S : S_X6) : Option (Int32 × S_X6) := if t0 = 0 then (k14 y1 y2 t0 S) else ((m_X6_sign S (44 : Int32) (44 : Int32)).bind fun v14 => (nmL (v14.1) fun x6_16 => (if (g_X6_isWrong v14.2) = 0 then (k14 y1 y2 (1 : Int32) v14.2) else (k14 y1 y2 (0 : Int32) v14.2))))
def m_X6_go_L103 (k14 : Int32 → Int32 → Int32 → S_X6 → Option (Int32 × S_X6)) (y1 : Int32) (y2 : Int32) (S : S_X6) : Option (Int32 × S_X6) := if (g_X6_isWrong S) = 0 then (if (g_X6_length S) ≤ (g_X6_place S) then (m_X6_go_L126 k14 y1 y2 (0 : Int32) S) else (m_X6_go_L126 k14 y1 y2 (1 : Int32) S)) else (m_X6_go_L126 k14 y1 y2 (0 : Int32) S)
def m_X6_go_L66 (k14 : Int32 → Int32 → Int32 → S_X6 → Option (Int32 × S_X6)) : Nat → Int32 → Int32 → Int32 → Int32 → Int32 → S_X6 → Option (Int32 × S_X6)
  | 0, _, _, _, _, _, _ => none
  | n + 1, y1, y2, y4, y5, y6, S => if y5 ≤ y6 then (m_X6_go_L103 k14 y1 y2 S) else (if y1 < 0 then (m_X6_go_L103 k14 y1 y2 S) else ((m_X6_add S y1 y4).bind fun v21 => (nmL (y6 + 1) fun x6_23 => ((m_X6_go_L66 k14 n) y1 y2 y4 y5 x6_23 (s_X6_s v21 (upd (g_X6_s v21) (348 : Int32).toNatClampNeg (((g_X6_s v21) (348 : Int32).toNatClampNeg) + y4)))))))
def m_X6_go_L14 : Nat → Int32 → Int32 → Int32 → S_X6 → Option (Int32 × S_X6)
  | 0, _, _, _, _ => none
  | n + 1, y1, y2, y3, S => if y3 = 0 then (some (y2, S)) else ((m_X6_number S (0 : Int32) (999 : Int32)).bind fun v2 => (nmL (v2.1) fun x4_4 => ((m_X6_isNext v2.2 (42 : Int32) (42 : Int32)).bind fun v6 => (if v6 = 0 then (nmL (y2 + (1 : Int32)) fun x2_9 => (m_X6_go_L66 (m_X6_go_L14 n) 4000 y1 x2_9 x4_4 (1 : Int32) (0 : Int32) v2.2)) else ((m_X6_times (s_X6_place v2.2 ((g_X6_place v2.2) + (1 : Int32)))).bind fun v25 => (nmL (v25.1) fun x5_27 => (nmL (y2 + x5_27) fun x2_29 => (m_X6_go_L66 (m_X6_go_L14 n) 4000 y1 x2_29 x4_4 x5_27 (0 : Int32) v25.2))))))))
def m_X6_go (S : S_X6) (x1 : Int32) : Option (Int32 × S_X6) := m_X6_go_L14 4000 x1 (0 : Int32) (1 : Int32) (s_X6_isWrong (s_X6_place S (0 : Int32)) (0 : Int32))
set_option maxHeartbeats 4000000 in
set_option maxRecDepth 100000 in
theorem c_X6_go (l : Launch) (dC : Nat → ClassId) (dI : Nat → Nat → Nat) (cI cF : ClassId) (a : Nat → Nat) (S : S_X6) (x1 : Int32) (u : Int32 × S_X6) (h : m_X6_go S x1 = some u) : cRW l (dC, dI) cI cF yX6_go wsX6_go ({ frames := 3, cells := 0, slots := 0, locals := 68 } : Room) [.ref (a 0), .int x1] (wX6 a cI cF S) (wX6 a cI cF u.2) (some (.int u.1)) := by
  intro sz
  refine Met.ofW (cc := cX6_go) (maxL := 7) (ret := (some .int)) (by decide) rfl ?_
  intro p e s m args below meth c s₁ B hml hv
  obtain ⟨hargs, hsz, hP, hK, hD0⟩ := hv
  subst hargs
  have hx := B.exec
  have hb := B.bytes
  have hr := B.returns
  have hts := atoms_spec (ws := wsX6_go) B.pre
  have hown : s.vm.findClass RX6 = some m.cls := findClass_of_methodNamed B.named
  have hlocks := B.notSynchronized
  have w62 := hts (.methodLink RX6 62 yX6_add) (List.mem_of_getElem? (i := 26) rfl)
  have w7 := hts (.fieldLink RX6 7 "DrawnSliversModel" "s" "[I") (List.mem_of_getElem? (i := 3) rfl)
  have w72 := hts (.fieldLink RX6 72 "DrawnSliversModel" "place" "I") (List.mem_of_getElem? (i := 1) rfl)
  have w75 := hts (.fieldLink RX6 75 "DrawnSliversModel" "length" "I") (List.mem_of_getElem? (i := 4) rfl)
  have w78 := hts (.fieldLink RX6 78 "DrawnSliversModel" "isWrong" "Z") (List.mem_of_getElem? (i := 2) rfl)
  have w82 := hts (.methodLink RX6 82 yX6_sign) (List.mem_of_getElem? (i := 11) rfl)
  have w85 := hts (.methodLink RX6 85 yX6_isNext) (List.mem_of_getElem? (i := 18) rfl)
  have w89 := hts (.methodLink RX6 89 yX6_number) (List.mem_of_getElem? (i := 5) rfl)
  have w92 := hts (.methodLink RX6 92 yX6_times) (List.mem_of_getElem? (i := 22) rfl)
  have huX6 : ∀ w ∈ u_ws RX6 TX6 11, w.before _ s = true := fun w h => hts w (List.mem_cons_of_mem _ (List.mem_append_right _ (h)))
  subst hsz
  have hD := hD0.self (sz := s.heap.size)
  generalize hAe : va_A (wX6 a cI cF S) s.heap.size = A at hD ⊢
  have hA : ∀ q : Nat, s.heap.size ≤ q → A q := fun q h => by rw [← hAe]; exact Or.inr h
  have hS : va_S A s.heap s.heap [] := va_S.rf
  have L126 : ∀ (k14 : Int32 → Int32 → Int32 → S_X6 → Option (Int32 × S_X6)) (ih14 : ∀ (y1 : Int32) (y2 : Int32) (y3 : Int32) (S : S_X6), k14 y1 y2 y3 S = some u → ∀ (H : Heap) (locs : List Loc), va_P (dC, dI) vwCl (wX6 a cI cF S) H → va_D A (wX6 a cI cF S) → va_S A s.heap H locs → ∀ (ls : Array Slot), lv_has ls 7 [(0, .ref (a 0)), (1, .int y1), (2, .int y2), (3, .int y3)] → W p l e (headSpec wsX6_go ({ frames := 3, cells := 0, slots := 0, locals := 68 } : Room)).room s m ([.ref (a 0), .int x1] : List Value).toArray below meth c H locs 0 0 (MQ below (qRW (dC, dI) (wX6 a cI cF u.2) (some (.int u.1)) A) ([.ref (a 0), .int x1] : List Value).toArray s 0 0 A) (F0 m 14 ls [])), ∀ (y1 : Int32) (y2 : Int32) (t0 : Int32) (S : S_X6), m_X6_go_L126 k14 y1 y2 t0 S = some u → ∀ (H : Heap) (locs : List Loc), va_P (dC, dI) vwCl (wX6 a cI cF S) H → va_D A (wX6 a cI cF S) → va_S A s.heap H locs → ∀ (ls : Array Slot), lv_has ls 7 [(0, .ref (a 0)), (1, .int y1), (2, .int y2)] → W p l e (headSpec wsX6_go ({ frames := 3, cells := 0, slots := 0, locals := 68 } : Room)).room s m ([.ref (a 0), .int x1] : List Value).toArray below meth c H locs 0 0 (MQ below (qRW (dC, dI) (wX6 a cI cF u.2) (some (.int u.1)) A) ([.ref (a 0), .int x1] : List Value).toArray s 0 0 A) (F0 m 126 ls [.int t0]) := by
    intro k14 ih14 y1 y2 t0 S h H locs hP hD hS ls hl
    rw [m_X6_go_L126] at h
    refine lv_istore_n (lv' := [(3, .int t0), (0, .ref (a 0)), (1, .int y1), (2, .int y2)]) hx hb dX6_go_126 rfl hl (by decide) rfl (fun ls hl => ?_)
    refine lv_iload_n hx hb dX6_go_127 rfl (lv_at hl 0 rfl) ?_
    refine lv_if_eq (tgt := 154) hx hb dX6_go_128 (by decide) (fun c13 => ?_) (fun c13 => ?_)
    · have h := o_t h c13
      refine lv_goto (tgt := 14) hx hb dX6_go_154 (by decide) ?_
      exact ih14 _ _ _ _ h _ _ hP hD hS _ (lv_sub hl [1, 2, 3, 0] rfl)
    have h := o_f h c13
    refine lv_aload_n hx hb dX6_go_131 rfl (lv_at hl 1 rfl) ?_
    refine lv_bipush (v := (44 : Int32)) hx hb dX6_go_132 (by decide) ?_
    refine lv_bipush (v := (44 : Int32)) hx hb dX6_go_134 (by decide) ?_
    obtain ⟨v14, g15, h⟩ := o_b h
    refine k_rw (va_runV (As := [.int (44 : Int32), .int (44 : Int32)]) (rest := []) ⟨hx, hb, hml, hown, hts⟩ (c_X6_sign l dC dI cI cF a S (44 : Int32) (44 : Int32) v14 g15 H.size) (cwV 2 hts gX6_go_X6_sign rfl rfl rfl (by decide +kernel) ⟨Nat.le_of_ble_eq_true rfl, Nat.le_of_ble_eq_true rfl⟩) (k_preVw (q0 := 0) (ci := 6) hK hP hD [0, 1, 2, 3, 4, 5] rfl rfl rfl rfl rfl) rfl rfl hl.1 rfl (lv_room (Nat.le_of_ble_eq_true rfl)) dX6_go_136 ⟨Nat.zero_le _, Nat.zero_le _⟩) (st1 := [.int v14.1]) rfl hP hD hS hA [0, 1, 2, 3, 4, 5] rfl rfl (wn := wX6 a cI cF v14.2) rfl rfl rfl (fun H locs hP hD hS => ?_)
    obtain ⟨x6_16, e17, h⟩ := o_n h
    refine lv_nmi e17 ?_
    refine lv_istore (lv' := [(6, .int x6_16), (3, .int t0), (0, .ref (a 0)), (1, .int y1), (2, .int y2)]) hx hb dX6_go_139 hl (by decide) rfl (fun ls hl => ?_)
    refine lv_aload_n hx hb dX6_go_141 rfl (lv_at hl 2 rfl) ?_
    refine va_get (D := (dC, dI)) (ci := 6) (v := .int (g_X6_isWrong v14.2)) (C := RX6) (T := TX6) (N := 11) hx hb huX6 (fun _ h9 => h9) hown hK hP 0 rfl rfl 10 (by decide) w78 (fun _ h9 => h9) rfl dX6_go_142 ?_
    refine lv_if_ne (tgt := 152) hx hb dX6_go_145 (by decide) (fun c18 => ?_) (fun c18 => ?_)
    · have h := o_f h c18
      refine lv_iconst (v := (0 : Int32)) hx hb dX6_go_152 (by decide) ?_
      refine lv_istore_n (lv' := [(3, .int (0 : Int32)), (6, .int x6_16), (0, .ref (a 0)), (1, .int y1), (2, .int y2)]) hx hb dX6_go_153 rfl hl (by decide) rfl (fun ls hl => ?_)
      refine lv_goto (tgt := 14) hx hb dX6_go_154 (by decide) ?_
      exact ih14 _ _ _ _ h _ _ hP hD hS _ (lv_sub hl [2, 3, 4, 0] rfl)
    have h := o_t h c18
    refine lv_iconst (v := (1 : Int32)) hx hb dX6_go_148 (by decide) ?_
    refine lv_goto (tgt := 153) hx hb dX6_go_149 (by decide) ?_
    refine lv_istore_n (lv' := [(3, .int (1 : Int32)), (6, .int x6_16), (0, .ref (a 0)), (1, .int y1), (2, .int y2)]) hx hb dX6_go_153 rfl hl (by decide) rfl (fun ls hl => ?_)
    refine lv_goto (tgt := 14) hx hb dX6_go_154 (by decide) ?_
    exact ih14 _ _ _ _ h _ _ hP hD hS _ (lv_sub hl [2, 3, 4, 0] rfl)
  have L103 : ∀ (k14 : Int32 → Int32 → Int32 → S_X6 → Option (Int32 × S_X6)) (ih14 : ∀ (y1 : Int32) (y2 : Int32) (y3 : Int32) (S : S_X6), k14 y1 y2 y3 S = some u → ∀ (H : Heap) (locs : List Loc), va_P (dC, dI) vwCl (wX6 a cI cF S) H → va_D A (wX6 a cI cF S) → va_S A s.heap H locs → ∀ (ls : Array Slot), lv_has ls 7 [(0, .ref (a 0)), (1, .int y1), (2, .int y2), (3, .int y3)] → W p l e (headSpec wsX6_go ({ frames := 3, cells := 0, slots := 0, locals := 68 } : Room)).room s m ([.ref (a 0), .int x1] : List Value).toArray below meth c H locs 0 0 (MQ below (qRW (dC, dI) (wX6 a cI cF u.2) (some (.int u.1)) A) ([.ref (a 0), .int x1] : List Value).toArray s 0 0 A) (F0 m 14 ls [])), ∀ (y1 : Int32) (y2 : Int32) (S : S_X6), m_X6_go_L103 k14 y1 y2 S = some u → ∀ (H : Heap) (locs : List Loc), va_P (dC, dI) vwCl (wX6 a cI cF S) H → va_D A (wX6 a cI cF S) → va_S A s.heap H locs → ∀ (ls : Array Slot), lv_has ls 7 [(0, .ref (a 0)), (1, .int y1), (2, .int y2)] → W p l e (headSpec wsX6_go ({ frames := 3, cells := 0, slots := 0, locals := 68 } : Room)).room s m ([.ref (a 0), .int x1] : List Value).toArray below meth c H locs 0 0 (MQ below (qRW (dC, dI) (wX6 a cI cF u.2) (some (.int u.1)) A) ([.ref (a 0), .int x1] : List Value).toArray s 0 0 A) (F0 m 103 ls []) := by
    intro k14 ih14 y1 y2 S h H locs hP hD hS ls hl
    rw [m_X6_go_L103] at h
    refine lv_aload_n hx hb dX6_go_103 rfl (lv_at hl 0 rfl) ?_
    refine va_get (D := (dC, dI)) (ci := 6) (v := .int (g_X6_isWrong S)) (C := RX6) (T := TX6) (N := 11) hx hb huX6 (fun _ h9 => h9) hown hK hP 0 rfl rfl 10 (by decide) w78 (fun _ h9 => h9) rfl dX6_go_104 ?_
    refine lv_if_ne (tgt := 125) hx hb dX6_go_107 (by decide) (fun c12 => ?_) (fun c12 => ?_)
    · have h := o_f h c12
      refine lv_iconst (v := (0 : Int32)) hx hb dX6_go_125 (by decide) ?_
      exact L126 _ ih14 _ _ _ _ h _ _ hP hD hS _ (lv_sub hl [0, 1, 2] rfl)
    have h := o_t h c12
    refine lv_aload_n hx hb dX6_go_110 rfl (lv_at hl 0 rfl) ?_
    refine va_get (D := (dC, dI)) (ci := 6) (v := .int (g_X6_place S)) (C := RX6) (T := TX6) (N := 11) hx hb huX6 (fun _ h9 => h9) hown hK hP 0 rfl rfl 9 (by decide) w72 (fun _ h9 => h9) rfl dX6_go_111 ?_
    refine lv_aload_n hx hb dX6_go_114 rfl (lv_at hl 0 rfl) ?_
    refine va_get (D := (dC, dI)) (ci := 6) (v := .int (g_X6_length S)) (C := RX6) (T := TX6) (N := 11) hx hb huX6 (fun _ h9 => h9) hown hK hP 0 rfl rfl 7 (by decide) w75 (fun _ h9 => h9) rfl dX6_go_115 ?_
    refine lv_icmp_ge (tgt := 125) hx hb dX6_go_118 (by decide) (fun c19 => ?_) (fun c19 => ?_)
    · have h := o_t h c19
      refine lv_iconst (v := (0 : Int32)) hx hb dX6_go_125 (by decide) ?_
      exact L126 _ ih14 _ _ _ _ h _ _ hP hD hS _ (lv_sub hl [0, 1, 2] rfl)
    have h := o_f h c19
    refine lv_iconst (v := (1 : Int32)) hx hb dX6_go_121 (by decide) ?_
    refine lv_goto (tgt := 126) hx hb dX6_go_122 (by decide) ?_
    exact L126 _ ih14 _ _ _ _ h _ _ hP hD hS _ (lv_sub hl [0, 1, 2] rfl)
  have L66 : ∀ (k14 : Int32 → Int32 → Int32 → S_X6 → Option (Int32 × S_X6)) (ih14 : ∀ (y1 : Int32) (y2 : Int32) (y3 : Int32) (S : S_X6), k14 y1 y2 y3 S = some u → ∀ (H : Heap) (locs : List Loc), va_P (dC, dI) vwCl (wX6 a cI cF S) H → va_D A (wX6 a cI cF S) → va_S A s.heap H locs → ∀ (ls : Array Slot), lv_has ls 7 [(0, .ref (a 0)), (1, .int y1), (2, .int y2), (3, .int y3)] → W p l e (headSpec wsX6_go ({ frames := 3, cells := 0, slots := 0, locals := 68 } : Room)).room s m ([.ref (a 0), .int x1] : List Value).toArray below meth c H locs 0 0 (MQ below (qRW (dC, dI) (wX6 a cI cF u.2) (some (.int u.1)) A) ([.ref (a 0), .int x1] : List Value).toArray s 0 0 A) (F0 m 14 ls [])) (n : Nat), ∀ (y1 : Int32) (y2 : Int32) (y4 : Int32) (y5 : Int32) (y6 : Int32) (S : S_X6), m_X6_go_L66 k14 n y1 y2 y4 y5 y6 S = some u → ∀ (H : Heap) (locs : List Loc), va_P (dC, dI) vwCl (wX6 a cI cF S) H → va_D A (wX6 a cI cF S) → va_S A s.heap H locs → ∀ (ls : Array Slot), lv_has ls 7 [(0, .ref (a 0)), (1, .int y1), (2, .int y2), (4, .int y4), (5, .int y5), (6, .int y6)] → W p l e (headSpec wsX6_go ({ frames := 3, cells := 0, slots := 0, locals := 68 } : Room)).room s m ([.ref (a 0), .int x1] : List Value).toArray below meth c H locs 0 0 (MQ below (qRW (dC, dI) (wX6 a cI cF u.2) (some (.int u.1)) A) ([.ref (a 0), .int x1] : List Value).toArray s 0 0 A) (F0 m 66 ls []) := by
    intro k14 ih14 n
    induction n with
    | zero =>
      intro y1 y2 y4 y5 y6 S h
      exact (o_0 h).elim
    | succ n ih66 =>
      intro y1 y2 y4 y5 y6 S h H locs hP hD hS ls hl
      rw [m_X6_go_L66] at h
      refine lv_iload hx hb dX6_go_66 (lv_at hl 5 rfl) ?_
      refine lv_iload hx hb dX6_go_68 (lv_at hl 4 rfl) ?_
      refine lv_icmp_ge (tgt := 103) hx hb dX6_go_70 (by decide) (fun c11 => ?_) (fun c11 => ?_)
      · have h := o_t h c11
        exact L103 _ ih14 _ _ _ h _ _ hP hD hS _ (lv_sub hl [0, 1, 2] rfl)
      have h := o_f h c11
      refine lv_iload_n hx hb dX6_go_73 rfl (lv_at hl 1 rfl) ?_
      refine lv_if_lt (tgt := 103) hx hb dX6_go_74 (by decide) (fun c20 => ?_) (fun c20 => ?_)
      · have h := o_t h c20
        exact L103 _ ih14 _ _ _ h _ _ hP hD hS _ (lv_sub hl [0, 1, 2] rfl)
      have h := o_f h c20
      refine lv_aload_n hx hb dX6_go_77 rfl (lv_at hl 0 rfl) ?_
      refine lv_iload_n hx hb dX6_go_78 rfl (lv_at hl 1 rfl) ?_
      refine lv_iload hx hb dX6_go_79 (lv_at hl 3 rfl) ?_
      obtain ⟨v21, g22, h⟩ := o_b h
      refine k_rw (va_runV (As := [.int y1, .int y4]) (rest := []) ⟨hx, hb, hml, hown, hts⟩ (c_X6_add l dC dI cI cF a S y1 y4 v21 g22 H.size) (cwV 2 hts gX6_go_X6_add rfl rfl rfl (by decide +kernel) ⟨Nat.le_of_ble_eq_true rfl, Nat.le_of_ble_eq_true rfl⟩) (k_preVw (q0 := 0) (ci := 6) hK hP hD [0, 1, 2, 3, 4, 5] rfl rfl rfl rfl rfl) rfl rfl hl.1 rfl (lv_room (Nat.le_of_ble_eq_true rfl)) dX6_go_81 ⟨Nat.zero_le _, Nat.zero_le _⟩) (st1 := []) rfl hP hD hS hA [0, 1, 2, 3, 4, 5] rfl rfl (wn := wX6 a cI cF v21) rfl rfl rfl (fun H locs hP hD hS => ?_)
      refine lv_aload_n hx hb dX6_go_84 rfl (lv_at hl 0 rfl) ?_
      refine va_get (D := (dC, dI)) (ci := 6) (v := .ref (a 1)) (C := RX6) (T := TX6) (N := 11) hx hb huX6 (fun _ h9 => h9) hown hK hP 0 rfl rfl 0 (by decide) w7 (fun _ h9 => h9) rfl dX6_go_85 ?_
      refine lv_sipush (v := (348 : Int32)) hx hb dX6_go_88 (by decide) ?_
      refine lv_dup2_11 hx hb dX6_go_91 rfl rfl ?_
      refine va_iald hx hb hK hP 1 0 rfl rfl (by unfold vp_in; decide) dX6_go_92 ?_
      refine lv_iload hx hb dX6_go_93 (lv_at hl 3 rfl) ?_
      refine lv_iadd hx hb dX6_go_95 ?_
      refine va_iast hx hb hK hP hD hS 1 0 rfl rfl (by unfold vp_in; decide) dX6_go_96 (fun H locs hP hD hS => ?_)
      have hP : va_P (dC, dI) vwCl (wX6 a cI cF (s_X6_s v21 (upd (g_X6_s v21) (348 : Int32).toNatClampNeg (((g_X6_s v21) (348 : Int32).toNatClampNeg) + y4)))) H := hP
      have hD : va_D A (wX6 a cI cF (s_X6_s v21 (upd (g_X6_s v21) (348 : Int32).toNatClampNeg (((g_X6_s v21) (348 : Int32).toNatClampNeg) + y4)))) := hD
      obtain ⟨x6_23, e24, h⟩ := o_n h
      refine lv_iinc (v := x6_23) (lv' := [(6, .int x6_23), (0, .ref (a 0)), (1, .int y1), (2, .int y2), (4, .int y4), (5, .int y5)]) hx hb dX6_go_97 hl (k := 5) rfl (by rw [e24]; rfl) (by decide) rfl (fun ls hl => ?_)
      refine lv_goto (tgt := 66) hx hb dX6_go_100 (by decide) ?_
      exact ih66 _ _ _ _ _ _ h _ _ hP hD hS _ (lv_sub hl [1, 2, 3, 4, 5, 0] rfl)
  have L14 : ∀ (n : Nat), ∀ (y1 : Int32) (y2 : Int32) (y3 : Int32) (S : S_X6), m_X6_go_L14 n y1 y2 y3 S = some u → ∀ (H : Heap) (locs : List Loc), va_P (dC, dI) vwCl (wX6 a cI cF S) H → va_D A (wX6 a cI cF S) → va_S A s.heap H locs → ∀ (ls : Array Slot), lv_has ls 7 [(0, .ref (a 0)), (1, .int y1), (2, .int y2), (3, .int y3)] → W p l e (headSpec wsX6_go ({ frames := 3, cells := 0, slots := 0, locals := 68 } : Room)).room s m ([.ref (a 0), .int x1] : List Value).toArray below meth c H locs 0 0 (MQ below (qRW (dC, dI) (wX6 a cI cF u.2) (some (.int u.1)) A) ([.ref (a 0), .int x1] : List Value).toArray s 0 0 A) (F0 m 14 ls []) := by
    intro  n
    induction n with
    | zero =>
      intro y1 y2 y3 S h
      exact (o_0 h).elim
    | succ n ih14 =>
      intro y1 y2 y3 S h H locs hP hD hS ls hl
      rw [m_X6_go_L14] at h
      refine lv_iload_n hx hb dX6_go_14 rfl (lv_at hl 3 rfl) ?_
      refine lv_if_eq (tgt := 157) hx hb dX6_go_15 (by decide) (fun c1 => ?_) (fun c1 => ?_)
      · have h := o_t h c1
        refine lv_iload_n hx hb dX6_go_157 rfl (lv_at hl 2 rfl) ?_
        have hu := Option.some.inj h
        exact W.iret (v := y2) hx hb hr (fun t ht hW => ⟨⟨congrArg (fun z => Outcome.returned (some (Value.int z.1))) hu, by rw [ht, ← hu]; exact hP⟩, hS.F ht⟩) hS.2.2 dX6_go_158
      have h := o_f h c1
      refine lv_aload_n hx hb dX6_go_18 rfl (lv_at hl 0 rfl) ?_
      refine lv_iconst (v := (0 : Int32)) hx hb dX6_go_19 (by decide) ?_
      refine lv_sipush (v := (999 : Int32)) hx hb dX6_go_20 (by decide) ?_
      obtain ⟨v2, g3, h⟩ := o_b h
      refine k_rw (va_runV (As := [.int (0 : Int32), .int (999 : Int32)]) (rest := []) ⟨hx, hb, hml, hown, hts⟩ (c_X6_number l dC dI cI cF a S (0 : Int32) (999 : Int32) v2 g3 H.size) (cwV 2 hts gX6_go_X6_number rfl rfl rfl (by decide +kernel) ⟨Nat.le_of_ble_eq_true rfl, Nat.le_of_ble_eq_true rfl⟩) (k_preVw (q0 := 0) (ci := 6) hK hP hD [0, 1, 2, 3, 4, 5] rfl rfl rfl rfl rfl) rfl rfl hl.1 rfl (lv_room (Nat.le_of_ble_eq_true rfl)) dX6_go_23 ⟨Nat.zero_le _, Nat.zero_le _⟩) (st1 := [.int v2.1]) rfl hP hD hS hA [0, 1, 2, 3, 4, 5] rfl rfl (wn := wX6 a cI cF v2.2) rfl rfl rfl (fun H locs hP hD hS => ?_)
      obtain ⟨x4_4, e5, h⟩ := o_n h
      refine lv_nmi e5 ?_
      refine lv_istore (lv' := [(4, .int x4_4), (0, .ref (a 0)), (1, .int y1), (2, .int y2), (3, .int y3)]) hx hb dX6_go_26 hl (by decide) rfl (fun ls hl => ?_)
      refine lv_iconst (v := (1 : Int32)) hx hb dX6_go_28 (by decide) ?_
      refine lv_istore (lv' := [(5, .int (1 : Int32)), (4, .int x4_4), (0, .ref (a 0)), (1, .int y1), (2, .int y2), (3, .int y3)]) hx hb dX6_go_29 hl (by decide) rfl (fun ls hl => ?_)
      refine lv_aload_n hx hb dX6_go_31 rfl (lv_at hl 2 rfl) ?_
      refine lv_bipush (v := (42 : Int32)) hx hb dX6_go_32 (by decide) ?_
      refine lv_bipush (v := (42 : Int32)) hx hb dX6_go_34 (by decide) ?_
      obtain ⟨v6, g7, h⟩ := o_b h
      refine k_ro (va_runV (As := [.int (42 : Int32), .int (42 : Int32)]) (rest := []) ⟨hx, hb, hml, hown, hts⟩ (c_X6_isNext l dC dI cI cF a v2.2 (42 : Int32) (42 : Int32) v6 g7) (cwV 2 hts gX6_go_X6_isNext rfl rfl rfl (by decide +kernel) ⟨Nat.le_of_ble_eq_true rfl, Nat.le_of_ble_eq_true rfl⟩) (k_preV (q0 := 0) (ci := 6) hK (hP.sub (ws' := wX6 a cI cF v2.2) [0, 1, 2, 3, 4, 5] rfl) rfl rfl rfl) rfl rfl hl.1 rfl (lv_room (Nat.le_of_ble_eq_true rfl)) dX6_go_36 ⟨Nat.zero_le _, Nat.zero_le _⟩) (st1 := [.int v6]) rfl ?_
      refine lv_if_eq (tgt := 58) hx hb dX6_go_39 (by decide) (fun c8 => ?_) (fun c8 => ?_)
      · have h := o_t h c8
        refine lv_iload_n hx hb dX6_go_58 rfl (lv_at hl 4 rfl) ?_
        refine lv_iload hx hb dX6_go_59 (lv_at hl 0 rfl) ?_
        refine lv_iadd hx hb dX6_go_61 ?_
        obtain ⟨x2_9, e10, h⟩ := o_n h
        refine lv_nmi e10 ?_
        refine lv_istore_n (lv' := [(2, .int x2_9), (5, .int (1 : Int32)), (4, .int x4_4), (0, .ref (a 0)), (1, .int y1), (3, .int y3)]) hx hb dX6_go_62 rfl hl (by decide) rfl (fun ls hl => ?_)
        refine lv_iconst (v := (0 : Int32)) hx hb dX6_go_63 (by decide) ?_
        refine lv_istore (lv' := [(6, .int (0 : Int32)), (2, .int x2_9), (5, .int (1 : Int32)), (4, .int x4_4), (0, .ref (a 0)), (1, .int y1), (3, .int y3)]) hx hb dX6_go_64 hl (by decide) rfl (fun ls hl => ?_)
        exact L66 _ ih14 _ _ _ _ _ _ _ h _ _ hP hD hS _ (lv_sub hl [4, 5, 1, 3, 2, 0] rfl)
      have h := o_f h c8
      refine lv_aload_n hx hb dX6_go_42 rfl (lv_at hl 2 rfl) ?_
      refine lv_dup hx hb dX6_go_43 rfl ?_
      refine va_get (D := (dC, dI)) (ci := 6) (v := .int (g_X6_place v2.2)) (C := RX6) (T := TX6) (N := 11) hx hb huX6 (fun _ h9 => h9) hown hK hP 0 rfl rfl 9 (by decide) w72 (fun _ h9 => h9) rfl dX6_go_44 ?_
      refine lv_iconst (v := (1 : Int32)) hx hb dX6_go_47 (by decide) ?_
      refine lv_iadd hx hb dX6_go_48 ?_
      refine va_put (D := (dC, dI)) (ci := 6) (v := .int ((g_X6_place v2.2) + (1 : Int32))) (ty := .int) (C := RX6) (T := TX6) (N := 11) hx hb huX6 (fun _ h9 => h9) tyX6 tyX6_ok nmX6 hown hK hP hD hS 0 rfl rfl 9 (by decide) w72 (fun _ h9 => h9) rfl (by decide +kernel) rfl rfl (Nat.le_of_ble_eq_true rfl) dX6_go_49 (fun H locs hP hD hS => ?_)
      have hP : va_P (dC, dI) vwCl (wX6 a cI cF (s_X6_place v2.2 ((g_X6_place v2.2) + (1 : Int32)))) H := hP
      have hD : va_D A (wX6 a cI cF (s_X6_place v2.2 ((g_X6_place v2.2) + (1 : Int32)))) := hD
      refine lv_aload_n hx hb dX6_go_52 rfl (lv_at hl 2 rfl) ?_
      obtain ⟨v25, g26, h⟩ := o_b h
      refine k_rw (va_runV (As := []) (rest := []) ⟨hx, hb, hml, hown, hts⟩ (c_X6_times l dC dI cI cF a (s_X6_place v2.2 ((g_X6_place v2.2) + (1 : Int32))) v25 g26 H.size) (cwV 0 hts gX6_go_X6_times rfl rfl rfl (by decide +kernel) ⟨Nat.le_of_ble_eq_true rfl, Nat.le_of_ble_eq_true rfl⟩) (k_preVw (q0 := 0) (ci := 6) hK hP hD [0, 1, 2, 3, 4, 5] rfl rfl rfl rfl rfl) rfl rfl hl.1 rfl (lv_room (Nat.le_of_ble_eq_true rfl)) dX6_go_53 ⟨Nat.zero_le _, Nat.zero_le _⟩) (st1 := [.int v25.1]) rfl hP hD hS hA [0, 1, 2, 3, 4, 5] rfl rfl (wn := wX6 a cI cF v25.2) rfl rfl rfl (fun H locs hP hD hS => ?_)
      obtain ⟨x5_27, e28, h⟩ := o_n h
      refine lv_nmi e28 ?_
      refine lv_istore (lv' := [(5, .int x5_27), (4, .int x4_4), (0, .ref (a 0)), (1, .int y1), (2, .int y2), (3, .int y3)]) hx hb dX6_go_56 hl (by decide) rfl (fun ls hl => ?_)
      refine lv_iload_n hx hb dX6_go_58 rfl (lv_at hl 4 rfl) ?_
      refine lv_iload hx hb dX6_go_59 (lv_at hl 0 rfl) ?_
      refine lv_iadd hx hb dX6_go_61 ?_
      obtain ⟨x2_29, e30, h⟩ := o_n h
      refine lv_nmi e30 ?_
      refine lv_istore_n (lv' := [(2, .int x2_29), (5, .int x5_27), (4, .int x4_4), (0, .ref (a 0)), (1, .int y1), (3, .int y3)]) hx hb dX6_go_62 rfl hl (by decide) rfl (fun ls hl => ?_)
      refine lv_iconst (v := (0 : Int32)) hx hb dX6_go_63 (by decide) ?_
      refine lv_istore (lv' := [(6, .int (0 : Int32)), (2, .int x2_29), (5, .int x5_27), (4, .int x4_4), (0, .ref (a 0)), (1, .int y1), (3, .int y3)]) hx hb dX6_go_64 hl (by decide) rfl (fun ls hl => ?_)
      exact L66 _ ih14 _ _ _ _ _ _ _ h _ _ hP hD hS _ (lv_sub hl [4, 5, 1, 3, 2, 0] rfl)
  have hl := lv_entry ([.ref (a 0), .int x1]) (n := 7) (Nat.le_of_ble_eq_true rfl)
  rw [lg_entry_eq]
  generalize (lg_sl ([.ref (a 0), .int x1]) ++ List.replicate (7 - (lg_sl ([.ref (a 0), .int x1])).length) Slot.unset).toArray = ls at hl ⊢
  have hl : lv_has ls 7 [(0, .ref (a 0)), (1, .int x1)] := hl
  rw [m_X6_go] at h
  refine lv_aload_n hx hb dX6_go_0 rfl (lv_at hl 0 rfl) ?_
  refine lv_iconst (v := (0 : Int32)) hx hb dX6_go_1 (by decide) ?_
  refine va_put (D := (dC, dI)) (ci := 6) (v := .int (0 : Int32)) (ty := .int) (C := RX6) (T := TX6) (N := 11) hx hb huX6 (fun _ h9 => h9) tyX6 tyX6_ok nmX6 hown hK hP hD hS 0 rfl rfl 9 (by decide) w72 (fun _ h9 => h9) rfl (by decide +kernel) rfl rfl (Nat.le_of_ble_eq_true rfl) dX6_go_2 (fun H locs hP hD hS => ?_)
  have hP : va_P (dC, dI) vwCl (wX6 a cI cF (s_X6_place S (0 : Int32))) H := hP
  have hD : va_D A (wX6 a cI cF (s_X6_place S (0 : Int32))) := hD
  refine lv_aload_n hx hb dX6_go_5 rfl (lv_at hl 0 rfl) ?_
  refine lv_iconst (v := (0 : Int32)) hx hb dX6_go_6 (by decide) ?_
  refine va_put (D := (dC, dI)) (ci := 6) (v := .int (0 : Int32)) (ty := .boolean) (C := RX6) (T := TX6) (N := 11) hx hb huX6 (fun _ h9 => h9) tyX6 tyX6_ok nmX6 hown hK hP hD hS 0 rfl rfl 10 (by decide) w78 (fun _ h9 => h9) rfl (by decide +kernel) rfl rfl (Nat.le_of_ble_eq_true rfl) dX6_go_7 (fun H locs hP hD hS => ?_)
  have hP : va_P (dC, dI) vwCl (wX6 a cI cF (s_X6_isWrong (s_X6_place S (0 : Int32)) (0 : Int32))) H := hP
  have hD : va_D A (wX6 a cI cF (s_X6_isWrong (s_X6_place S (0 : Int32)) (0 : Int32))) := hD
  refine lv_iconst (v := (0 : Int32)) hx hb dX6_go_10 (by decide) ?_
  refine lv_istore_n (lv' := [(2, .int (0 : Int32)), (0, .ref (a 0)), (1, .int x1)]) hx hb dX6_go_11 rfl hl (by decide) rfl (fun ls hl => ?_)
  refine lv_iconst (v := (1 : Int32)) hx hb dX6_go_12 (by decide) ?_
  refine lv_istore_n (lv' := [(3, .int (1 : Int32)), (2, .int (0 : Int32)), (0, .ref (a 0)), (1, .int x1)]) hx hb dX6_go_13 rfl hl (by decide) rfl (fun ls hl => ?_)
  exact L14 _ _ _ _ _ h _ _ hP hD hS _ (lv_sub hl [2, 3, 1, 0] rfl)

def m_X6_fill (S : S_X6) (x1 : Int32) : Option (Int32 × S_X6) := (m_X6_isCan x1).bind fun v1 => (if v1 = 0 then ((m_X6_throwing (s_X6_thrown S (0 : Int32)) (1 : Int32)).bind fun v24 => (some (v24.1, v24.2))) else ((m_X6_go (s_X6_thrown S (0 : Int32)) (-1 : Int32)).bind fun v4 => (nmL (v4.1) fun x2_6 => (if (g_X6_isWrong v4.2) = 0 then ((m_X6_metres v4.2 x1).bind fun v9 => (if (v9 + x2_6) ≤ (40 : Int32) then ((m_X6_save v4.2).bind fun v12 => ((m_X6_go v12 x1).bind fun v14 => (nmL (v14.1) fun x2_16 => ((m_X6_metres (s_X6_length v14.2 (0 : Int32)) x1).bind fun v18 => (some (v18, s_X6_length v14.2 (0 : Int32))))))) else ((m_X6_throwing v4.2 (3 : Int32)).bind fun v20 => (some (v20.1, v20.2))))) else ((m_X6_throwing v4.2 (2 : Int32)).bind fun v22 => (some (v22.1, v22.2)))))))
set_option maxHeartbeats 4000000 in
set_option maxRecDepth 100000 in
theorem c_X6_fill (l : Launch) (dC : Nat → ClassId) (dI : Nat → Nat → Nat) (cI cF : ClassId) (a : Nat → Nat) (S : S_X6) (x1 : Int32) (u : Int32 × S_X6) (h : m_X6_fill S x1 = some u) : cRW l (dC, dI) cI cF yX6_fill wsX6_fill ({ frames := 4, cells := 0, slots := 0, locals := 94 } : Room) [.ref (a 0), .int x1] (wX6 a cI cF S) (wX6 a cI cF u.2) (some (.int u.1)) := by
  intro sz
  refine Met.ofW (cc := cX6_fill) (maxL := 3) (ret := (some .int)) (by decide) rfl ?_
  intro p e s m args below meth c s₁ B hml hv
  obtain ⟨hargs, hsz, hP, hK, hD0⟩ := hv
  subst hargs
  have hx := B.exec
  have hb := B.bytes
  have hr := B.returns
  have hts := atoms_spec (ws := wsX6_fill) B.pre
  have hown : s.vm.findClass RX6 = some m.cls := findClass_of_methodNamed B.named
  have hlocks := B.notSynchronized
  have w101 := hts (.methodLink RX6 101 yX6_go) (List.mem_of_getElem? (i := 15) rfl)
  have w104 := hts (.methodLink RX6 104 yX6_save) (List.mem_of_getElem? (i := 46) rfl)
  have w25 := hts (.fieldLink RX6 25 "DrawnSliversModel" "thrown" "I") (List.mem_of_getElem? (i := 1) rfl)
  have w36 := hts (.methodLink RX6 36 yX6_metres) (List.mem_of_getElem? (i := 42) rfl)
  have w75 := hts (.fieldLink RX6 75 "DrawnSliversModel" "length" "I") (List.mem_of_getElem? (i := 3) rfl)
  have w78 := hts (.fieldLink RX6 78 "DrawnSliversModel" "isWrong" "Z") (List.mem_of_getElem? (i := 2) rfl)
  have w95 := hts (.methodLink RX6 95 yX6_isCan) (List.mem_of_getElem? (i := 4) rfl)
  have w98 := hts (.methodLink RX6 98 yX6_throwing) (List.mem_of_getElem? (i := 11) rfl)
  have huX6 : ∀ w ∈ u_ws RX6 TX6 11, w.before _ s = true := fun w h => hts w (List.mem_cons_of_mem _ (List.mem_append_right _ (h)))
  subst hsz
  have hD := hD0.self (sz := s.heap.size)
  generalize hAe : va_A (wX6 a cI cF S) s.heap.size = A at hD ⊢
  have hA : ∀ q : Nat, s.heap.size ≤ q → A q := fun q h => by rw [← hAe]; exact Or.inr h
  have hS : va_S A s.heap s.heap [] := va_S.rf
  have hl := lv_entry ([.ref (a 0), .int x1]) (n := 3) (Nat.le_of_ble_eq_true rfl)
  rw [lg_entry_eq]
  generalize (lg_sl ([.ref (a 0), .int x1]) ++ List.replicate (3 - (lg_sl ([.ref (a 0), .int x1])).length) Slot.unset).toArray = ls at hl ⊢
  have hl : lv_has ls 3 [(0, .ref (a 0)), (1, .int x1)] := hl
  rw [m_X6_fill] at h
  refine lv_aload_n hx hb dX6_fill_0 rfl (lv_at hl 0 rfl) ?_
  refine lv_iconst (v := (0 : Int32)) hx hb dX6_fill_1 (by decide) ?_
  refine va_put (D := (dC, dI)) (ci := 6) (v := .int (0 : Int32)) (ty := .int) (C := RX6) (T := TX6) (N := 11) hx hb huX6 (fun _ h9 => h9) tyX6 tyX6_ok nmX6 hown hK hP hD hS 0 rfl rfl 8 (by decide) w25 (fun _ h9 => h9) rfl (by decide +kernel) rfl rfl (Nat.le_of_ble_eq_true rfl) dX6_fill_2 (fun H locs hP hD hS => ?_)
  have hP : va_P (dC, dI) vwCl (wX6 a cI cF (s_X6_thrown S (0 : Int32))) H := hP
  have hD : va_D A (wX6 a cI cF (s_X6_thrown S (0 : Int32))) := hD
  refine lv_iload_n hx hb dX6_fill_5 rfl (lv_at hl 1 rfl) ?_
  obtain ⟨v1, g2, h⟩ := o_b h
  refine k_ro (va_runS (As := [.int x1]) (rest := []) ⟨hx, hb, hml, hown, hts⟩ (c_X6_isCan l dC dI cI cF x1 v1 g2) (va_cwS 1 hts gX6_fill_X6_isCan rfl rfl rfl (by decide +kernel) ⟨Nat.le_of_ble_eq_true rfl, Nat.le_of_ble_eq_true rfl⟩) (k_prePU) rfl rfl hl.1 rfl (lv_room (Nat.le_of_ble_eq_true rfl)) dX6_fill_6 ⟨Nat.zero_le _, Nat.zero_le _⟩) (st1 := [.int v1]) rfl ?_
  refine lv_if_ne (tgt := 18) hx hb dX6_fill_9 (by decide) (fun c3 => ?_) (fun c3 => ?_)
  rotate_left
  · have h := o_t h c3
    refine lv_aload_n hx hb dX6_fill_12 rfl (lv_at hl 0 rfl) ?_
    refine lv_iconst (v := (1 : Int32)) hx hb dX6_fill_13 (by decide) ?_
    obtain ⟨v24, g25, h⟩ := o_b h
    refine k_rw (va_runV (As := [.int (1 : Int32)]) (rest := []) ⟨hx, hb, hml, hown, hts⟩ (c_X6_throwing l dC dI cI cF a (s_X6_thrown S (0 : Int32)) (1 : Int32) v24 g25 H.size) (cwV 1 hts gX6_fill_X6_throwing rfl rfl rfl (by decide +kernel) ⟨Nat.le_of_ble_eq_true rfl, Nat.le_of_ble_eq_true rfl⟩) (k_preVw (q0 := 0) (ci := 6) hK hP hD [0, 1, 2, 3, 4, 5] rfl rfl rfl rfl rfl) rfl rfl hl.1 rfl (lv_room (Nat.le_of_ble_eq_true rfl)) dX6_fill_14 ⟨Nat.zero_le _, Nat.zero_le _⟩) (st1 := [.int v24.1]) rfl hP hD hS hA [0, 1, 2, 3, 4, 5] rfl rfl (wn := wX6 a cI cF v24.2) rfl rfl rfl (fun H locs hP hD hS => ?_)
    have hu := Option.some.inj h
    exact W.iret (v := v24.1) hx hb hr (fun t ht hW => ⟨⟨congrArg (fun z => Outcome.returned (some (Value.int z.1))) hu, by rw [ht, ← hu]; exact hP⟩, hS.F ht⟩) hS.2.2 dX6_fill_17
  have h := o_f h c3
  refine lv_aload_n hx hb dX6_fill_18 rfl (lv_at hl 0 rfl) ?_
  refine lv_iconst (v := (-1 : Int32)) hx hb dX6_fill_19 (by decide) ?_
  obtain ⟨v4, g5, h⟩ := o_b h
  refine k_rw (va_runV (As := [.int (-1 : Int32)]) (rest := []) ⟨hx, hb, hml, hown, hts⟩ (c_X6_go l dC dI cI cF a (s_X6_thrown S (0 : Int32)) (-1 : Int32) v4 g5 H.size) (cwV 1 hts gX6_fill_X6_go rfl rfl rfl (by decide +kernel) ⟨Nat.le_of_ble_eq_true rfl, Nat.le_of_ble_eq_true rfl⟩) (k_preVw (q0 := 0) (ci := 6) hK hP hD [0, 1, 2, 3, 4, 5] rfl rfl rfl rfl rfl) rfl rfl hl.1 rfl (lv_room (Nat.le_of_ble_eq_true rfl)) dX6_fill_20 ⟨Nat.zero_le _, Nat.zero_le _⟩) (st1 := [.int v4.1]) rfl hP hD hS hA [0, 1, 2, 3, 4, 5] rfl rfl (wn := wX6 a cI cF v4.2) rfl rfl rfl (fun H locs hP hD hS => ?_)
  obtain ⟨x2_6, e7, h⟩ := o_n h
  refine lv_nmi e7 ?_
  refine lv_istore_n (lv' := [(2, .int x2_6), (0, .ref (a 0)), (1, .int x1)]) hx hb dX6_fill_23 rfl hl (by decide) rfl (fun ls hl => ?_)
  refine lv_aload_n hx hb dX6_fill_24 rfl (lv_at hl 1 rfl) ?_
  refine va_get (D := (dC, dI)) (ci := 6) (v := .int (g_X6_isWrong v4.2)) (C := RX6) (T := TX6) (N := 11) hx hb huX6 (fun _ h9 => h9) hown hK hP 0 rfl rfl 10 (by decide) w78 (fun _ h9 => h9) rfl dX6_fill_25 ?_
  refine lv_if_eq (tgt := 37) hx hb dX6_fill_28 (by decide) (fun c8 => ?_) (fun c8 => ?_)
  rotate_left
  · have h := o_f h c8
    refine lv_aload_n hx hb dX6_fill_31 rfl (lv_at hl 1 rfl) ?_
    refine lv_iconst (v := (2 : Int32)) hx hb dX6_fill_32 (by decide) ?_
    obtain ⟨v22, g23, h⟩ := o_b h
    refine k_rw (va_runV (As := [.int (2 : Int32)]) (rest := []) ⟨hx, hb, hml, hown, hts⟩ (c_X6_throwing l dC dI cI cF a v4.2 (2 : Int32) v22 g23 H.size) (cwV 1 hts gX6_fill_X6_throwing rfl rfl rfl (by decide +kernel) ⟨Nat.le_of_ble_eq_true rfl, Nat.le_of_ble_eq_true rfl⟩) (k_preVw (q0 := 0) (ci := 6) hK hP hD [0, 1, 2, 3, 4, 5] rfl rfl rfl rfl rfl) rfl rfl hl.1 rfl (lv_room (Nat.le_of_ble_eq_true rfl)) dX6_fill_33 ⟨Nat.zero_le _, Nat.zero_le _⟩) (st1 := [.int v22.1]) rfl hP hD hS hA [0, 1, 2, 3, 4, 5] rfl rfl (wn := wX6 a cI cF v22.2) rfl rfl rfl (fun H locs hP hD hS => ?_)
    have hu := Option.some.inj h
    exact W.iret (v := v22.1) hx hb hr (fun t ht hW => ⟨⟨congrArg (fun z => Outcome.returned (some (Value.int z.1))) hu, by rw [ht, ← hu]; exact hP⟩, hS.F ht⟩) hS.2.2 dX6_fill_36
  have h := o_t h c8
  refine lv_aload_n hx hb dX6_fill_37 rfl (lv_at hl 1 rfl) ?_
  refine lv_iload_n hx hb dX6_fill_38 rfl (lv_at hl 2 rfl) ?_
  obtain ⟨v9, g10, h⟩ := o_b h
  refine k_ro (va_runV (As := [.int x1]) (rest := []) ⟨hx, hb, hml, hown, hts⟩ (c_X6_metres l dC dI cI cF a v4.2 x1 v9 g10) (cwV 1 hts gX6_fill_X6_metres rfl rfl rfl (by decide +kernel) ⟨Nat.le_of_ble_eq_true rfl, Nat.le_of_ble_eq_true rfl⟩) (k_preV (q0 := 0) (ci := 6) hK (hP.sub (ws' := wX6 a cI cF v4.2) [0, 1, 2, 3, 4, 5] rfl) rfl rfl rfl) rfl rfl hl.1 rfl (lv_room (Nat.le_of_ble_eq_true rfl)) dX6_fill_39 ⟨Nat.zero_le _, Nat.zero_le _⟩) (st1 := [.int v9]) rfl ?_
  refine lv_iload_n hx hb dX6_fill_42 rfl (lv_at hl 0 rfl) ?_
  refine lv_iadd hx hb dX6_fill_43 ?_
  refine lv_bipush (v := (40 : Int32)) hx hb dX6_fill_44 (by decide) ?_
  refine lv_icmp_le (tgt := 55) hx hb dX6_fill_46 (by decide) (fun c11 => ?_) (fun c11 => ?_)
  rotate_left
  · have h := o_f h c11
    refine lv_aload_n hx hb dX6_fill_49 rfl (lv_at hl 1 rfl) ?_
    refine lv_iconst (v := (3 : Int32)) hx hb dX6_fill_50 (by decide) ?_
    obtain ⟨v20, g21, h⟩ := o_b h
    refine k_rw (va_runV (As := [.int (3 : Int32)]) (rest := []) ⟨hx, hb, hml, hown, hts⟩ (c_X6_throwing l dC dI cI cF a v4.2 (3 : Int32) v20 g21 H.size) (cwV 1 hts gX6_fill_X6_throwing rfl rfl rfl (by decide +kernel) ⟨Nat.le_of_ble_eq_true rfl, Nat.le_of_ble_eq_true rfl⟩) (k_preVw (q0 := 0) (ci := 6) hK hP hD [0, 1, 2, 3, 4, 5] rfl rfl rfl rfl rfl) rfl rfl hl.1 rfl (lv_room (Nat.le_of_ble_eq_true rfl)) dX6_fill_51 ⟨Nat.zero_le _, Nat.zero_le _⟩) (st1 := [.int v20.1]) rfl hP hD hS hA [0, 1, 2, 3, 4, 5] rfl rfl (wn := wX6 a cI cF v20.2) rfl rfl rfl (fun H locs hP hD hS => ?_)
    have hu := Option.some.inj h
    exact W.iret (v := v20.1) hx hb hr (fun t ht hW => ⟨⟨congrArg (fun z => Outcome.returned (some (Value.int z.1))) hu, by rw [ht, ← hu]; exact hP⟩, hS.F ht⟩) hS.2.2 dX6_fill_54
  have h := o_t h c11
  refine lv_aload_n hx hb dX6_fill_55 rfl (lv_at hl 1 rfl) ?_
  obtain ⟨v12, g13, h⟩ := o_b h
  refine k_rw (va_runV (As := []) (rest := []) ⟨hx, hb, hml, hown, hts⟩ (c_X6_save l dC dI cI cF a v4.2 v12 g13 H.size) (cwV 0 hts gX6_fill_X6_save rfl rfl rfl (by decide +kernel) ⟨Nat.le_of_ble_eq_true rfl, Nat.le_of_ble_eq_true rfl⟩) (k_preVw (q0 := 0) (ci := 6) hK hP hD [0, 1, 2, 3, 4, 5] rfl rfl rfl rfl rfl) rfl rfl hl.1 rfl (lv_room (Nat.le_of_ble_eq_true rfl)) dX6_fill_56 ⟨Nat.zero_le _, Nat.zero_le _⟩) (st1 := []) rfl hP hD hS hA [0, 1, 2, 3, 4, 5] rfl rfl (wn := wX6 a cI cF v12) rfl rfl rfl (fun H locs hP hD hS => ?_)
  refine lv_aload_n hx hb dX6_fill_59 rfl (lv_at hl 1 rfl) ?_
  refine lv_iload_n hx hb dX6_fill_60 rfl (lv_at hl 2 rfl) ?_
  obtain ⟨v14, g15, h⟩ := o_b h
  refine k_rw (va_runV (As := [.int x1]) (rest := []) ⟨hx, hb, hml, hown, hts⟩ (c_X6_go l dC dI cI cF a v12 x1 v14 g15 H.size) (cwV 1 hts gX6_fill_X6_go rfl rfl rfl (by decide +kernel) ⟨Nat.le_of_ble_eq_true rfl, Nat.le_of_ble_eq_true rfl⟩) (k_preVw (q0 := 0) (ci := 6) hK hP hD [0, 1, 2, 3, 4, 5] rfl rfl rfl rfl rfl) rfl rfl hl.1 rfl (lv_room (Nat.le_of_ble_eq_true rfl)) dX6_fill_61 ⟨Nat.zero_le _, Nat.zero_le _⟩) (st1 := [.int v14.1]) rfl hP hD hS hA [0, 1, 2, 3, 4, 5] rfl rfl (wn := wX6 a cI cF v14.2) rfl rfl rfl (fun H locs hP hD hS => ?_)
  obtain ⟨x2_16, e17, h⟩ := o_n h
  refine lv_nmi e17 ?_
  refine lv_istore_n (lv' := [(2, .int x2_16), (0, .ref (a 0)), (1, .int x1)]) hx hb dX6_fill_64 rfl hl (by decide) rfl (fun ls hl => ?_)
  refine lv_aload_n hx hb dX6_fill_65 rfl (lv_at hl 1 rfl) ?_
  refine lv_iconst (v := (0 : Int32)) hx hb dX6_fill_66 (by decide) ?_
  refine va_put (D := (dC, dI)) (ci := 6) (v := .int (0 : Int32)) (ty := .int) (C := RX6) (T := TX6) (N := 11) hx hb huX6 (fun _ h9 => h9) tyX6 tyX6_ok nmX6 hown hK hP hD hS 0 rfl rfl 7 (by decide) w75 (fun _ h9 => h9) rfl (by decide +kernel) rfl rfl (Nat.le_of_ble_eq_true rfl) dX6_fill_67 (fun H locs hP hD hS => ?_)
  have hP : va_P (dC, dI) vwCl (wX6 a cI cF (s_X6_length v14.2 (0 : Int32))) H := hP
  have hD : va_D A (wX6 a cI cF (s_X6_length v14.2 (0 : Int32))) := hD
  refine lv_aload_n hx hb dX6_fill_70 rfl (lv_at hl 1 rfl) ?_
  refine lv_iload_n hx hb dX6_fill_71 rfl (lv_at hl 2 rfl) ?_
  obtain ⟨v18, g19, h⟩ := o_b h
  refine k_ro (va_runV (As := [.int x1]) (rest := []) ⟨hx, hb, hml, hown, hts⟩ (c_X6_metres l dC dI cI cF a (s_X6_length v14.2 (0 : Int32)) x1 v18 g19) (cwV 1 hts gX6_fill_X6_metres rfl rfl rfl (by decide +kernel) ⟨Nat.le_of_ble_eq_true rfl, Nat.le_of_ble_eq_true rfl⟩) (k_preV (q0 := 0) (ci := 6) hK (hP.sub (ws' := wX6 a cI cF (s_X6_length v14.2 (0 : Int32))) [0, 1, 2, 3, 4, 5] rfl) rfl rfl rfl) rfl rfl hl.1 rfl (lv_room (Nat.le_of_ble_eq_true rfl)) dX6_fill_72 ⟨Nat.zero_le _, Nat.zero_le _⟩) (st1 := [.int v18]) rfl ?_
  have hu := Option.some.inj h
  exact W.iret (v := v18) hx hb hr (fun t ht hW => ⟨⟨congrArg (fun z => Outcome.returned (some (Value.int z.1))) hu, by rw [ht, ← hu]; exact hP⟩, hS.F ht⟩) hS.2.2 dX6_fill_75

def m_X6_tip_L46 : Nat → Int32 → Int32 → Int32 → S_X6 → Option (Int32 × S_X6)
  | 0, _, _, _, _ => none
  | n + 1, y1, y2, y3, S => if (40 : Int32) < y3 then (some (y2, S)) else (if (((41 : Int32) * y1) + y3) < 0 ∨ 350 ≤ (((41 : Int32) * y1) + y3).toNatClampNeg then none else (nmL (y3 + 1) fun x3_12 => ((m_X6_tip_L46 n) y1 y2 x3_12 (s_X6_s S (upd (g_X6_s S) (((41 : Int32) * y1) + y3).toNatClampNeg (0 : Int32))))))
def m_X6_tip (S : S_X6) (x1 : Int32) : Option (Int32 × S_X6) := (m_X6_isCan x1).bind fun v1 => (if v1 = 0 then ((m_X6_throwing (s_X6_thrown S (0 : Int32)) (1 : Int32)).bind fun v14 => (some (v14.1, v14.2))) else ((m_X6_save (s_X6_thrown S (0 : Int32))).bind fun v4 => ((m_X6_metres v4 x1).bind fun v6 => ((m_X6_sum v4 x1).bind fun v8 => (m_X6_tip_L46 4000 x1 v6 (0 : Int32) (s_X6_s v4 (upd (g_X6_s v4) (347 : Int32).toNatClampNeg (((g_X6_s v4) (347 : Int32).toNatClampNeg) + v8))))))))
set_option maxHeartbeats 4000000 in
set_option maxRecDepth 100000 in
theorem c_X6_tip (l : Launch) (dC : Nat → ClassId) (dI : Nat → Nat → Nat) (cI cF : ClassId) (a : Nat → Nat) (S : S_X6) (x1 : Int32) (u : Int32 × S_X6) (h : m_X6_tip S x1 = some u) : cRW l (dC, dI) cI cF yX6_tip wsX6_tip ({ frames := 2, cells := 0, slots := 0, locals := 45 } : Room) [.ref (a 0), .int x1] (wX6 a cI cF S) (wX6 a cI cF u.2) (some (.int u.1)) := by
  intro sz
  refine Met.ofW (cc := cX6_tip) (maxL := 4) (ret := (some .int)) (by decide) rfl ?_
  intro p e s m args below meth c s₁ B hml hv
  obtain ⟨hargs, hsz, hP, hK, hD0⟩ := hv
  subst hargs
  have hx := B.exec
  have hb := B.bytes
  have hr := B.returns
  have hts := atoms_spec (ws := wsX6_tip) B.pre
  have hown : s.vm.findClass RX6 = some m.cls := findClass_of_methodNamed B.named
  have hlocks := B.notSynchronized
  have w104 := hts (.methodLink RX6 104 yX6_save) (List.mem_of_getElem? (i := 14) rfl)
  have w107 := hts (.methodLink RX6 107 yX6_sum) (List.mem_of_getElem? (i := 24) rfl)
  have w25 := hts (.fieldLink RX6 25 "DrawnSliversModel" "thrown" "I") (List.mem_of_getElem? (i := 1) rfl)
  have w36 := hts (.methodLink RX6 36 yX6_metres) (List.mem_of_getElem? (i := 20) rfl)
  have w7 := hts (.fieldLink RX6 7 "DrawnSliversModel" "s" "[I") (List.mem_of_getElem? (i := 2) rfl)
  have w95 := hts (.methodLink RX6 95 yX6_isCan) (List.mem_of_getElem? (i := 3) rfl)
  have w98 := hts (.methodLink RX6 98 yX6_throwing) (List.mem_of_getElem? (i := 10) rfl)
  have huX6 : ∀ w ∈ u_ws RX6 TX6 11, w.before _ s = true := fun w h => hts w (List.mem_cons_of_mem _ (List.mem_append_right _ (h)))
  subst hsz
  have hD := hD0.self (sz := s.heap.size)
  generalize hAe : va_A (wX6 a cI cF S) s.heap.size = A at hD ⊢
  have hA : ∀ q : Nat, s.heap.size ≤ q → A q := fun q h => by rw [← hAe]; exact Or.inr h
  have hS : va_S A s.heap s.heap [] := va_S.rf
  have L46 : ∀ (n : Nat), ∀ (y1 : Int32) (y2 : Int32) (y3 : Int32) (S : S_X6), m_X6_tip_L46 n y1 y2 y3 S = some u → ∀ (H : Heap) (locs : List Loc), va_P (dC, dI) vwCl (wX6 a cI cF S) H → va_D A (wX6 a cI cF S) → va_S A s.heap H locs → ∀ (ls : Array Slot), lv_has ls 4 [(0, .ref (a 0)), (1, .int y1), (2, .int y2), (3, .int y3)] → W p l e (headSpec wsX6_tip ({ frames := 2, cells := 0, slots := 0, locals := 45 } : Room)).room s m ([.ref (a 0), .int x1] : List Value).toArray below meth c H locs 0 0 (MQ below (qRW (dC, dI) (wX6 a cI cF u.2) (some (.int u.1)) A) ([.ref (a 0), .int x1] : List Value).toArray s 0 0 A) (F0 m 46 ls []) := by
    intro  n
    induction n with
    | zero =>
      intro y1 y2 y3 S h
      exact (o_0 h).elim
    | succ n ih46 =>
      intro y1 y2 y3 S h H locs hP hD hS ls hl
      rw [m_X6_tip_L46] at h
      refine lv_iload_n hx hb dX6_tip_46 rfl (lv_at hl 3 rfl) ?_
      refine lv_bipush (v := (40 : Int32)) hx hb dX6_tip_47 (by decide) ?_
      refine lv_icmp_gt (tgt := 70) hx hb dX6_tip_49 (by decide) (fun c10 => ?_) (fun c10 => ?_)
      · have h := o_t h c10
        refine lv_iload_n hx hb dX6_tip_70 rfl (lv_at hl 2 rfl) ?_
        have hu := Option.some.inj h
        exact W.iret (v := y2) hx hb hr (fun t ht hW => ⟨⟨congrArg (fun z => Outcome.returned (some (Value.int z.1))) hu, by rw [ht, ← hu]; exact hP⟩, hS.F ht⟩) hS.2.2 dX6_tip_71
      have h := o_f h c10
      refine lv_aload_n hx hb dX6_tip_52 rfl (lv_at hl 0 rfl) ?_
      refine va_get (D := (dC, dI)) (ci := 6) (v := .ref (a 1)) (C := RX6) (T := TX6) (N := 11) hx hb huX6 (fun _ h9 => h9) hown hK hP 0 rfl rfl 0 (by decide) w7 (fun _ h9 => h9) rfl dX6_tip_53 ?_
      refine lv_bipush (v := (41 : Int32)) hx hb dX6_tip_56 (by decide) ?_
      refine lv_iload_n hx hb dX6_tip_58 rfl (lv_at hl 1 rfl) ?_
      refine lv_imul hx hb dX6_tip_59 ?_
      refine lv_iload_n hx hb dX6_tip_60 rfl (lv_at hl 3 rfl) ?_
      refine lv_iadd hx hb dX6_tip_61 ?_
      refine lv_iconst (v := (0 : Int32)) hx hb dX6_tip_62 (by decide) ?_
      obtain ⟨i11, h⟩ := o_in h
      refine va_iast hx hb hK hP hD hS 1 0 rfl rfl i11 dX6_tip_63 (fun H locs hP hD hS => ?_)
      have hP : va_P (dC, dI) vwCl (wX6 a cI cF (s_X6_s S (upd (g_X6_s S) (((41 : Int32) * y1) + y3).toNatClampNeg (0 : Int32)))) H := hP
      have hD : va_D A (wX6 a cI cF (s_X6_s S (upd (g_X6_s S) (((41 : Int32) * y1) + y3).toNatClampNeg (0 : Int32)))) := hD
      obtain ⟨x3_12, e13, h⟩ := o_n h
      refine lv_iinc (v := x3_12) (lv' := [(3, .int x3_12), (0, .ref (a 0)), (1, .int y1), (2, .int y2)]) hx hb dX6_tip_64 hl (k := 3) rfl (by rw [e13]; rfl) (by decide) rfl (fun ls hl => ?_)
      refine lv_goto (tgt := 46) hx hb dX6_tip_67 (by decide) ?_
      exact ih46 _ _ _ _ h _ _ hP hD hS _ (lv_sub hl [1, 2, 3, 0] rfl)
  have hl := lv_entry ([.ref (a 0), .int x1]) (n := 4) (Nat.le_of_ble_eq_true rfl)
  rw [lg_entry_eq]
  generalize (lg_sl ([.ref (a 0), .int x1]) ++ List.replicate (4 - (lg_sl ([.ref (a 0), .int x1])).length) Slot.unset).toArray = ls at hl ⊢
  have hl : lv_has ls 4 [(0, .ref (a 0)), (1, .int x1)] := hl
  rw [m_X6_tip] at h
  refine lv_aload_n hx hb dX6_tip_0 rfl (lv_at hl 0 rfl) ?_
  refine lv_iconst (v := (0 : Int32)) hx hb dX6_tip_1 (by decide) ?_
  refine va_put (D := (dC, dI)) (ci := 6) (v := .int (0 : Int32)) (ty := .int) (C := RX6) (T := TX6) (N := 11) hx hb huX6 (fun _ h9 => h9) tyX6 tyX6_ok nmX6 hown hK hP hD hS 0 rfl rfl 8 (by decide) w25 (fun _ h9 => h9) rfl (by decide +kernel) rfl rfl (Nat.le_of_ble_eq_true rfl) dX6_tip_2 (fun H locs hP hD hS => ?_)
  have hP : va_P (dC, dI) vwCl (wX6 a cI cF (s_X6_thrown S (0 : Int32))) H := hP
  have hD : va_D A (wX6 a cI cF (s_X6_thrown S (0 : Int32))) := hD
  refine lv_iload_n hx hb dX6_tip_5 rfl (lv_at hl 1 rfl) ?_
  obtain ⟨v1, g2, h⟩ := o_b h
  refine k_ro (va_runS (As := [.int x1]) (rest := []) ⟨hx, hb, hml, hown, hts⟩ (c_X6_isCan l dC dI cI cF x1 v1 g2) (va_cwS 1 hts gX6_tip_X6_isCan rfl rfl rfl (by decide +kernel) ⟨Nat.le_of_ble_eq_true rfl, Nat.le_of_ble_eq_true rfl⟩) (k_prePU) rfl rfl hl.1 rfl (lv_room (Nat.le_of_ble_eq_true rfl)) dX6_tip_6 ⟨Nat.zero_le _, Nat.zero_le _⟩) (st1 := [.int v1]) rfl ?_
  refine lv_if_ne (tgt := 18) hx hb dX6_tip_9 (by decide) (fun c3 => ?_) (fun c3 => ?_)
  rotate_left
  · have h := o_t h c3
    refine lv_aload_n hx hb dX6_tip_12 rfl (lv_at hl 0 rfl) ?_
    refine lv_iconst (v := (1 : Int32)) hx hb dX6_tip_13 (by decide) ?_
    obtain ⟨v14, g15, h⟩ := o_b h
    refine k_rw (va_runV (As := [.int (1 : Int32)]) (rest := []) ⟨hx, hb, hml, hown, hts⟩ (c_X6_throwing l dC dI cI cF a (s_X6_thrown S (0 : Int32)) (1 : Int32) v14 g15 H.size) (cwV 1 hts gX6_tip_X6_throwing rfl rfl rfl (by decide +kernel) ⟨Nat.le_of_ble_eq_true rfl, Nat.le_of_ble_eq_true rfl⟩) (k_preVw (q0 := 0) (ci := 6) hK hP hD [0, 1, 2, 3, 4, 5] rfl rfl rfl rfl rfl) rfl rfl hl.1 rfl (lv_room (Nat.le_of_ble_eq_true rfl)) dX6_tip_14 ⟨Nat.zero_le _, Nat.zero_le _⟩) (st1 := [.int v14.1]) rfl hP hD hS hA [0, 1, 2, 3, 4, 5] rfl rfl (wn := wX6 a cI cF v14.2) rfl rfl rfl (fun H locs hP hD hS => ?_)
    have hu := Option.some.inj h
    exact W.iret (v := v14.1) hx hb hr (fun t ht hW => ⟨⟨congrArg (fun z => Outcome.returned (some (Value.int z.1))) hu, by rw [ht, ← hu]; exact hP⟩, hS.F ht⟩) hS.2.2 dX6_tip_17
  have h := o_f h c3
  refine lv_aload_n hx hb dX6_tip_18 rfl (lv_at hl 0 rfl) ?_
  obtain ⟨v4, g5, h⟩ := o_b h
  refine k_rw (va_runV (As := []) (rest := []) ⟨hx, hb, hml, hown, hts⟩ (c_X6_save l dC dI cI cF a (s_X6_thrown S (0 : Int32)) v4 g5 H.size) (cwV 0 hts gX6_tip_X6_save rfl rfl rfl (by decide +kernel) ⟨Nat.le_of_ble_eq_true rfl, Nat.le_of_ble_eq_true rfl⟩) (k_preVw (q0 := 0) (ci := 6) hK hP hD [0, 1, 2, 3, 4, 5] rfl rfl rfl rfl rfl) rfl rfl hl.1 rfl (lv_room (Nat.le_of_ble_eq_true rfl)) dX6_tip_19 ⟨Nat.zero_le _, Nat.zero_le _⟩) (st1 := []) rfl hP hD hS hA [0, 1, 2, 3, 4, 5] rfl rfl (wn := wX6 a cI cF v4) rfl rfl rfl (fun H locs hP hD hS => ?_)
  refine lv_aload_n hx hb dX6_tip_22 rfl (lv_at hl 0 rfl) ?_
  refine lv_iload_n hx hb dX6_tip_23 rfl (lv_at hl 1 rfl) ?_
  obtain ⟨v6, g7, h⟩ := o_b h
  refine k_ro (va_runV (As := [.int x1]) (rest := []) ⟨hx, hb, hml, hown, hts⟩ (c_X6_metres l dC dI cI cF a v4 x1 v6 g7) (cwV 1 hts gX6_tip_X6_metres rfl rfl rfl (by decide +kernel) ⟨Nat.le_of_ble_eq_true rfl, Nat.le_of_ble_eq_true rfl⟩) (k_preV (q0 := 0) (ci := 6) hK (hP.sub (ws' := wX6 a cI cF v4) [0, 1, 2, 3, 4, 5] rfl) rfl rfl rfl) rfl rfl hl.1 rfl (lv_room (Nat.le_of_ble_eq_true rfl)) dX6_tip_24 ⟨Nat.zero_le _, Nat.zero_le _⟩) (st1 := [.int v6]) rfl ?_
  refine lv_istore_n (lv' := [(2, .int v6), (0, .ref (a 0)), (1, .int x1)]) hx hb dX6_tip_27 rfl hl (by decide) rfl (fun ls hl => ?_)
  refine lv_aload_n hx hb dX6_tip_28 rfl (lv_at hl 1 rfl) ?_
  refine va_get (D := (dC, dI)) (ci := 6) (v := .ref (a 1)) (C := RX6) (T := TX6) (N := 11) hx hb huX6 (fun _ h9 => h9) hown hK hP 0 rfl rfl 0 (by decide) w7 (fun _ h9 => h9) rfl dX6_tip_29 ?_
  refine lv_sipush (v := (347 : Int32)) hx hb dX6_tip_32 (by decide) ?_
  refine lv_dup2_11 hx hb dX6_tip_35 rfl rfl ?_
  refine va_iald hx hb hK hP 1 0 rfl rfl (by unfold vp_in; decide) dX6_tip_36 ?_
  refine lv_aload_n hx hb dX6_tip_37 rfl (lv_at hl 1 rfl) ?_
  refine lv_iload_n hx hb dX6_tip_38 rfl (lv_at hl 2 rfl) ?_
  obtain ⟨v8, g9, h⟩ := o_b h
  refine k_ro (va_runV (As := [.int x1]) (rest := [.int ((g_X6_s v4) (347 : Int32).toNatClampNeg), .int (347 : Int32), .ref (a 1)]) ⟨hx, hb, hml, hown, hts⟩ (c_X6_sum l dC dI cI cF a v4 x1 v8 g9) (cwV 1 hts gX6_tip_X6_sum rfl rfl rfl (by decide +kernel) ⟨Nat.le_of_ble_eq_true rfl, Nat.le_of_ble_eq_true rfl⟩) (k_preV (q0 := 0) (ci := 6) hK (hP.sub (ws' := wX6 a cI cF v4) [0, 1, 2, 3, 4, 5] rfl) rfl rfl rfl) rfl rfl hl.1 rfl (lv_room (Nat.le_of_ble_eq_true rfl)) dX6_tip_39 ⟨Nat.zero_le _, Nat.zero_le _⟩) (st1 := [.int v8, .int ((g_X6_s v4) (347 : Int32).toNatClampNeg), .int (347 : Int32), .ref (a 1)]) rfl ?_
  refine lv_iadd hx hb dX6_tip_42 ?_
  refine va_iast hx hb hK hP hD hS 1 0 rfl rfl (by unfold vp_in; decide) dX6_tip_43 (fun H locs hP hD hS => ?_)
  have hP : va_P (dC, dI) vwCl (wX6 a cI cF (s_X6_s v4 (upd (g_X6_s v4) (347 : Int32).toNatClampNeg (((g_X6_s v4) (347 : Int32).toNatClampNeg) + v8)))) H := hP
  have hD : va_D A (wX6 a cI cF (s_X6_s v4 (upd (g_X6_s v4) (347 : Int32).toNatClampNeg (((g_X6_s v4) (347 : Int32).toNatClampNeg) + v8)))) := hD
  refine lv_iconst (v := (0 : Int32)) hx hb dX6_tip_44 (by decide) ?_
  refine lv_istore_n (lv' := [(3, .int (0 : Int32)), (2, .int v6), (0, .ref (a 0)), (1, .int x1)]) hx hb dX6_tip_45 rfl hl (by decide) rfl (fun ls hl => ?_)
  exact L46 _ _ _ _ _ h _ _ hP hD hS _ (lv_sub hl [2, 3, 1, 0] rfl)

def m_X6_feed (S : S_X6) (x1 : Int32) : Option (Int32 × S_X6) := (m_X6_in x1 (0 : Int32) (255 : Int32)).bind fun v1 => (if v1 = 0 then ((m_X6_throwing (s_X6_thrown S (0 : Int32)) (1 : Int32)).bind fun v11 => (some (v11.1, v11.2))) else ((m_X6_save (s_X6_thrown S (0 : Int32))).bind fun v4 => (nmL ((g_X6_s v4) (328 : Int32).toNatClampNeg) fun x2_6 => (if x2_6 = x1 then (some (x2_6, s_X6_s v4 (upd (g_X6_s v4) (328 : Int32).toNatClampNeg x1))) else ((m_X6_forget (s_X6_s v4 (upd (g_X6_s v4) (328 : Int32).toNatClampNeg x1))).bind fun v9 => (some (x2_6, v9)))))))
set_option maxHeartbeats 4000000 in
set_option maxRecDepth 100000 in
theorem c_X6_feed (l : Launch) (dC : Nat → ClassId) (dI : Nat → Nat → Nat) (cI cF : ClassId) (a : Nat → Nat) (S : S_X6) (x1 : Int32) (u : Int32 × S_X6) (h : m_X6_feed S x1 = some u) : cRW l (dC, dI) cI cF yX6_feed wsX6_feed ({ frames := 1, cells := 0, slots := 0, locals := 22 } : Room) [.ref (a 0), .int x1] (wX6 a cI cF S) (wX6 a cI cF u.2) (some (.int u.1)) := by
  intro sz
  refine Met.ofW (cc := cX6_feed) (maxL := 3) (ret := (some .int)) (by decide) rfl ?_
  intro p e s m args below meth c s₁ B hml hv
  obtain ⟨hargs, hsz, hP, hK, hD0⟩ := hv
  subst hargs
  have hx := B.exec
  have hb := B.bytes
  have hr := B.returns
  have hts := atoms_spec (ws := wsX6_feed) B.pre
  have hown : s.vm.findClass RX6 = some m.cls := findClass_of_methodNamed B.named
  have hlocks := B.notSynchronized
  have w104 := hts (.methodLink RX6 104 yX6_save) (List.mem_of_getElem? (i := 11) rfl)
  have w110 := hts (.methodLink RX6 110 yX6_forget) (List.mem_of_getElem? (i := 17) rfl)
  have w25 := hts (.fieldLink RX6 25 "DrawnSliversModel" "thrown" "I") (List.mem_of_getElem? (i := 1) rfl)
  have w32 := hts (.methodLink RX6 32 yX6_in) (List.mem_of_getElem? (i := 3) rfl)
  have w7 := hts (.fieldLink RX6 7 "DrawnSliversModel" "s" "[I") (List.mem_of_getElem? (i := 2) rfl)
  have w98 := hts (.methodLink RX6 98 yX6_throwing) (List.mem_of_getElem? (i := 7) rfl)
  have huX6 : ∀ w ∈ u_ws RX6 TX6 11, w.before _ s = true := fun w h => hts w (List.mem_cons_of_mem _ (List.mem_append_right _ (h)))
  subst hsz
  have hD := hD0.self (sz := s.heap.size)
  generalize hAe : va_A (wX6 a cI cF S) s.heap.size = A at hD ⊢
  have hA : ∀ q : Nat, s.heap.size ≤ q → A q := fun q h => by rw [← hAe]; exact Or.inr h
  have hS : va_S A s.heap s.heap [] := va_S.rf
  have hl := lv_entry ([.ref (a 0), .int x1]) (n := 3) (Nat.le_of_ble_eq_true rfl)
  rw [lg_entry_eq]
  generalize (lg_sl ([.ref (a 0), .int x1]) ++ List.replicate (3 - (lg_sl ([.ref (a 0), .int x1])).length) Slot.unset).toArray = ls at hl ⊢
  have hl : lv_has ls 3 [(0, .ref (a 0)), (1, .int x1)] := hl
  rw [m_X6_feed] at h
  refine lv_aload_n hx hb dX6_feed_0 rfl (lv_at hl 0 rfl) ?_
  refine lv_iconst (v := (0 : Int32)) hx hb dX6_feed_1 (by decide) ?_
  refine va_put (D := (dC, dI)) (ci := 6) (v := .int (0 : Int32)) (ty := .int) (C := RX6) (T := TX6) (N := 11) hx hb huX6 (fun _ h9 => h9) tyX6 tyX6_ok nmX6 hown hK hP hD hS 0 rfl rfl 8 (by decide) w25 (fun _ h9 => h9) rfl (by decide +kernel) rfl rfl (Nat.le_of_ble_eq_true rfl) dX6_feed_2 (fun H locs hP hD hS => ?_)
  have hP : va_P (dC, dI) vwCl (wX6 a cI cF (s_X6_thrown S (0 : Int32))) H := hP
  have hD : va_D A (wX6 a cI cF (s_X6_thrown S (0 : Int32))) := hD
  refine lv_iload_n hx hb dX6_feed_5 rfl (lv_at hl 1 rfl) ?_
  refine lv_iconst (v := (0 : Int32)) hx hb dX6_feed_6 (by decide) ?_
  refine lv_sipush (v := (255 : Int32)) hx hb dX6_feed_7 (by decide) ?_
  obtain ⟨v1, g2, h⟩ := o_b h
  refine k_ro (va_runS (As := [.int x1, .int (0 : Int32), .int (255 : Int32)]) (rest := []) ⟨hx, hb, hml, hown, hts⟩ (c_X6_in l dC dI cI cF x1 (0 : Int32) (255 : Int32) v1 g2) (va_cwS 3 hts gX6_feed_X6_in rfl rfl rfl (by decide +kernel) ⟨Nat.le_of_ble_eq_true rfl, Nat.le_of_ble_eq_true rfl⟩) (k_prePU) rfl rfl hl.1 rfl (lv_room (Nat.le_of_ble_eq_true rfl)) dX6_feed_10 ⟨Nat.zero_le _, Nat.zero_le _⟩) (st1 := [.int v1]) rfl ?_
  refine lv_if_ne (tgt := 22) hx hb dX6_feed_13 (by decide) (fun c3 => ?_) (fun c3 => ?_)
  rotate_left
  · have h := o_t h c3
    refine lv_aload_n hx hb dX6_feed_16 rfl (lv_at hl 0 rfl) ?_
    refine lv_iconst (v := (1 : Int32)) hx hb dX6_feed_17 (by decide) ?_
    obtain ⟨v11, g12, h⟩ := o_b h
    refine k_rw (va_runV (As := [.int (1 : Int32)]) (rest := []) ⟨hx, hb, hml, hown, hts⟩ (c_X6_throwing l dC dI cI cF a (s_X6_thrown S (0 : Int32)) (1 : Int32) v11 g12 H.size) (cwV 1 hts gX6_feed_X6_throwing rfl rfl rfl (by decide +kernel) ⟨Nat.le_of_ble_eq_true rfl, Nat.le_of_ble_eq_true rfl⟩) (k_preVw (q0 := 0) (ci := 6) hK hP hD [0, 1, 2, 3, 4, 5] rfl rfl rfl rfl rfl) rfl rfl hl.1 rfl (lv_room (Nat.le_of_ble_eq_true rfl)) dX6_feed_18 ⟨Nat.zero_le _, Nat.zero_le _⟩) (st1 := [.int v11.1]) rfl hP hD hS hA [0, 1, 2, 3, 4, 5] rfl rfl (wn := wX6 a cI cF v11.2) rfl rfl rfl (fun H locs hP hD hS => ?_)
    have hu := Option.some.inj h
    exact W.iret (v := v11.1) hx hb hr (fun t ht hW => ⟨⟨congrArg (fun z => Outcome.returned (some (Value.int z.1))) hu, by rw [ht, ← hu]; exact hP⟩, hS.F ht⟩) hS.2.2 dX6_feed_21
  have h := o_f h c3
  refine lv_aload_n hx hb dX6_feed_22 rfl (lv_at hl 0 rfl) ?_
  obtain ⟨v4, g5, h⟩ := o_b h
  refine k_rw (va_runV (As := []) (rest := []) ⟨hx, hb, hml, hown, hts⟩ (c_X6_save l dC dI cI cF a (s_X6_thrown S (0 : Int32)) v4 g5 H.size) (cwV 0 hts gX6_feed_X6_save rfl rfl rfl (by decide +kernel) ⟨Nat.le_of_ble_eq_true rfl, Nat.le_of_ble_eq_true rfl⟩) (k_preVw (q0 := 0) (ci := 6) hK hP hD [0, 1, 2, 3, 4, 5] rfl rfl rfl rfl rfl) rfl rfl hl.1 rfl (lv_room (Nat.le_of_ble_eq_true rfl)) dX6_feed_23 ⟨Nat.zero_le _, Nat.zero_le _⟩) (st1 := []) rfl hP hD hS hA [0, 1, 2, 3, 4, 5] rfl rfl (wn := wX6 a cI cF v4) rfl rfl rfl (fun H locs hP hD hS => ?_)
  refine lv_aload_n hx hb dX6_feed_26 rfl (lv_at hl 0 rfl) ?_
  refine va_get (D := (dC, dI)) (ci := 6) (v := .ref (a 1)) (C := RX6) (T := TX6) (N := 11) hx hb huX6 (fun _ h9 => h9) hown hK hP 0 rfl rfl 0 (by decide) w7 (fun _ h9 => h9) rfl dX6_feed_27 ?_
  refine lv_sipush (v := (328 : Int32)) hx hb dX6_feed_30 (by decide) ?_
  refine va_iald hx hb hK hP 1 0 rfl rfl (by unfold vp_in; decide) dX6_feed_33 ?_
  obtain ⟨x2_6, e7, h⟩ := o_n h
  refine lv_nmi e7 ?_
  refine lv_istore_n (lv' := [(2, .int x2_6), (0, .ref (a 0)), (1, .int x1)]) hx hb dX6_feed_34 rfl hl (by decide) rfl (fun ls hl => ?_)
  refine lv_aload_n hx hb dX6_feed_35 rfl (lv_at hl 1 rfl) ?_
  refine va_get (D := (dC, dI)) (ci := 6) (v := .ref (a 1)) (C := RX6) (T := TX6) (N := 11) hx hb huX6 (fun _ h9 => h9) hown hK hP 0 rfl rfl 0 (by decide) w7 (fun _ h9 => h9) rfl dX6_feed_36 ?_
  refine lv_sipush (v := (328 : Int32)) hx hb dX6_feed_39 (by decide) ?_
  refine lv_iload_n hx hb dX6_feed_42 rfl (lv_at hl 2 rfl) ?_
  refine va_iast hx hb hK hP hD hS 1 0 rfl rfl (by unfold vp_in; decide) dX6_feed_43 (fun H locs hP hD hS => ?_)
  have hP : va_P (dC, dI) vwCl (wX6 a cI cF (s_X6_s v4 (upd (g_X6_s v4) (328 : Int32).toNatClampNeg x1))) H := hP
  have hD : va_D A (wX6 a cI cF (s_X6_s v4 (upd (g_X6_s v4) (328 : Int32).toNatClampNeg x1))) := hD
  refine lv_iload_n hx hb dX6_feed_44 rfl (lv_at hl 0 rfl) ?_
  refine lv_iload_n hx hb dX6_feed_45 rfl (lv_at hl 2 rfl) ?_
  refine lv_icmp_eq (tgt := 53) hx hb dX6_feed_46 (by decide) (fun c8 => ?_) (fun c8 => ?_)
  · have h := o_t h c8
    refine lv_iload_n hx hb dX6_feed_53 rfl (lv_at hl 0 rfl) ?_
    have hu := Option.some.inj h
    exact W.iret (v := x2_6) hx hb hr (fun t ht hW => ⟨⟨congrArg (fun z => Outcome.returned (some (Value.int z.1))) hu, by rw [ht, ← hu]; exact hP⟩, hS.F ht⟩) hS.2.2 dX6_feed_54
  have h := o_f h c8
  refine lv_aload_n hx hb dX6_feed_49 rfl (lv_at hl 1 rfl) ?_
  obtain ⟨v9, g10, h⟩ := o_b h
  refine k_rw (va_runV (As := []) (rest := []) ⟨hx, hb, hml, hown, hts⟩ (c_X6_forget l dC dI cI cF a (s_X6_s v4 (upd (g_X6_s v4) (328 : Int32).toNatClampNeg x1)) v9 g10 H.size) (cwV 0 hts gX6_feed_X6_forget rfl rfl rfl (by decide +kernel) ⟨Nat.le_of_ble_eq_true rfl, Nat.le_of_ble_eq_true rfl⟩) (k_preVw (q0 := 0) (ci := 6) hK hP hD [0, 1, 2, 3, 4, 5] rfl rfl rfl rfl rfl) rfl rfl hl.1 rfl (lv_room (Nat.le_of_ble_eq_true rfl)) dX6_feed_50 ⟨Nat.zero_le _, Nat.zero_le _⟩) (st1 := []) rfl hP hD hS hA [0, 1, 2, 3, 4, 5] rfl rfl (wn := wX6 a cI cF v9) rfl rfl rfl (fun H locs hP hD hS => ?_)
  refine lv_iload_n hx hb dX6_feed_53 rfl (lv_at hl 0 rfl) ?_
  have hu := Option.some.inj h
  exact W.iret (v := x2_6) hx hb hr (fun t ht hW => ⟨⟨congrArg (fun z => Outcome.returned (some (Value.int z.1))) hu, by rw [ht, ← hu]; exact hP⟩, hS.F ht⟩) hS.2.2 dX6_feed_54

