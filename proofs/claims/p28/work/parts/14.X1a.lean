-- X1_copyFrom X1_remember X1_forget X1_feedOf
def m_X1_copyFrom (S : S_X1) (S1 : S_X1) : Option (S_X1) := if (0 : Int32) < 0 ∨ (0 : Int32) < 0 ∨ (7 : Int32) < 0 ∨ 7 < (0 : Int32).toNatClampNeg + (7 : Int32).toNatClampNeg ∨ 7 < (0 : Int32).toNatClampNeg + (7 : Int32).toNatClampNeg then none else (some (s_X1_remembered (s_X1_feeds S (va_cpy (g_X1_feeds S1) (g_X1_feeds S) (0 : Int32).toNatClampNeg (0 : Int32).toNatClampNeg (7 : Int32).toNatClampNeg)) (g_X1_remembered S1)))
set_option maxHeartbeats 4000000 in
set_option maxRecDepth 100000 in
theorem c_X1_copyFrom (l : Launch) (dC : Nat → ClassId) (dI : Nat → Nat → Nat) (cI cF : ClassId) (a : Nat → Nat) (b : Nat → Nat) (S : S_X1) (S1 : S_X1) (u : S_X1) (h : m_X1_copyFrom S S1 = some u) : cRW l (dC, dI) cI cF yX1_copyFrom wsX1_copyFrom ({ frames := 1, cells := 0, slots := 0, locals := 60 } : Room) [.ref (a 0), .ref (b 0)] (wX1 a cI cF S ++ wX1 b cI cF S1) (wX1 a cI cF u ++ wX1 b cI cF S1) (none) := by
  intro sz
  refine Met.ofW (cc := cX1_copyFrom) (maxL := 2) (ret := none) (by decide) rfl ?_
  intro p e s m args below meth c s₁ B hml hv
  obtain ⟨hargs, hsz, hP, hK, hD0⟩ := hv
  subst hargs
  have hx := B.exec
  have hb := B.bytes
  have hr := B.returns
  have hts := atoms_spec (ws := wsX1_copyFrom) B.pre
  have hown : s.vm.findClass RX1 = some m.cls := findClass_of_methodNamed B.named
  have hlocks := B.notSynchronized
  have w15 := hts (.fieldLink RX1 15 "DrawnSlivers$Feeler" "remembered" "I") (List.mem_of_getElem? (i := 10) rfl)
  have w19 := hts (.methodLink RX1 19 Lib.Math.min.name) (List.mem_of_getElem? (i := 2) rfl)
  have w25 := hts (.methodLink RX1 25 arraycopyName) (List.mem_of_getElem? (i := 6) rfl)
  have w9 := hts (.fieldLink RX1 9 "DrawnSlivers$Feeler" "feeds" "[I") (List.mem_of_getElem? (i := 1) rfl)
  have wci := hts (.initialized "java/lang/System") (List.mem_of_getElem? (i := 9) rfl)
  have wcn := hts (.native arraycopyName) (List.mem_of_getElem? (i := 7) rfl)
  have wcs := hts (.static arraycopyName) (List.mem_of_getElem? (i := 8) rfl)
  have wlmi := hts (.initialized "java/lang/Math") (List.mem_of_getElem? (i := 4) rfl)
  have wlminc := hts (.code Lib.Math.min.name Lib.Math.min.code 2 (some .int)) (List.mem_of_getElem? (i := 5) rfl)
  have wlmins := hts (.static Lib.Math.min.name) (List.mem_of_getElem? (i := 3) rfl)
  have huX1 : ∀ w ∈ u_ws RX1 TX1 2, w.before _ s = true := fun w h => hts w (List.mem_cons_of_mem _ (List.mem_append_right _ (h)))
  subst hsz
  have hD := hD0.self (sz := s.heap.size)
  generalize hAe : va_A (wX1 a cI cF S ++ wX1 b cI cF S1) s.heap.size = A at hD ⊢
  have hA : ∀ q : Nat, s.heap.size ≤ q → A q := fun q h => by rw [← hAe]; exact Or.inr h
  have hS : va_S A s.heap s.heap [] := va_S.rf
  have hl := lv_entry ([.ref (a 0), .ref (b 0)]) (n := 2) (Nat.le_of_ble_eq_true rfl)
  rw [lg_entry_eq]
  generalize (lg_sl ([.ref (a 0), .ref (b 0)]) ++ List.replicate (2 - (lg_sl ([.ref (a 0), .ref (b 0)])).length) Slot.unset).toArray = ls at hl ⊢
  have hl : lv_has ls 2 [(0, .ref (a 0)), (1, .ref (b 0))] := hl
  rw [m_X1_copyFrom] at h
  refine lv_aload_n hx hb dX1_copyFrom_0 rfl (lv_at hl 1 rfl) ?_
  refine va_get (D := (dC, dI)) (ci := 1) (v := .ref (b 1)) (C := RX1) (T := TX1) (N := 2) hx hb huX1 (fun _ h9 => h9) hown hK hP 2 rfl rfl 0 (by decide) w9 (fun _ h9 => h9) rfl dX1_copyFrom_1 ?_
  refine lv_iconst (v := (0 : Int32)) hx hb dX1_copyFrom_4 (by decide) ?_
  refine lv_aload_n hx hb dX1_copyFrom_5 rfl (lv_at hl 0 rfl) ?_
  refine va_get (D := (dC, dI)) (ci := 1) (v := .ref (a 1)) (C := RX1) (T := TX1) (N := 2) hx hb huX1 (fun _ h9 => h9) hown hK hP 0 rfl rfl 0 (by decide) w9 (fun _ h9 => h9) rfl dX1_copyFrom_6 ?_
  refine lv_iconst (v := (0 : Int32)) hx hb dX1_copyFrom_9 (by decide) ?_
  refine lv_aload_n hx hb dX1_copyFrom_10 rfl (lv_at hl 1 rfl) ?_
  refine va_get (D := (dC, dI)) (ci := 1) (v := .ref (b 1)) (C := RX1) (T := TX1) (N := 2) hx hb huX1 (fun _ h9 => h9) hown hK hP 2 rfl rfl 0 (by decide) w9 (fun _ h9 => h9) rfl dX1_copyFrom_11 ?_
  refine va_alen (v := 7) hx hb hK hP 3 0 rfl rfl rfl dX1_copyFrom_14 ?_
  refine lv_aload_n hx hb dX1_copyFrom_15 rfl (lv_at hl 0 rfl) ?_
  refine va_get (D := (dC, dI)) (ci := 1) (v := .ref (a 1)) (C := RX1) (T := TX1) (N := 2) hx hb huX1 (fun _ h9 => h9) hown hK hP 0 rfl rfl 0 (by decide) w9 (fun _ h9 => h9) rfl dX1_copyFrom_16 ?_
  refine va_alen (v := 7) hx hb hK hP 1 0 rfl rfl rfl dX1_copyFrom_19 ?_
  refine va_mmin hx hb (by rw [hml]; exact hl.1.symm) hown w19 wlmins wlmi wlminc (Nat.le_of_ble_eq_true rfl) (Nat.le_of_ble_eq_true rfl) (Nat.zero_le _) (Nat.zero_le _) dX1_copyFrom_20 ?_
  refine lv_nmi (y := (7 : Int32)) (by decide) ?_
  obtain ⟨i1, h⟩ := o_in h
  refine va_copyi hx hb (by rw [hml]; exact hl.1.symm) hown w25 wcn wcs wci hK hP hD hS 3 1 0 0 rfl rfl rfl rfl rfl (k_cp0 i1) (k_cp1 i1) (k_cp2 i1) (k_cp3 i1) (k_cp4 i1) (fun _ _ => rfl) (Nat.le_of_ble_eq_true rfl) (by decide) dX1_copyFrom_23 (fun H locs hP hD hS => ?_)
  have hP : va_P (dC, dI) vwCl (wX1 a cI cF (s_X1_feeds S (va_cpy (g_X1_feeds S1) (g_X1_feeds S) (0 : Int32).toNatClampNeg (0 : Int32).toNatClampNeg (7 : Int32).toNatClampNeg)) ++ wX1 b cI cF S1) H := hP
  have hD : va_D A (wX1 a cI cF (s_X1_feeds S (va_cpy (g_X1_feeds S1) (g_X1_feeds S) (0 : Int32).toNatClampNeg (0 : Int32).toNatClampNeg (7 : Int32).toNatClampNeg)) ++ wX1 b cI cF S1) := hD
  refine lv_aload_n hx hb dX1_copyFrom_26 rfl (lv_at hl 0 rfl) ?_
  refine lv_aload_n hx hb dX1_copyFrom_27 rfl (lv_at hl 1 rfl) ?_
  refine va_get (D := (dC, dI)) (ci := 1) (v := .int (g_X1_remembered S1)) (C := RX1) (T := TX1) (N := 2) hx hb huX1 (fun _ h9 => h9) hown hK hP 2 rfl rfl 1 (by decide) w15 (fun _ h9 => h9) rfl dX1_copyFrom_28 ?_
  refine va_put (D := (dC, dI)) (ci := 1) (v := .int (g_X1_remembered S1)) (ty := .int) (C := RX1) (T := TX1) (N := 2) hx hb huX1 (fun _ h9 => h9) tyX1 tyX1_ok nmX1 hown hK hP hD hS 0 rfl rfl 1 (by decide) w15 (fun _ h9 => h9) rfl (by decide +kernel) rfl rfl (Nat.le_of_ble_eq_true rfl) dX1_copyFrom_31 (fun H locs hP hD hS => ?_)
  have hP : va_P (dC, dI) vwCl (wX1 a cI cF (s_X1_remembered (s_X1_feeds S (va_cpy (g_X1_feeds S1) (g_X1_feeds S) (0 : Int32).toNatClampNeg (0 : Int32).toNatClampNeg (7 : Int32).toNatClampNeg)) (g_X1_remembered S1)) ++ wX1 b cI cF S1) H := hP
  have hD : va_D A (wX1 a cI cF (s_X1_remembered (s_X1_feeds S (va_cpy (g_X1_feeds S1) (g_X1_feeds S) (0 : Int32).toNatClampNeg (0 : Int32).toNatClampNeg (7 : Int32).toNatClampNeg)) (g_X1_remembered S1)) ++ wX1 b cI cF S1) := hD
  have hu := Option.some.inj h
  exact W.vret hx hb hr (fun t ht hW => ⟨⟨rfl, by rw [ht, ← hu]; exact hP⟩, hS.F ht⟩) hS.2.2 dX1_copyFrom_34

def m_X1_remember_L37 (S : S_X1) : Option (S_X1) := some (s_X1_remembered S (if (7 : Int32) < ((g_X1_remembered S) + (1 : Int32)) then (7 : Int32) else (g_X1_remembered S) + (1 : Int32)))
def m_X1_remember_L4 : Nat → Int32 → Int32 → S_X1 → Option (S_X1)
  | 0, _, _, _ => none
  | n + 1, y2, y3, S => if (7 : Int32) ≤ y3 then (m_X1_remember_L37 S) else (if y3 < 0 ∨ 7 ≤ y3.toNatClampNeg then none else (nmL ((g_X1_feeds S) y3.toNatClampNeg) fun x4_3 => (if y3 < 0 ∨ 7 ≤ y3.toNatClampNeg then none else (nmL (y3 + 1) fun x3_6 => ((m_X1_remember_L4 n) x4_3 x3_6 (s_X1_feeds S (upd (g_X1_feeds S) y3.toNatClampNeg y2)))))))
def m_X1_remember (S : S_X1) (x1 : Int32) : Option (S_X1) := m_X1_remember_L4 4000 x1 (0 : Int32) S
set_option maxHeartbeats 4000000 in
set_option maxRecDepth 100000 in
theorem c_X1_remember (l : Launch) (dC : Nat → ClassId) (dI : Nat → Nat → Nat) (cI cF : ClassId) (a : Nat → Nat) (S : S_X1) (x1 : Int32) (u : S_X1) (h : m_X1_remember S x1 = some u) : cRW l (dC, dI) cI cF yX1_remember wsX1_remember ({ frames := 1, cells := 0, slots := 0, locals := 40 } : Room) [.ref (a 0), .int x1] (wX1 a cI cF S) (wX1 a cI cF u) (none) := by
  intro sz
  refine Met.ofW (cc := cX1_remember) (maxL := 5) (ret := none) (by decide) rfl ?_
  intro p e s m args below meth c s₁ B hml hv
  obtain ⟨hargs, hsz, hP, hK, hD0⟩ := hv
  subst hargs
  have hx := B.exec
  have hb := B.bytes
  have hr := B.returns
  have hts := atoms_spec (ws := wsX1_remember) B.pre
  have hown : s.vm.findClass RX1 = some m.cls := findClass_of_methodNamed B.named
  have hlocks := B.notSynchronized
  have w15 := hts (.fieldLink RX1 15 "DrawnSlivers$Feeler" "remembered" "I") (List.mem_of_getElem? (i := 2) rfl)
  have w19 := hts (.methodLink RX1 19 Lib.Math.min.name) (List.mem_of_getElem? (i := 3) rfl)
  have w9 := hts (.fieldLink RX1 9 "DrawnSlivers$Feeler" "feeds" "[I") (List.mem_of_getElem? (i := 1) rfl)
  have wlmi := hts (.initialized "java/lang/Math") (List.mem_of_getElem? (i := 5) rfl)
  have wlminc := hts (.code Lib.Math.min.name Lib.Math.min.code 2 (some .int)) (List.mem_of_getElem? (i := 6) rfl)
  have wlmins := hts (.static Lib.Math.min.name) (List.mem_of_getElem? (i := 4) rfl)
  have huX1 : ∀ w ∈ u_ws RX1 TX1 2, w.before _ s = true := fun w h => hts w (List.mem_cons_of_mem _ (List.mem_append_right _ (h)))
  subst hsz
  have hD := hD0.self (sz := s.heap.size)
  generalize hAe : va_A (wX1 a cI cF S) s.heap.size = A at hD ⊢
  have hA : ∀ q : Nat, s.heap.size ≤ q → A q := fun q h => by rw [← hAe]; exact Or.inr h
  have hS : va_S A s.heap s.heap [] := va_S.rf
  have L37 : ∀ (S : S_X1), m_X1_remember_L37 S = some u → ∀ (H : Heap) (locs : List Loc), va_P (dC, dI) vwCl (wX1 a cI cF S) H → va_D A (wX1 a cI cF S) → va_S A s.heap H locs → ∀ (ls : Array Slot), lv_has ls 5 [(0, .ref (a 0))] → W p l e (headSpec wsX1_remember ({ frames := 1, cells := 0, slots := 0, locals := 40 } : Room)).room s m ([.ref (a 0), .int x1] : List Value).toArray below meth c H locs 0 0 (MQ below (qRW (dC, dI) (wX1 a cI cF u) (none) A) ([.ref (a 0), .int x1] : List Value).toArray s 0 0 A) (F0 m 37 ls []) := by
    intro  S h H locs hP hD hS ls hl
    rw [m_X1_remember_L37] at h
    refine lv_aload_n hx hb dX1_remember_37 rfl (lv_at hl 0 rfl) ?_
    refine lv_aload_n hx hb dX1_remember_38 rfl (lv_at hl 0 rfl) ?_
    refine va_get (D := (dC, dI)) (ci := 1) (v := .int (g_X1_remembered S)) (C := RX1) (T := TX1) (N := 2) hx hb huX1 (fun _ h9 => h9) hown hK hP 0 rfl rfl 1 (by decide) w15 (fun _ h9 => h9) rfl dX1_remember_39 ?_
    refine lv_iconst (v := (1 : Int32)) hx hb dX1_remember_42 (by decide) ?_
    refine lv_iadd hx hb dX1_remember_43 ?_
    refine lv_aload_n hx hb dX1_remember_44 rfl (lv_at hl 0 rfl) ?_
    refine va_get (D := (dC, dI)) (ci := 1) (v := .ref (a 1)) (C := RX1) (T := TX1) (N := 2) hx hb huX1 (fun _ h9 => h9) hown hK hP 0 rfl rfl 0 (by decide) w9 (fun _ h9 => h9) rfl dX1_remember_45 ?_
    refine va_alen (v := 7) hx hb hK hP 1 0 rfl rfl rfl dX1_remember_48 ?_
    refine va_mmin hx hb (by rw [hml]; exact hl.1.symm) hown w19 wlmins wlmi wlminc (Nat.le_of_ble_eq_true rfl) (Nat.le_of_ble_eq_true rfl) (Nat.zero_le _) (Nat.zero_le _) dX1_remember_49 ?_
    refine va_put (D := (dC, dI)) (ci := 1) (v := .int (if (7 : Int32) < ((g_X1_remembered S) + (1 : Int32)) then (7 : Int32) else (g_X1_remembered S) + (1 : Int32))) (ty := .int) (C := RX1) (T := TX1) (N := 2) hx hb huX1 (fun _ h9 => h9) tyX1 tyX1_ok nmX1 hown hK hP hD hS 0 rfl rfl 1 (by decide) w15 (fun _ h9 => h9) rfl (by decide +kernel) rfl rfl (Nat.le_of_ble_eq_true rfl) dX1_remember_52 (fun H locs hP hD hS => ?_)
    have hP : va_P (dC, dI) vwCl (wX1 a cI cF (s_X1_remembered S (if (7 : Int32) < ((g_X1_remembered S) + (1 : Int32)) then (7 : Int32) else (g_X1_remembered S) + (1 : Int32)))) H := hP
    have hD : va_D A (wX1 a cI cF (s_X1_remembered S (if (7 : Int32) < ((g_X1_remembered S) + (1 : Int32)) then (7 : Int32) else (g_X1_remembered S) + (1 : Int32)))) := hD
    have hu := Option.some.inj h
    exact W.vret hx hb hr (fun t ht hW => ⟨⟨rfl, by rw [ht, ← hu]; exact hP⟩, hS.F ht⟩) hS.2.2 dX1_remember_55
  have L4 : ∀ (n : Nat), ∀ (y2 : Int32) (y3 : Int32) (S : S_X1), m_X1_remember_L4 n y2 y3 S = some u → ∀ (H : Heap) (locs : List Loc), va_P (dC, dI) vwCl (wX1 a cI cF S) H → va_D A (wX1 a cI cF S) → va_S A s.heap H locs → ∀ (ls : Array Slot), lv_has ls 5 [(0, .ref (a 0)), (2, .int y2), (3, .int y3)] → W p l e (headSpec wsX1_remember ({ frames := 1, cells := 0, slots := 0, locals := 40 } : Room)).room s m ([.ref (a 0), .int x1] : List Value).toArray below meth c H locs 0 0 (MQ below (qRW (dC, dI) (wX1 a cI cF u) (none) A) ([.ref (a 0), .int x1] : List Value).toArray s 0 0 A) (F0 m 4 ls []) := by
    intro  n
    induction n with
    | zero =>
      intro y2 y3 S h
      exact (o_0 h).elim
    | succ n ih4 =>
      intro y2 y3 S h H locs hP hD hS ls hl
      rw [m_X1_remember_L4] at h
      refine lv_iload_n hx hb dX1_remember_4 rfl (lv_at hl 2 rfl) ?_
      refine lv_aload_n hx hb dX1_remember_5 rfl (lv_at hl 0 rfl) ?_
      refine va_get (D := (dC, dI)) (ci := 1) (v := .ref (a 1)) (C := RX1) (T := TX1) (N := 2) hx hb huX1 (fun _ h9 => h9) hown hK hP 0 rfl rfl 0 (by decide) w9 (fun _ h9 => h9) rfl dX1_remember_6 ?_
      refine va_alen (v := 7) hx hb hK hP 1 0 rfl rfl rfl dX1_remember_9 ?_
      refine lv_icmp_ge (tgt := 37) hx hb dX1_remember_10 (by decide) (fun c1 => ?_) (fun c1 => ?_)
      · have h := o_t h c1
        exact L37 _ h _ _ hP hD hS _ (lv_sub hl [0] rfl)
      have h := o_f h c1
      refine lv_aload_n hx hb dX1_remember_13 rfl (lv_at hl 0 rfl) ?_
      refine va_get (D := (dC, dI)) (ci := 1) (v := .ref (a 1)) (C := RX1) (T := TX1) (N := 2) hx hb huX1 (fun _ h9 => h9) hown hK hP 0 rfl rfl 0 (by decide) w9 (fun _ h9 => h9) rfl dX1_remember_14 ?_
      refine lv_iload_n hx hb dX1_remember_17 rfl (lv_at hl 2 rfl) ?_
      obtain ⟨i2, h⟩ := o_in h
      refine va_iald hx hb hK hP 1 0 rfl rfl i2 dX1_remember_18 ?_
      obtain ⟨x4_3, e4, h⟩ := o_n h
      refine lv_nmi e4 ?_
      refine lv_istore (lv' := [(4, .int x4_3), (0, .ref (a 0)), (2, .int y2), (3, .int y3)]) hx hb dX1_remember_19 hl (by decide) rfl (fun ls hl => ?_)
      refine lv_aload_n hx hb dX1_remember_21 rfl (lv_at hl 1 rfl) ?_
      refine va_get (D := (dC, dI)) (ci := 1) (v := .ref (a 1)) (C := RX1) (T := TX1) (N := 2) hx hb huX1 (fun _ h9 => h9) hown hK hP 0 rfl rfl 0 (by decide) w9 (fun _ h9 => h9) rfl dX1_remember_22 ?_
      refine lv_iload_n hx hb dX1_remember_25 rfl (lv_at hl 3 rfl) ?_
      refine lv_iload_n hx hb dX1_remember_26 rfl (lv_at hl 2 rfl) ?_
      obtain ⟨i5, h⟩ := o_in h
      refine va_iast hx hb hK hP hD hS 1 0 rfl rfl i5 dX1_remember_27 (fun H locs hP hD hS => ?_)
      have hP : va_P (dC, dI) vwCl (wX1 a cI cF (s_X1_feeds S (upd (g_X1_feeds S) y3.toNatClampNeg y2))) H := hP
      have hD : va_D A (wX1 a cI cF (s_X1_feeds S (upd (g_X1_feeds S) y3.toNatClampNeg y2))) := hD
      refine lv_iload hx hb dX1_remember_28 (lv_at hl 0 rfl) ?_
      refine lv_istore_n (lv' := [(2, .int x4_3), (4, .int x4_3), (0, .ref (a 0)), (3, .int y3)]) hx hb dX1_remember_30 rfl hl (by decide) rfl (fun ls hl => ?_)
      obtain ⟨x3_6, e7, h⟩ := o_n h
      refine lv_iinc (v := x3_6) (lv' := [(3, .int x3_6), (2, .int x4_3), (4, .int x4_3), (0, .ref (a 0))]) hx hb dX1_remember_31 hl (k := 3) rfl (by rw [e7]; rfl) (by decide) rfl (fun ls hl => ?_)
      refine lv_goto (tgt := 4) hx hb dX1_remember_34 (by decide) ?_
      exact ih4 _ _ _ h _ _ hP hD hS _ (lv_sub hl [3, 1, 0] rfl)
  have hl := lv_entry ([.ref (a 0), .int x1]) (n := 5) (Nat.le_of_ble_eq_true rfl)
  rw [lg_entry_eq]
  generalize (lg_sl ([.ref (a 0), .int x1]) ++ List.replicate (5 - (lg_sl ([.ref (a 0), .int x1])).length) Slot.unset).toArray = ls at hl ⊢
  have hl : lv_has ls 5 [(0, .ref (a 0)), (1, .int x1)] := hl
  rw [m_X1_remember] at h
  refine lv_iload_n hx hb dX1_remember_0 rfl (lv_at hl 1 rfl) ?_
  refine lv_istore_n (lv' := [(2, .int x1), (0, .ref (a 0)), (1, .int x1)]) hx hb dX1_remember_1 rfl hl (by decide) rfl (fun ls hl => ?_)
  refine lv_iconst (v := (0 : Int32)) hx hb dX1_remember_2 (by decide) ?_
  refine lv_istore_n (lv' := [(3, .int (0 : Int32)), (2, .int x1), (0, .ref (a 0)), (1, .int x1)]) hx hb dX1_remember_3 rfl hl (by decide) rfl (fun ls hl => ?_)
  exact L4 _ _ _ _ h _ _ hP hD hS _ (lv_sub hl [2, 1, 0] rfl)

def m_X1_forget (S : S_X1) : Option (S_X1) := some (s_X1_remembered S (0 : Int32))
set_option maxHeartbeats 4000000 in
set_option maxRecDepth 100000 in
theorem c_X1_forget (l : Launch) (dC : Nat → ClassId) (dI : Nat → Nat → Nat) (cI cF : ClassId) (a : Nat → Nat) (S : S_X1) (u : S_X1) (h : m_X1_forget S = some u) : cRW l (dC, dI) cI cF yX1_forget wsX1_forget ({ frames := 0, cells := 0, slots := 0, locals := 0 } : Room) [.ref (a 0)] (wX1 a cI cF S) (wX1 a cI cF u) (none) := by
  intro sz
  refine Met.ofW (cc := cX1_forget) (maxL := 1) (ret := none) (by decide) rfl ?_
  intro p e s m args below meth c s₁ B hml hv
  obtain ⟨hargs, hsz, hP, hK, hD0⟩ := hv
  subst hargs
  have hx := B.exec
  have hb := B.bytes
  have hr := B.returns
  have hts := atoms_spec (ws := wsX1_forget) B.pre
  have hown : s.vm.findClass RX1 = some m.cls := findClass_of_methodNamed B.named
  have hlocks := B.notSynchronized
  have w15 := hts (.fieldLink RX1 15 "DrawnSlivers$Feeler" "remembered" "I") (List.mem_of_getElem? (i := 1) rfl)
  have huX1 : ∀ w ∈ u_ws RX1 TX1 2, w.before _ s = true := fun w h => hts w (List.mem_cons_of_mem _ (List.mem_append_right _ (h)))
  subst hsz
  have hD := hD0.self (sz := s.heap.size)
  generalize hAe : va_A (wX1 a cI cF S) s.heap.size = A at hD ⊢
  have hA : ∀ q : Nat, s.heap.size ≤ q → A q := fun q h => by rw [← hAe]; exact Or.inr h
  have hS : va_S A s.heap s.heap [] := va_S.rf
  have hl := lv_entry ([.ref (a 0)]) (n := 1) (Nat.le_of_ble_eq_true rfl)
  rw [lg_entry_eq]
  generalize (lg_sl ([.ref (a 0)]) ++ List.replicate (1 - (lg_sl ([.ref (a 0)])).length) Slot.unset).toArray = ls at hl ⊢
  have hl : lv_has ls 1 [(0, .ref (a 0))] := hl
  rw [m_X1_forget] at h
  refine lv_aload_n hx hb dX1_forget_0 rfl (lv_at hl 0 rfl) ?_
  refine lv_iconst (v := (0 : Int32)) hx hb dX1_forget_1 (by decide) ?_
  refine va_put (D := (dC, dI)) (ci := 1) (v := .int (0 : Int32)) (ty := .int) (C := RX1) (T := TX1) (N := 2) hx hb huX1 (fun _ h9 => h9) tyX1 tyX1_ok nmX1 hown hK hP hD hS 0 rfl rfl 1 (by decide) w15 (fun _ h9 => h9) rfl (by decide +kernel) rfl rfl (Nat.le_of_ble_eq_true rfl) dX1_forget_2 (fun H locs hP hD hS => ?_)
  have hP : va_P (dC, dI) vwCl (wX1 a cI cF (s_X1_remembered S (0 : Int32))) H := hP
  have hD : va_D A (wX1 a cI cF (s_X1_remembered S (0 : Int32))) := hD
  have hu := Option.some.inj h
  exact W.vret hx hb hr (fun t ht hW => ⟨⟨rfl, by rw [ht, ← hu]; exact hP⟩, hS.F ht⟩) hS.2.2 dX1_forget_5

def m_X1_feedOf (S : S_X1) (x1 : Int32) : Option (Int32) := if x1 < 0 then (some (-1 : Int32)) else (if (g_X1_remembered S) ≤ x1 then (some (-1 : Int32)) else (if (7 : Int32) ≤ x1 then (some (-1 : Int32)) else (if x1 < 0 ∨ 7 ≤ x1.toNatClampNeg then none else (some ((g_X1_feeds S) x1.toNatClampNeg)))))
set_option maxHeartbeats 4000000 in
set_option maxRecDepth 100000 in
theorem c_X1_feedOf (l : Launch) (dC : Nat → ClassId) (dI : Nat → Nat → Nat) (cI cF : ClassId) (a : Nat → Nat) (S : S_X1) (x1 : Int32) (u : Int32) (h : m_X1_feedOf S x1 = some u) : cRO l (dC, dI) cI cF yX1_feedOf wsX1_feedOf ({ frames := 0, cells := 0, slots := 0, locals := 0 } : Room) [.ref (a 0), .int x1] (wX1 a cI cF S) (some (.int u)) := by
  refine Met.ofW (cc := cX1_feedOf) (maxL := 2) (ret := (some .int)) (by decide) rfl ?_
  intro p e s m args below meth c s₁ B hml hv
  obtain ⟨hargs, hP, hK⟩ := hv
  subst hargs
  have hx := B.exec
  have hb := B.bytes
  have hr := B.returns
  have hts := atoms_spec (ws := wsX1_feedOf) B.pre
  have hown : s.vm.findClass RX1 = some m.cls := findClass_of_methodNamed B.named
  have hlocks := B.notSynchronized
  have w15 := hts (.fieldLink RX1 15 "DrawnSlivers$Feeler" "remembered" "I") (List.mem_of_getElem? (i := 1) rfl)
  have w9 := hts (.fieldLink RX1 9 "DrawnSlivers$Feeler" "feeds" "[I") (List.mem_of_getElem? (i := 2) rfl)
  have huX1 : ∀ w ∈ u_ws RX1 TX1 2, w.before _ s = true := fun w h => hts w (List.mem_cons_of_mem _ (List.mem_append_right _ (h)))
  have hl := lv_entry ([.ref (a 0), .int x1]) (n := 2) (Nat.le_of_ble_eq_true rfl)
  rw [lg_entry_eq]
  generalize (lg_sl ([.ref (a 0), .int x1]) ++ List.replicate (2 - (lg_sl ([.ref (a 0), .int x1])).length) Slot.unset).toArray = ls at hl ⊢
  have hl : lv_has ls 2 [(0, .ref (a 0)), (1, .int x1)] := hl
  rw [m_X1_feedOf] at h
  refine lv_iload_n hx hb dX1_feedOf_0 rfl (lv_at hl 1 rfl) ?_
  refine lv_if_lt (tgt := 30) hx hb dX1_feedOf_1 (by decide) (fun c1 => ?_) (fun c1 => ?_)
  · have h := o_t h c1
    refine lv_iconst (v := (-1 : Int32)) hx hb dX1_feedOf_30 (by decide) ?_
    have hu := Option.some.inj h
    exact W.iret (v := (-1 : Int32)) hx hb hr (fun t ht hW => ⟨congrArg (fun z => Outcome.returned (some (Value.int z))) hu, ht⟩) (fun q hq => absurd hq List.not_mem_nil) dX1_feedOf_31
  have h := o_f h c1
  refine lv_iload_n hx hb dX1_feedOf_4 rfl (lv_at hl 1 rfl) ?_
  refine lv_aload_n hx hb dX1_feedOf_5 rfl (lv_at hl 0 rfl) ?_
  refine va_get (D := (dC, dI)) (ci := 1) (v := .int (g_X1_remembered S)) (C := RX1) (T := TX1) (N := 2) hx hb huX1 (fun _ h9 => h9) hown hK hP 0 rfl rfl 1 (by decide) w15 (fun _ h9 => h9) rfl dX1_feedOf_6 ?_
  refine lv_icmp_ge (tgt := 30) hx hb dX1_feedOf_9 (by decide) (fun c2 => ?_) (fun c2 => ?_)
  · have h := o_t h c2
    refine lv_iconst (v := (-1 : Int32)) hx hb dX1_feedOf_30 (by decide) ?_
    have hu := Option.some.inj h
    exact W.iret (v := (-1 : Int32)) hx hb hr (fun t ht hW => ⟨congrArg (fun z => Outcome.returned (some (Value.int z))) hu, ht⟩) (fun q hq => absurd hq List.not_mem_nil) dX1_feedOf_31
  have h := o_f h c2
  refine lv_iload_n hx hb dX1_feedOf_12 rfl (lv_at hl 1 rfl) ?_
  refine lv_aload_n hx hb dX1_feedOf_13 rfl (lv_at hl 0 rfl) ?_
  refine va_get (D := (dC, dI)) (ci := 1) (v := .ref (a 1)) (C := RX1) (T := TX1) (N := 2) hx hb huX1 (fun _ h9 => h9) hown hK hP 0 rfl rfl 0 (by decide) w9 (fun _ h9 => h9) rfl dX1_feedOf_14 ?_
  refine va_alen (v := 7) hx hb hK hP 1 0 rfl rfl rfl dX1_feedOf_17 ?_
  refine lv_icmp_ge (tgt := 30) hx hb dX1_feedOf_18 (by decide) (fun c3 => ?_) (fun c3 => ?_)
  · have h := o_t h c3
    refine lv_iconst (v := (-1 : Int32)) hx hb dX1_feedOf_30 (by decide) ?_
    have hu := Option.some.inj h
    exact W.iret (v := (-1 : Int32)) hx hb hr (fun t ht hW => ⟨congrArg (fun z => Outcome.returned (some (Value.int z))) hu, ht⟩) (fun q hq => absurd hq List.not_mem_nil) dX1_feedOf_31
  have h := o_f h c3
  refine lv_aload_n hx hb dX1_feedOf_21 rfl (lv_at hl 0 rfl) ?_
  refine va_get (D := (dC, dI)) (ci := 1) (v := .ref (a 1)) (C := RX1) (T := TX1) (N := 2) hx hb huX1 (fun _ h9 => h9) hown hK hP 0 rfl rfl 0 (by decide) w9 (fun _ h9 => h9) rfl dX1_feedOf_22 ?_
  refine lv_iload_n hx hb dX1_feedOf_25 rfl (lv_at hl 1 rfl) ?_
  obtain ⟨i4, h⟩ := o_in h
  refine va_iald hx hb hK hP 1 0 rfl rfl i4 dX1_feedOf_26 ?_
  refine lv_goto (tgt := 31) hx hb dX1_feedOf_27 (by decide) ?_
  have hu := Option.some.inj h
  exact W.iret (v := (g_X1_feeds S) x1.toNatClampNeg) hx hb hr (fun t ht hW => ⟨congrArg (fun z => Outcome.returned (some (Value.int z))) hu, ht⟩) (fun q hq => absurd hq List.not_mem_nil) dX1_feedOf_31

