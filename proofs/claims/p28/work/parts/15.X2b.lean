-- X2_advance
def m_X2_advance_L2 : Nat → Int32 → Int32 → S_X2 → Option (Int32 × S_X2)
  | 0, _, _, _ => none
  | n + 1, y1, y2, S => if y1 ≤ y2 then (some (y1, S)) else ((m_X2_whyNot S).bind fun v2 => (if v2 = 0 then ((m_X2_makeStep S).bind fun v5 => (nmL (y2 + 1) fun x2_7 => ((m_X2_advance_L2 n) y1 x2_7 v5))) else (some (y2, S))))
def m_X2_advance (S : S_X2) (x1 : Int32) : Option (Int32 × S_X2) := m_X2_advance_L2 4000 x1 (0 : Int32) S
set_option maxHeartbeats 4000000 in
set_option maxRecDepth 100000 in
theorem c_X2_advance (l : Launch) (dC : Nat → ClassId) (dI : Nat → Nat → Nat) (cI cF : ClassId) (a : Nat → Nat) (S : S_X2) (x1 : Int32) (u : Int32 × S_X2) (h : m_X2_advance S x1 = some u) : cRW l (dC, dI) cI cF yX2_advance wsX2_advance ({ frames := 4, cells := 0, slots := 0, locals := 130 } : Room) [.ref (a 0), .int x1] (wX2 a cI cF S) (wX2 a cI cF u.2) (some (.int u.1)) := by
  intro sz
  refine Met.ofW (cc := cX2_advance) (maxL := 3) (ret := (some .int)) (by decide) rfl ?_
  intro p e s m args below meth c s₁ B hml hv
  obtain ⟨hargs, hsz, hP, hK, hD0⟩ := hv
  subst hargs
  have hx := B.exec
  have hb := B.bytes
  have hr := B.returns
  have hts := atoms_spec (ws := wsX2_advance) B.pre
  have hown : s.vm.findClass RX2 = some m.cls := findClass_of_methodNamed B.named
  have hlocks := B.notSynchronized
  have w102 := hts (.methodLink RX2 102 yX2_makeStep) (List.mem_of_getElem? (i := 58) rfl)
  have w99 := hts (.methodLink RX2 99 yX2_whyNot) (List.mem_of_getElem? (i := 1) rfl)
  subst hsz
  have hD := hD0.self (sz := s.heap.size)
  generalize hAe : va_A (wX2 a cI cF S) s.heap.size = A at hD ⊢
  have hA : ∀ q : Nat, s.heap.size ≤ q → A q := fun q h => by rw [← hAe]; exact Or.inr h
  have hS : va_S A s.heap s.heap [] := va_S.rf
  have L2 : ∀ (n : Nat), ∀ (y1 : Int32) (y2 : Int32) (S : S_X2), m_X2_advance_L2 n y1 y2 S = some u → ∀ (H : Heap) (locs : List Loc), va_P (dC, dI) vwCl (wX2 a cI cF S) H → va_D A (wX2 a cI cF S) → va_S A s.heap H locs → ∀ (ls : Array Slot), lv_has ls 3 [(0, .ref (a 0)), (1, .int y1), (2, .int y2)] → W p l e (headSpec wsX2_advance ({ frames := 4, cells := 0, slots := 0, locals := 130 } : Room)).room s m ([.ref (a 0), .int x1] : List Value).toArray below meth c H locs 0 0 (MQ below (qRW (dC, dI) (wX2 a cI cF u.2) (some (.int u.1)) A) ([.ref (a 0), .int x1] : List Value).toArray s 0 0 A) (F0 m 2 ls []) := by
    intro  n
    induction n with
    | zero =>
      intro y1 y2 S h
      exact (o_0 h).elim
    | succ n ih2 =>
      intro y1 y2 S h H locs hP hD hS ls hl
      rw [m_X2_advance_L2] at h
      refine lv_iload_n hx hb dX2_advance_2 rfl (lv_at hl 2 rfl) ?_
      refine lv_iload_n hx hb dX2_advance_3 rfl (lv_at hl 1 rfl) ?_
      refine lv_icmp_ge (tgt := 26) hx hb dX2_advance_4 (by decide) (fun c1 => ?_) (fun c1 => ?_)
      · have h := o_t h c1
        refine lv_iload_n hx hb dX2_advance_26 rfl (lv_at hl 1 rfl) ?_
        have hu := Option.some.inj h
        exact W.iret (v := y1) hx hb hr (fun t ht hW => ⟨⟨congrArg (fun z => Outcome.returned (some (Value.int z.1))) hu, by rw [ht, ← hu]; exact hP⟩, hS.F ht⟩) hS.2.2 dX2_advance_27
      have h := o_f h c1
      refine lv_aload_n hx hb dX2_advance_7 rfl (lv_at hl 0 rfl) ?_
      obtain ⟨v2, g3, h⟩ := o_b h
      refine k_ro (va_runV (As := []) (rest := []) ⟨hx, hb, hml, hown, hts⟩ (c_X2_whyNot l dC dI cI cF a S v2 g3) (cwV 0 hts gX2_advance_X2_whyNot rfl rfl rfl (by decide +kernel) ⟨Nat.le_of_ble_eq_true rfl, Nat.le_of_ble_eq_true rfl⟩) (k_preV (q0 := 0) (ci := 2) hK (hP.sub (ws' := wX2 a cI cF S) [0, 1, 2, 3, 4, 5, 6] rfl) rfl rfl rfl) rfl rfl hl.1 rfl (lv_room (Nat.le_of_ble_eq_true rfl)) dX2_advance_8 ⟨Nat.zero_le _, Nat.zero_le _⟩) (st1 := [.int v2]) rfl ?_
      refine lv_if_eq (tgt := 16) hx hb dX2_advance_11 (by decide) (fun c4 => ?_) (fun c4 => ?_)
      rotate_left
      · have h := o_f h c4
        refine lv_iload_n hx hb dX2_advance_14 rfl (lv_at hl 2 rfl) ?_
        have hu := Option.some.inj h
        exact W.iret (v := y2) hx hb hr (fun t ht hW => ⟨⟨congrArg (fun z => Outcome.returned (some (Value.int z.1))) hu, by rw [ht, ← hu]; exact hP⟩, hS.F ht⟩) hS.2.2 dX2_advance_15
      have h := o_t h c4
      refine lv_aload_n hx hb dX2_advance_16 rfl (lv_at hl 0 rfl) ?_
      obtain ⟨v5, g6, h⟩ := o_b h
      refine k_rw (va_runV (As := []) (rest := []) ⟨hx, hb, hml, hown, hts⟩ (c_X2_makeStep l dC dI cI cF a S v5 g6 H.size) (cwV 0 hts gX2_advance_X2_makeStep rfl rfl rfl (by decide +kernel) ⟨Nat.le_of_ble_eq_true rfl, Nat.le_of_ble_eq_true rfl⟩) (k_preVw (q0 := 0) (ci := 2) hK hP hD [0, 1, 2, 3, 4, 5, 6] rfl rfl rfl rfl rfl) rfl rfl hl.1 rfl (lv_room (Nat.le_of_ble_eq_true rfl)) dX2_advance_17 ⟨Nat.zero_le _, Nat.zero_le _⟩) (st1 := []) rfl hP hD hS hA [0, 1, 2, 3, 4, 5, 6] rfl rfl (wn := wX2 a cI cF v5) rfl rfl rfl (fun H locs hP hD hS => ?_)
      obtain ⟨x2_7, e8, h⟩ := o_n h
      refine lv_iinc (v := x2_7) (lv' := [(2, .int x2_7), (0, .ref (a 0)), (1, .int y1)]) hx hb dX2_advance_20 hl (k := 2) rfl (by rw [e8]; rfl) (by decide) rfl (fun ls hl => ?_)
      refine lv_goto (tgt := 2) hx hb dX2_advance_23 (by decide) ?_
      exact ih2 _ _ _ h _ _ hP hD hS _ (lv_sub hl [1, 2, 0] rfl)
  have hl := lv_entry ([.ref (a 0), .int x1]) (n := 3) (Nat.le_of_ble_eq_true rfl)
  rw [lg_entry_eq]
  generalize (lg_sl ([.ref (a 0), .int x1]) ++ List.replicate (3 - (lg_sl ([.ref (a 0), .int x1])).length) Slot.unset).toArray = ls at hl ⊢
  have hl : lv_has ls 3 [(0, .ref (a 0)), (1, .int x1)] := hl
  rw [m_X2_advance] at h
  refine lv_iconst (v := (0 : Int32)) hx hb dX2_advance_0 (by decide) ?_
  refine lv_istore_n (lv' := [(2, .int (0 : Int32)), (0, .ref (a 0)), (1, .int x1)]) hx hb dX2_advance_1 rfl hl (by decide) rfl (fun ls hl => ?_)
  exact L2 _ _ _ _ h _ _ hP hD hS _ (lv_sub hl [1, 2, 0] rfl)

