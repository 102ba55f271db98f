-- X0_dropFronts
def m_X0_dropFronts_L2 : Nat → Int32 → Int32 → S_X0 → Option (S_X0)
  | 0, _, _, _ => none
  | n + 1, y1, y2, S => if (8 : Int32) ≤ y2 then (some S) else (if ((y1 >>> (y2 &&& 31)) &&& (1 : Int32)) = (1 : Int32) then ((m_X0_dropFront S y2).bind fun v5 => (nmL (y2 + 1) fun x2_7 => ((m_X0_dropFronts_L2 n) y1 x2_7 v5))) else (nmL (y2 + 1) fun x2_3 => ((m_X0_dropFronts_L2 n) y1 x2_3 S)))
def m_X0_dropFronts (S : S_X0) (x1 : Int32) : Option (S_X0) := m_X0_dropFronts_L2 4000 x1 (0 : Int32) S
set_option maxHeartbeats 4000000 in
set_option maxRecDepth 100000 in
theorem c_X0_dropFronts (l : Launch) (dC : Nat → ClassId) (dI : Nat → Nat → Nat) (cI cF : ClassId) (a : Nat → Nat) (S : S_X0) (x1 : Int32) (u : S_X0) (h : m_X0_dropFronts S x1 = some u) : cRW l (dC, dI) cI cF yX0_dropFronts wsX0_dropFronts ({ frames := 2, cells := 0, slots := 0, locals := 83 } : Room) [.ref (a 0), .int x1] (wX0 a cI cF S) (wX0 a cI cF u) (none) := by
  intro sz
  refine Met.ofW (cc := cX0_dropFronts) (maxL := 3) (ret := none) (by decide) rfl ?_
  intro p e s m args below meth c s₁ B hml hv
  obtain ⟨hargs, hsz, hP, hK, hD0⟩ := hv
  subst hargs
  have hx := B.exec
  have hb := B.bytes
  have hr := B.returns
  have hts := atoms_spec (ws := wsX0_dropFronts) B.pre
  have hown : s.vm.findClass RX0 = some m.cls := findClass_of_methodNamed B.named
  have hlocks := B.notSynchronized
  have w52 := hts (.methodLink RX0 52 yX0_dropFront) (List.mem_of_getElem? (i := 1) rfl)
  subst hsz
  have hD := hD0.self (sz := s.heap.size)
  generalize hAe : va_A (wX0 a cI cF S) s.heap.size = A at hD ⊢
  have hA : ∀ q : Nat, s.heap.size ≤ q → A q := fun q h => by rw [← hAe]; exact Or.inr h
  have hS : va_S A s.heap s.heap [] := va_S.rf
  have L2 : ∀ (n : Nat), ∀ (y1 : Int32) (y2 : Int32) (S : S_X0), m_X0_dropFronts_L2 n y1 y2 S = some u → ∀ (H : Heap) (locs : List Loc), va_P (dC, dI) vwCl (wX0 a cI cF S) H → va_D A (wX0 a cI cF S) → va_S A s.heap H locs → ∀ (ls : Array Slot), lv_has ls 3 [(0, .ref (a 0)), (1, .int y1), (2, .int y2)] → W p l e (headSpec wsX0_dropFronts ({ frames := 2, cells := 0, slots := 0, locals := 83 } : Room)).room s m ([.ref (a 0), .int x1] : List Value).toArray below meth c H locs 0 0 (MQ below (qRW (dC, dI) (wX0 a cI cF u) (none) A) ([.ref (a 0), .int x1] : List Value).toArray s 0 0 A) (F0 m 2 ls []) := by
    intro  n
    induction n with
    | zero =>
      intro y1 y2 S h
      exact (o_0 h).elim
    | succ n ih2 =>
      intro y1 y2 S h H locs hP hD hS ls hl
      rw [m_X0_dropFronts_L2] at h
      refine lv_iload_n hx hb dX0_dropFronts_2 rfl (lv_at hl 2 rfl) ?_
      refine lv_bipush (v := (8 : Int32)) hx hb dX0_dropFronts_3 (by decide) ?_
      refine lv_icmp_ge (tgt := 28) hx hb dX0_dropFronts_5 (by decide) (fun c1 => ?_) (fun c1 => ?_)
      · have h := o_t h c1
        have hu := Option.some.inj h
        exact W.vret hx hb hr (fun t ht hW => ⟨⟨rfl, by rw [ht, ← hu]; exact hP⟩, hS.F ht⟩) hS.2.2 dX0_dropFronts_28
      have h := o_f h c1
      refine lv_iload_n hx hb dX0_dropFronts_8 rfl (lv_at hl 1 rfl) ?_
      refine lv_iload_n hx hb dX0_dropFronts_9 rfl (lv_at hl 2 rfl) ?_
      refine lv_ishr hx hb dX0_dropFronts_10 ?_
      refine lv_iconst (v := (1 : Int32)) hx hb dX0_dropFronts_11 (by decide) ?_
      refine lv_iand hx hb dX0_dropFronts_12 ?_
      refine lv_iconst (v := (1 : Int32)) hx hb dX0_dropFronts_13 (by decide) ?_
      refine lv_icmp_ne (tgt := 22) hx hb dX0_dropFronts_14 (by decide) (fun c2 => ?_) (fun c2 => ?_)
      · have h := o_f h c2
        obtain ⟨x2_3, e4, h⟩ := o_n h
        refine lv_iinc (v := x2_3) (lv' := [(2, .int x2_3), (0, .ref (a 0)), (1, .int y1)]) hx hb dX0_dropFronts_22 hl (k := 2) rfl (by rw [e4]; rfl) (by decide) rfl (fun ls hl => ?_)
        refine lv_goto (tgt := 2) hx hb dX0_dropFronts_25 (by decide) ?_
        exact ih2 _ _ _ h _ _ hP hD hS _ (lv_sub hl [1, 2, 0] rfl)
      have h := o_t h c2
      refine lv_aload_n hx hb dX0_dropFronts_17 rfl (lv_at hl 0 rfl) ?_
      refine lv_iload_n hx hb dX0_dropFronts_18 rfl (lv_at hl 2 rfl) ?_
      obtain ⟨v5, g6, h⟩ := o_b h
      refine k_rw (va_runV (As := [.int y2]) (rest := []) ⟨hx, hb, hml, hown, hts⟩ (c_X0_dropFront l dC dI cI cF a S y2 v5 g6 H.size) (cwV 1 hts gX0_dropFronts_X0_dropFront rfl rfl rfl (by decide +kernel) ⟨Nat.le_of_ble_eq_true rfl, Nat.le_of_ble_eq_true rfl⟩) (k_preVw (q0 := 0) (ci := 0) hK hP hD [0, 1, 2] rfl rfl rfl rfl rfl) rfl rfl hl.1 rfl (lv_room (Nat.le_of_ble_eq_true rfl)) dX0_dropFronts_19 ⟨Nat.zero_le _, Nat.zero_le _⟩) (st1 := []) rfl hP hD hS hA [0, 1, 2] rfl rfl (wn := wX0 a cI cF v5) rfl rfl rfl (fun H locs hP hD hS => ?_)
      obtain ⟨x2_7, e8, h⟩ := o_n h
      refine lv_iinc (v := x2_7) (lv' := [(2, .int x2_7), (0, .ref (a 0)), (1, .int y1)]) hx hb dX0_dropFronts_22 hl (k := 2) rfl (by rw [e8]; rfl) (by decide) rfl (fun ls hl => ?_)
      refine lv_goto (tgt := 2) hx hb dX0_dropFronts_25 (by decide) ?_
      exact ih2 _ _ _ h _ _ hP hD hS _ (lv_sub hl [1, 2, 0] rfl)
  have hl := lv_entry ([.ref (a 0), .int x1]) (n := 3) (Nat.le_of_ble_eq_true rfl)
  rw [lg_entry_eq]
  generalize (lg_sl ([.ref (a 0), .int x1]) ++ List.replicate (3 - (lg_sl ([.ref (a 0), .int x1])).length) Slot.unset).toArray = ls at hl ⊢
  have hl : lv_has ls 3 [(0, .ref (a 0)), (1, .int x1)] := hl
  rw [m_X0_dropFronts] at h
  refine lv_iconst (v := (0 : Int32)) hx hb dX0_dropFronts_0 (by decide) ?_
  refine lv_istore_n (lv' := [(2, .int (0 : Int32)), (0, .ref (a 0)), (1, .int x1)]) hx hb dX0_dropFronts_1 rfl hl (by decide) rfl (fun ls hl => ?_)
  exact L2 _ _ _ _ h _ _ hP hD hS _ (lv_sub hl [1, 2, 0] rfl)

