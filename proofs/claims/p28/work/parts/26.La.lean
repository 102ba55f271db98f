-- L_low L_number L_fill L_does
def m_L_low (x0 : Int32) (x1 : Int32) : Option (Int32) := if x1 = 0 then none else (some ((x0 &&& (2147483647 : Int32)) - (x0 &&& (2147483647 : Int32)) / x1 * x1))
set_option maxHeartbeats 4000000 in
set_option maxRecDepth 100000 in
theorem c_L_low (l : Launch) (dC : Nat → ClassId) (dI : Nat → Nat → Nat) (cI cF : ClassId) (x0 : Int32) (x1 : Int32) (u : Int32) (h : m_L_low x0 x1 = some u) : cPU l yL_low wsL_low ({ frames := 0, cells := 0, slots := 0, locals := 0 } : Room) [.int x0, .int x1] (some (.int u)) := by
  refine Met.ofW (cc := cL_low) (maxL := 2) (ret := (some .int)) (by decide) rfl ?_
  intro p e s m args below meth c s₁ B hml hv
  obtain ⟨hargs, -⟩ := hv
  subst hargs
  have hx := B.exec
  have hb := B.bytes
  have hr := B.returns
  have hts := atoms_spec (ws := wsL_low) B.pre
  have hown : s.vm.findClass RL = some m.cls := findClass_of_methodNamed B.named
  have hlocks := B.notSynchronized
  have w7 := hts (.constant RL 7 (2147483647)) (List.mem_of_getElem? (i := 1) rfl)
  have hl := lv_entry ([.int x0, .int x1]) (n := 2) (Nat.le_of_ble_eq_true rfl)
  rw [lg_entry_eq]
  generalize (lg_sl ([.int x0, .int x1]) ++ List.replicate (2 - (lg_sl ([.int x0, .int x1])).length) Slot.unset).toArray = ls at hl ⊢
  have hl : lv_has ls 2 [(0, .int x0), (1, .int x1)] := hl
  rw [m_L_low] at h
  refine lv_iload_n hx hb dL_low_0 rfl (lv_at hl 0 rfl) ?_
  refine lv_ldc hx hb hown w7 dL_low_1 ?_
  refine lv_iand hx hb dL_low_3 ?_
  refine lv_iload_n hx hb dL_low_4 rfl (lv_at hl 1 rfl) ?_
  obtain ⟨i1, h⟩ := o_in h
  refine lv_irem hx hb dL_low_5 i1 ?_
  have hu := Option.some.inj h
  exact W.iret (v := (x0 &&& (2147483647 : Int32)) - (x0 &&& (2147483647 : Int32)) / x1 * x1) hx hb hr (fun t ht hW => ⟨congrArg (fun z => Outcome.returned (some (Value.int z))) hu, ht⟩) (fun q hq => absurd hq List.not_mem_nil) dL_low_6

def m_L_number_L39 (y1 : Int32) (S : S_X5) : Option (S_X5) := (o_R (m_X5_append S ((48 : Int32) + (y1 - y1 / (10 : Int32) * (10 : Int32))))).bind fun v3 => (nmL (v3.1) fun x2_5 => (some v3.2))
def m_L_number_L18 (y1 : Int32) (S : S_X5) : Option (S_X5) := if y1 ≤ (9 : Int32) then (m_L_number_L39 y1 S) else ((o_R (m_X5_append S ((48 : Int32) + ((y1 / (10 : Int32)) - (y1 / (10 : Int32)) / (10 : Int32) * (10 : Int32))))).bind fun v7 => (nmL (v7.1) fun x2_9 => (m_L_number_L39 y1 v7.2)))
def m_L_number (S : S_X5) (x1 : Int32) : Option (S_X5) := if x1 ≤ (99 : Int32) then (m_L_number_L18 x1 S) else ((o_R (m_X5_append S ((48 : Int32) + (x1 / (100 : Int32))))).bind fun v11 => (nmL (v11.1) fun x2_13 => (m_L_number_L18 x1 v11.2)))
set_option maxHeartbeats 4000000 in
set_option maxRecDepth 100000 in
theorem c_L_number (l : Launch) (dC : Nat → ClassId) (dI : Nat → Nat → Nat) (cI cF : ClassId) (a : Nat → Nat) (S : S_X5) (x1 : Int32) (u : S_X5) (h : m_L_number S x1 = some u) : cRW l (dC, dI) cI cF yL_number wsL_number ({ frames := 2, cells := 0, slots := 0, locals := 42 } : Room) [.ref (a 0), .int x1] (wX5 a cI cF S) (wX5 a cI cF u) (none) := by
  intro sz
  refine Met.ofW (cc := cL_number) (maxL := 3) (ret := none) (by decide) rfl ?_
  intro p e s m args below meth c s₁ B hml hv
  obtain ⟨hargs, hsz, hP, hK, hD0⟩ := hv
  subst hargs
  have hx := B.exec
  have hb := B.bytes
  have hr := B.returns
  have hts := atoms_spec (ws := wsL_number) B.pre
  have hown : s.vm.findClass RL = some m.cls := findClass_of_methodNamed B.named
  have hlocks := B.notSynchronized
  have w8 := hts (.methodLink RL 8 yX5_append) (List.mem_of_getElem? (i := 1) rfl)
  subst hsz
  have hD := hD0.self (sz := s.heap.size)
  generalize hAe : va_A (wX5 a cI cF S) s.heap.size = A at hD ⊢
  have hA : ∀ q : Nat, s.heap.size ≤ q → A q := fun q h => by rw [← hAe]; exact Or.inr h
  have hS : va_S A s.heap s.heap [] := va_S.rf
  have L39 : ∀ (y1 : Int32) (S : S_X5), m_L_number_L39 y1 S = some u → ∀ (H : Heap) (locs : List Loc), va_P (dC, dI) vwCl (wX5 a cI cF S) H → va_D A (wX5 a cI cF S) → va_S A s.heap H locs → ∀ (ls : Array Slot), lv_has ls 3 [(0, .ref (a 0)), (1, .int y1)] → W p l e (headSpec wsL_number ({ frames := 2, cells := 0, slots := 0, locals := 42 } : Room)).room s m ([.ref (a 0), .int x1] : List Value).toArray below meth c H locs 0 0 (MQ below (qRW (dC, dI) (wX5 a cI cF u) (none) A) ([.ref (a 0), .int x1] : List Value).toArray s 0 0 A) (F0 m 39 ls []) := by
    intro  y1 S h H locs hP hD hS ls hl
    rw [m_L_number_L39] at h
    refine lv_aload_n hx hb dL_number_39 rfl (lv_at hl 0 rfl) ?_
    refine lv_bipush (v := (48 : Int32)) hx hb dL_number_40 (by decide) ?_
    refine lv_iload_n hx hb dL_number_42 rfl (lv_at hl 1 rfl) ?_
    refine lv_bipush (v := (10 : Int32)) hx hb dL_number_43 (by decide) ?_
    refine lv_irem hx hb dL_number_45 (by decide) ?_
    refine lv_iadd hx hb dL_number_46 ?_
    obtain ⟨v3, g4, h⟩ := o_b h
    have g4 := o_R_ g4
    refine k_rwL (va_runV (As := [.int ((48 : Int32) + (y1 - y1 / (10 : Int32) * (10 : Int32)))]) (rest := []) ⟨hx, hb, hml, hown, hts⟩ (c_X5_append l dC dI cI cF a S ((48 : Int32) + (y1 - y1 / (10 : Int32) * (10 : Int32))) v3 g4 H.size) (cwV 1 hts gL_number_X5_append rfl rfl rfl (by decide +kernel) ⟨Nat.le_of_ble_eq_true rfl, Nat.le_of_ble_eq_true rfl⟩) (k_preLw (q0 := 0) (ci := 5) hK hP hD (LN_id (fX5 a cI cF S v3.2)) rfl rfl rfl) rfl rfl hl.1 rfl (lv_room (Nat.le_of_ble_eq_true rfl)) dL_number_47 ⟨Nat.zero_le _, Nat.zero_le _⟩) (st1 := [.int v3.1]) rfl hP hD hS hA (wn := wX5 a cI cF v3.2) (LN_id (fX5 a cI cF S v3.2)) (fun H locs hP hD hS => ?_)
    obtain ⟨x2_5, e6, h⟩ := o_n h
    refine lv_nmi e6 ?_
    refine lv_istore_n (lv' := [(2, .int x2_5), (0, .ref (a 0)), (1, .int y1)]) hx hb dL_number_50 rfl hl (by decide) rfl (fun ls hl => ?_)
    have hu := Option.some.inj h
    exact W.vret hx hb hr (fun t ht hW => ⟨⟨rfl, by rw [ht, ← hu]; exact hP⟩, hS.F ht⟩) hS.2.2 dL_number_51
  have L18 : ∀ (y1 : Int32) (S : S_X5), m_L_number_L18 y1 S = some u → ∀ (H : Heap) (locs : List Loc), va_P (dC, dI) vwCl (wX5 a cI cF S) H → va_D A (wX5 a cI cF S) → va_S A s.heap H locs → ∀ (ls : Array Slot), lv_has ls 3 [(0, .ref (a 0)), (1, .int y1)] → W p l e (headSpec wsL_number ({ frames := 2, cells := 0, slots := 0, locals := 42 } : Room)).room s m ([.ref (a 0), .int x1] : List Value).toArray below meth c H locs 0 0 (MQ below (qRW (dC, dI) (wX5 a cI cF u) (none) A) ([.ref (a 0), .int x1] : List Value).toArray s 0 0 A) (F0 m 18 ls []) := by
    intro  y1 S h H locs hP hD hS ls hl
    rw [m_L_number_L18] at h
    refine lv_iload_n hx hb dL_number_18 rfl (lv_at hl 1 rfl) ?_
    refine lv_bipush (v := (9 : Int32)) hx hb dL_number_19 (by decide) ?_
    refine lv_icmp_le (tgt := 39) hx hb dL_number_21 (by decide) (fun c2 => ?_) (fun c2 => ?_)
    · have h := o_t h c2
      exact L39 _ _ h _ _ hP hD hS _ (lv_sub hl [0, 1] rfl)
    have h := o_f h c2
    refine lv_aload_n hx hb dL_number_24 rfl (lv_at hl 0 rfl) ?_
    refine lv_bipush (v := (48 : Int32)) hx hb dL_number_25 (by decide) ?_
    refine lv_iload_n hx hb dL_number_27 rfl (lv_at hl 1 rfl) ?_
    refine lv_bipush (v := (10 : Int32)) hx hb dL_number_28 (by decide) ?_
    refine lv_idiv hx hb dL_number_30 (by decide) ?_
    refine lv_bipush (v := (10 : Int32)) hx hb dL_number_31 (by decide) ?_
    refine lv_irem hx hb dL_number_33 (by decide) ?_
    refine lv_iadd hx hb dL_number_34 ?_
    obtain ⟨v7, g8, h⟩ := o_b h
    have g8 := o_R_ g8
    refine k_rwL (va_runV (As := [.int ((48 : Int32) + ((y1 / (10 : Int32)) - (y1 / (10 : Int32)) / (10 : Int32) * (10 : Int32)))]) (rest := []) ⟨hx, hb, hml, hown, hts⟩ (c_X5_append l dC dI cI cF a S ((48 : Int32) + ((y1 / (10 : Int32)) - (y1 / (10 : Int32)) / (10 : Int32) * (10 : Int32))) v7 g8 H.size) (cwV 1 hts gL_number_X5_append rfl rfl rfl (by decide +kernel) ⟨Nat.le_of_ble_eq_true rfl, Nat.le_of_ble_eq_true rfl⟩) (k_preLw (q0 := 0) (ci := 5) hK hP hD (LN_id (fX5 a cI cF S v7.2)) rfl rfl rfl) rfl rfl hl.1 rfl (lv_room (Nat.le_of_ble_eq_true rfl)) dL_number_35 ⟨Nat.zero_le _, Nat.zero_le _⟩) (st1 := [.int v7.1]) rfl hP hD hS hA (wn := wX5 a cI cF v7.2) (LN_id (fX5 a cI cF S v7.2)) (fun H locs hP hD hS => ?_)
    obtain ⟨x2_9, e10, h⟩ := o_n h
    refine lv_nmi e10 ?_
    refine lv_istore_n (lv' := [(2, .int x2_9), (0, .ref (a 0)), (1, .int y1)]) hx hb dL_number_38 rfl hl (by decide) rfl (fun ls hl => ?_)
    exact L39 _ _ h _ _ hP hD hS _ (lv_sub hl [1, 2] rfl)
  have hl := lv_entry ([.ref (a 0), .int x1]) (n := 3) (Nat.le_of_ble_eq_true rfl)
  rw [lg_entry_eq]
  generalize (lg_sl ([.ref (a 0), .int x1]) ++ List.replicate (3 - (lg_sl ([.ref (a 0), .int x1])).length) Slot.unset).toArray = ls at hl ⊢
  have hl : lv_has ls 3 [(0, .ref (a 0)), (1, .int x1)] := hl
  rw [m_L_number] at h
  refine lv_iload_n hx hb dL_number_0 rfl (lv_at hl 1 rfl) ?_
  refine lv_bipush (v := (99 : Int32)) hx hb dL_number_1 (by decide) ?_
  refine lv_icmp_le (tgt := 18) hx hb dL_number_3 (by decide) (fun c1 => ?_) (fun c1 => ?_)
  · have h := o_t h c1
    exact L18 _ _ h _ _ hP hD hS _ (lv_sub hl [0, 1] rfl)
  have h := o_f h c1
  refine lv_aload_n hx hb dL_number_6 rfl (lv_at hl 0 rfl) ?_
  refine lv_bipush (v := (48 : Int32)) hx hb dL_number_7 (by decide) ?_
  refine lv_iload_n hx hb dL_number_9 rfl (lv_at hl 1 rfl) ?_
  refine lv_bipush (v := (100 : Int32)) hx hb dL_number_10 (by decide) ?_
  refine lv_idiv hx hb dL_number_12 (by decide) ?_
  refine lv_iadd hx hb dL_number_13 ?_
  obtain ⟨v11, g12, h⟩ := o_b h
  have g12 := o_R_ g12
  refine k_rwL (va_runV (As := [.int ((48 : Int32) + (x1 / (100 : Int32)))]) (rest := []) ⟨hx, hb, hml, hown, hts⟩ (c_X5_append l dC dI cI cF a S ((48 : Int32) + (x1 / (100 : Int32))) v11 g12 s.heap.size) (cwV 1 hts gL_number_X5_append rfl rfl rfl (by decide +kernel) ⟨Nat.le_of_ble_eq_true rfl, Nat.le_of_ble_eq_true rfl⟩) (k_preLw (q0 := 0) (ci := 5) hK hP hD (LN_id (fX5 a cI cF S v11.2)) rfl rfl rfl) rfl rfl hl.1 rfl (lv_room (Nat.le_of_ble_eq_true rfl)) dL_number_14 ⟨Nat.zero_le _, Nat.zero_le _⟩) (st1 := [.int v11.1]) rfl hP hD hS hA (wn := wX5 a cI cF v11.2) (LN_id (fX5 a cI cF S v11.2)) (fun H locs hP hD hS => ?_)
  obtain ⟨x2_13, e14, h⟩ := o_n h
  refine lv_nmi e14 ?_
  refine lv_istore_n (lv' := [(2, .int x2_13), (0, .ref (a 0)), (1, .int x1)]) hx hb dL_number_17 rfl hl (by decide) rfl (fun ls hl => ?_)
  exact L18 _ _ h _ _ hP hD hS _ (lv_sub hl [1, 2] rfl)

def m_L_fill (S : S_X5) (x1 : Int32) (x2 : Int32) : Option (S_X5) := (m_L_low (x2 >>> ((5 : Int32) &&& 31)) (9 : Int32)).bind fun v1 => (nmL ((2 : Int32) + v1) fun x3_3 => ((m_L_low (x2 >>> ((8 : Int32) &&& 31)) (9 : Int32)).bind fun v5 => (nmL ((2 : Int32) + v5) fun x4_7 => ((o_R (m_X5_can S x1 (0 : Int32))).bind fun v9 => (if (((v9 + x3_3) + x4_7) + (1 : Int32)) ≤ (40 : Int32) then ((m_L_low (x2 >>> ((3 : Int32) &&& 31)) (30 : Int32)).bind fun v12 => (nmL ((4 : Int32) + v12) fun x5_14 => ((m_X5_clearBuffer S).bind fun v16 => (nmL (v16.1) fun x6_18 => ((m_L_number v16.2 x5_14).bind fun v20 => ((o_R (m_X5_append v20 (42 : Int32))).bind fun v22 => (nmL (v22.1) fun x6_24 => ((m_L_number v22.2 x3_3).bind fun v26 => ((o_R (m_X5_append v26 (44 : Int32))).bind fun v28 => (nmL (v28.1) fun x6_30 => ((m_L_low (x2 >>> ((6 : Int32) &&& 31)) (9 : Int32)).bind fun v32 => ((m_L_number v28.2 (x5_14 + v32)).bind fun v34 => ((o_R (m_X5_append v34 (44 : Int32))).bind fun v36 => (nmL (v36.1) fun x6_38 => ((m_L_low (x2 >>> ((4 : Int32) &&& 31)) (50 : Int32)).bind fun v40 => ((m_L_number v36.2 v40).bind fun v42 => ((o_R (m_X5_append v42 (42 : Int32))).bind fun v44 => (nmL (v44.1) fun x6_46 => ((m_L_number v44.2 x4_7).bind fun v48 => ((o_R (m_X5_fill v48 x1)).bind fun v50 => (nmL (v50.1) fun x6_52 => (some v50.2)))))))))))))))))))))) else (some S))))))
set_option maxHeartbeats 4000000 in
set_option maxRecDepth 100000 in
theorem c_L_fill (l : Launch) (dC : Nat → ClassId) (dI : Nat → Nat → Nat) (cI cF : ClassId) (a : Nat → Nat) (S : S_X5) (x1 : Int32) (x2 : Int32) (u : S_X5) (h : m_L_fill S x1 x2 = some u) : cRW l (dC, dI) cI cF yL_fill wsL_fill ({ frames := 6, cells := 0, slots := 0, locals := 147 } : Room) [.ref (a 0), .int x1, .int x2] (wX5 a cI cF S) (wX5 a cI cF u) (none) := by
  intro sz
  refine Met.ofW (cc := cL_fill) (maxL := 7) (ret := none) (by decide) rfl ?_
  intro p e s m args below meth c s₁ B hml hv
  obtain ⟨hargs, hsz, hP, hK, hD0⟩ := hv
  subst hargs
  have hx := B.exec
  have hb := B.bytes
  have hr := B.returns
  have hts := atoms_spec (ws := wsL_fill) B.pre
  have hown : s.vm.findClass RL = some m.cls := findClass_of_methodNamed B.named
  have hlocks := B.notSynchronized
  have w14 := hts (.methodLink RL 14 yL_low) (List.mem_of_getElem? (i := 1) rfl)
  have w20 := hts (.methodLink RL 20 yX5_can) (List.mem_of_getElem? (i := 6) rfl)
  have w23 := hts (.methodLink RL 23 yX5_clearBuffer) (List.mem_of_getElem? (i := 71) rfl)
  have w27 := hts (.methodLink RL 27 yL_number) (List.mem_of_getElem? (i := 86) rfl)
  have w31 := hts (.methodLink RL 31 yX5_fill) (List.mem_of_getElem? (i := 104) rfl)
  have w8 := hts (.methodLink RL 8 yX5_append) (List.mem_of_getElem? (i := 89) rfl)
  subst hsz
  have hD := hD0.self (sz := s.heap.size)
  generalize hAe : va_A (wX5 a cI cF S) s.heap.size = A at hD ⊢
  have hA : ∀ q : Nat, s.heap.size ≤ q → A q := fun q h => by rw [← hAe]; exact Or.inr h
  have hS : va_S A s.heap s.heap [] := va_S.rf
  have hl := lv_entry ([.ref (a 0), .int x1, .int x2]) (n := 7) (Nat.le_of_ble_eq_true rfl)
  rw [lg_entry_eq]
  generalize (lg_sl ([.ref (a 0), .int x1, .int x2]) ++ List.replicate (7 - (lg_sl ([.ref (a 0), .int x1, .int x2])).length) Slot.unset).toArray = ls at hl ⊢
  have hl : lv_has ls 7 [(0, .ref (a 0)), (1, .int x1), (2, .int x2)] := hl
  rw [m_L_fill] at h
  refine lv_iconst (v := (2 : Int32)) hx hb dL_fill_0 (by decide) ?_
  refine lv_iload_n hx hb dL_fill_1 rfl (lv_at hl 2 rfl) ?_
  refine lv_iconst (v := (5 : Int32)) hx hb dL_fill_2 (by decide) ?_
  refine lv_ishr hx hb dL_fill_3 ?_
  refine lv_bipush (v := (9 : Int32)) hx hb dL_fill_4 (by decide) ?_
  obtain ⟨v1, g2, h⟩ := o_b h
  refine k_ro (va_runS (As := [.int (x2 >>> ((5 : Int32) &&& 31)), .int (9 : Int32)]) (rest := [.int (2 : Int32)]) ⟨hx, hb, hml, hown, hts⟩ (c_L_low l dC dI cI cF (x2 >>> ((5 : Int32) &&& 31)) (9 : Int32) v1 g2) (va_cwS 2 hts gL_fill_L_low rfl rfl rfl (by decide +kernel) ⟨Nat.le_of_ble_eq_true rfl, Nat.le_of_ble_eq_true rfl⟩) (k_prePU) rfl rfl hl.1 rfl (lv_room (Nat.le_of_ble_eq_true rfl)) dL_fill_6 ⟨Nat.zero_le _, Nat.zero_le _⟩) (st1 := [.int v1, .int (2 : Int32)]) rfl ?_
  refine lv_iadd hx hb dL_fill_9 ?_
  obtain ⟨x3_3, e4, h⟩ := o_n h
  refine lv_nmi e4 ?_
  refine lv_istore_n (lv' := [(3, .int x3_3), (0, .ref (a 0)), (1, .int x1), (2, .int x2)]) hx hb dL_fill_10 rfl hl (by decide) rfl (fun ls hl => ?_)
  refine lv_iconst (v := (2 : Int32)) hx hb dL_fill_11 (by decide) ?_
  refine lv_iload_n hx hb dL_fill_12 rfl (lv_at hl 3 rfl) ?_
  refine lv_bipush (v := (8 : Int32)) hx hb dL_fill_13 (by decide) ?_
  refine lv_ishr hx hb dL_fill_15 ?_
  refine lv_bipush (v := (9 : Int32)) hx hb dL_fill_16 (by decide) ?_
  obtain ⟨v5, g6, h⟩ := o_b h
  refine k_ro (va_runS (As := [.int (x2 >>> ((8 : Int32) &&& 31)), .int (9 : Int32)]) (rest := [.int (2 : Int32)]) ⟨hx, hb, hml, hown, hts⟩ (c_L_low l dC dI cI cF (x2 >>> ((8 : Int32) &&& 31)) (9 : Int32) v5 g6) (va_cwS 2 hts gL_fill_L_low rfl rfl rfl (by decide +kernel) ⟨Nat.le_of_ble_eq_true rfl, Nat.le_of_ble_eq_true rfl⟩) (k_prePU) rfl rfl hl.1 rfl (lv_room (Nat.le_of_ble_eq_true rfl)) dL_fill_18 ⟨Nat.zero_le _, Nat.zero_le _⟩) (st1 := [.int v5, .int (2 : Int32)]) rfl ?_
  refine lv_iadd hx hb dL_fill_21 ?_
  obtain ⟨x4_7, e8, h⟩ := o_n h
  refine lv_nmi e8 ?_
  refine lv_istore (lv' := [(4, .int x4_7), (3, .int x3_3), (0, .ref (a 0)), (1, .int x1), (2, .int x2)]) hx hb dL_fill_22 hl (by decide) rfl (fun ls hl => ?_)
  refine lv_aload_n hx hb dL_fill_24 rfl (lv_at hl 2 rfl) ?_
  refine lv_iload_n hx hb dL_fill_25 rfl (lv_at hl 3 rfl) ?_
  refine lv_iconst (v := (0 : Int32)) hx hb dL_fill_26 (by decide) ?_
  obtain ⟨v9, g10, h⟩ := o_b h
  have g10 := o_R_ g10
  refine k_ro (va_runV (As := [.int x1, .int (0 : Int32)]) (rest := []) ⟨hx, hb, hml, hown, hts⟩ (c_X5_can l dC dI cI cF a S x1 (0 : Int32) v9 g10) (cwV 2 hts gL_fill_X5_can rfl rfl rfl (by decide +kernel) ⟨Nat.le_of_ble_eq_true rfl, Nat.le_of_ble_eq_true rfl⟩) (k_preL (q0 := 0) (ci := 5) hK hP (LN_id (fX5 a cI cF S S)) rfl rfl rfl) rfl rfl hl.1 rfl (lv_room (Nat.le_of_ble_eq_true rfl)) dL_fill_27 ⟨Nat.zero_le _, Nat.zero_le _⟩) (st1 := [.int v9]) rfl ?_
  refine lv_iload_n hx hb dL_fill_30 rfl (lv_at hl 1 rfl) ?_
  refine lv_iadd hx hb dL_fill_31 ?_
  refine lv_iload hx hb dL_fill_32 (lv_at hl 0 rfl) ?_
  refine lv_iadd hx hb dL_fill_34 ?_
  refine lv_iconst (v := (1 : Int32)) hx hb dL_fill_35 (by decide) ?_
  refine lv_iadd hx hb dL_fill_36 ?_
  refine lv_bipush (v := (40 : Int32)) hx hb dL_fill_37 (by decide) ?_
  refine lv_icmp_le (tgt := 43) hx hb dL_fill_39 (by decide) (fun c11 => ?_) (fun c11 => ?_)
  rotate_left
  · have h := o_f h c11
    have hu := Option.some.inj h
    exact W.vret hx hb hr (fun t ht hW => ⟨⟨rfl, by rw [ht, ← hu]; exact hP⟩, hS.F ht⟩) hS.2.2 dL_fill_42
  have h := o_t h c11
  refine lv_iconst (v := (4 : Int32)) hx hb dL_fill_43 (by decide) ?_
  refine lv_iload_n hx hb dL_fill_44 rfl (lv_at hl 4 rfl) ?_
  refine lv_iconst (v := (3 : Int32)) hx hb dL_fill_45 (by decide) ?_
  refine lv_ishr hx hb dL_fill_46 ?_
  refine lv_bipush (v := (30 : Int32)) hx hb dL_fill_47 (by decide) ?_
  obtain ⟨v12, g13, h⟩ := o_b h
  refine k_ro (va_runS (As := [.int (x2 >>> ((3 : Int32) &&& 31)), .int (30 : Int32)]) (rest := [.int (4 : Int32)]) ⟨hx, hb, hml, hown, hts⟩ (c_L_low l dC dI cI cF (x2 >>> ((3 : Int32) &&& 31)) (30 : Int32) v12 g13) (va_cwS 2 hts gL_fill_L_low rfl rfl rfl (by decide +kernel) ⟨Nat.le_of_ble_eq_true rfl, Nat.le_of_ble_eq_true rfl⟩) (k_prePU) rfl rfl hl.1 rfl (lv_room (Nat.le_of_ble_eq_true rfl)) dL_fill_49 ⟨Nat.zero_le _, Nat.zero_le _⟩) (st1 := [.int v12, .int (4 : Int32)]) rfl ?_
  refine lv_iadd hx hb dL_fill_52 ?_
  obtain ⟨x5_14, e15, h⟩ := o_n h
  refine lv_nmi e15 ?_
  refine lv_istore (lv' := [(5, .int x5_14), (4, .int x4_7), (3, .int x3_3), (0, .ref (a 0)), (1, .int x1), (2, .int x2)]) hx hb dL_fill_53 hl (by decide) rfl (fun ls hl => ?_)
  refine lv_aload_n hx hb dL_fill_55 rfl (lv_at hl 3 rfl) ?_
  obtain ⟨v16, g17, h⟩ := o_b h
  refine k_rwL (va_runV (As := []) (rest := []) ⟨hx, hb, hml, hown, hts⟩ (c_X5_clearBuffer l dC dI cI cF a S v16 g17 s.heap.size) (cwV 0 hts gL_fill_X5_clearBuffer rfl rfl rfl (by decide +kernel) ⟨Nat.le_of_ble_eq_true rfl, Nat.le_of_ble_eq_true rfl⟩) (k_preLw (q0 := 0) (ci := 5) hK hP hD (LN_id (fX5 a cI cF S v16.2)) rfl rfl rfl) rfl rfl hl.1 rfl (lv_room (Nat.le_of_ble_eq_true rfl)) dL_fill_56 ⟨Nat.zero_le _, Nat.zero_le _⟩) (st1 := [.int v16.1]) rfl hP hD hS hA (wn := wX5 a cI cF v16.2) (LN_id (fX5 a cI cF S v16.2)) (fun H locs hP hD hS => ?_)
  obtain ⟨x6_18, e19, h⟩ := o_n h
  refine lv_nmi e19 ?_
  refine lv_istore (lv' := [(6, .int x6_18), (5, .int x5_14), (4, .int x4_7), (3, .int x3_3), (0, .ref (a 0)), (1, .int x1), (2, .int x2)]) hx hb dL_fill_59 hl (by decide) rfl (fun ls hl => ?_)
  refine lv_aload_n hx hb dL_fill_61 rfl (lv_at hl 4 rfl) ?_
  refine lv_iload hx hb dL_fill_62 (lv_at hl 1 rfl) ?_
  obtain ⟨v20, g21, h⟩ := o_b h
  refine k_rwL (va_runS (As := [.ref (a 0), .int x5_14]) (rest := []) ⟨hx, hb, hml, hown, hts⟩ (c_L_number l dC dI cI cF a v16.2 x5_14 v20 g21 H.size) (va_cwS 2 hts gL_fill_L_number rfl rfl rfl (by decide +kernel) ⟨Nat.le_of_ble_eq_true rfl, Nat.le_of_ble_eq_true rfl⟩) (k_preSLw hK hP hD (LN_id (fX5 a cI cF v16.2 v20))) rfl rfl hl.1 rfl (lv_room (Nat.le_of_ble_eq_true rfl)) dL_fill_64 ⟨Nat.zero_le _, Nat.zero_le _⟩) (st1 := []) rfl hP hD hS hA (wn := wX5 a cI cF v20) (LN_id (fX5 a cI cF v16.2 v20)) (fun H locs hP hD hS => ?_)
  refine lv_aload_n hx hb dL_fill_67 rfl (lv_at hl 4 rfl) ?_
  refine lv_bipush (v := (42 : Int32)) hx hb dL_fill_68 (by decide) ?_
  obtain ⟨v22, g23, h⟩ := o_b h
  have g23 := o_R_ g23
  refine k_rwL (va_runV (As := [.int (42 : Int32)]) (rest := []) ⟨hx, hb, hml, hown, hts⟩ (c_X5_append l dC dI cI cF a v20 (42 : Int32) v22 g23 H.size) (cwV 1 hts gL_fill_X5_append rfl rfl rfl (by decide +kernel) ⟨Nat.le_of_ble_eq_true rfl, Nat.le_of_ble_eq_true rfl⟩) (k_preLw (q0 := 0) (ci := 5) hK hP hD (LN_id (fX5 a cI cF v20 v22.2)) rfl rfl rfl) rfl rfl hl.1 rfl (lv_room (Nat.le_of_ble_eq_true rfl)) dL_fill_70 ⟨Nat.zero_le _, Nat.zero_le _⟩) (st1 := [.int v22.1]) rfl hP hD hS hA (wn := wX5 a cI cF v22.2) (LN_id (fX5 a cI cF v20 v22.2)) (fun H locs hP hD hS => ?_)
  obtain ⟨x6_24, e25, h⟩ := o_n h
  refine lv_nmi e25 ?_
  refine lv_istore (lv' := [(6, .int x6_24), (5, .int x5_14), (4, .int x4_7), (3, .int x3_3), (0, .ref (a 0)), (1, .int x1), (2, .int x2)]) hx hb dL_fill_73 hl (by decide) rfl (fun ls hl => ?_)
  refine lv_aload_n hx hb dL_fill_75 rfl (lv_at hl 4 rfl) ?_
  refine lv_iload_n hx hb dL_fill_76 rfl (lv_at hl 3 rfl) ?_
  obtain ⟨v26, g27, h⟩ := o_b h
  refine k_rwL (va_runS (As := [.ref (a 0), .int x3_3]) (rest := []) ⟨hx, hb, hml, hown, hts⟩ (c_L_number l dC dI cI cF a v22.2 x3_3 v26 g27 H.size) (va_cwS 2 hts gL_fill_L_number rfl rfl rfl (by decide +kernel) ⟨Nat.le_of_ble_eq_true rfl, Nat.le_of_ble_eq_true rfl⟩) (k_preSLw hK hP hD (LN_id (fX5 a cI cF v22.2 v26))) rfl rfl hl.1 rfl (lv_room (Nat.le_of_ble_eq_true rfl)) dL_fill_77 ⟨Nat.zero_le _, Nat.zero_le _⟩) (st1 := []) rfl hP hD hS hA (wn := wX5 a cI cF v26) (LN_id (fX5 a cI cF v22.2 v26)) (fun H locs hP hD hS => ?_)
  refine lv_aload_n hx hb dL_fill_80 rfl (lv_at hl 4 rfl) ?_
  refine lv_bipush (v := (44 : Int32)) hx hb dL_fill_81 (by decide) ?_
  obtain ⟨v28, g29, h⟩ := o_b h
  have g29 := o_R_ g29
  refine k_rwL (va_runV (As := [.int (44 : Int32)]) (rest := []) ⟨hx, hb, hml, hown, hts⟩ (c_X5_append l dC dI cI cF a v26 (44 : Int32) v28 g29 H.size) (cwV 1 hts gL_fill_X5_append rfl rfl rfl (by decide +kernel) ⟨Nat.le_of_ble_eq_true rfl, Nat.le_of_ble_eq_true rfl⟩) (k_preLw (q0 := 0) (ci := 5) hK hP hD (LN_id (fX5 a cI cF v26 v28.2)) rfl rfl rfl) rfl rfl hl.1 rfl (lv_room (Nat.le_of_ble_eq_true rfl)) dL_fill_83 ⟨Nat.zero_le _, Nat.zero_le _⟩) (st1 := [.int v28.1]) rfl hP hD hS hA (wn := wX5 a cI cF v28.2) (LN_id (fX5 a cI cF v26 v28.2)) (fun H locs hP hD hS => ?_)
  obtain ⟨x6_30, e31, h⟩ := o_n h
  refine lv_nmi e31 ?_
  refine lv_istore (lv' := [(6, .int x6_30), (5, .int x5_14), (4, .int x4_7), (3, .int x3_3), (0, .ref (a 0)), (1, .int x1), (2, .int x2)]) hx hb dL_fill_86 hl (by decide) rfl (fun ls hl => ?_)
  refine lv_aload_n hx hb dL_fill_88 rfl (lv_at hl 4 rfl) ?_
  refine lv_iload hx hb dL_fill_89 (lv_at hl 1 rfl) ?_
  refine lv_iload_n hx hb dL_fill_91 rfl (lv_at hl 6 rfl) ?_
  refine lv_bipush (v := (6 : Int32)) hx hb dL_fill_92 (by decide) ?_
  refine lv_ishr hx hb dL_fill_94 ?_
  refine lv_bipush (v := (9 : Int32)) hx hb dL_fill_95 (by decide) ?_
  obtain ⟨v32, g33, h⟩ := o_b h
  refine k_ro (va_runS (As := [.int (x2 >>> ((6 : Int32) &&& 31)), .int (9 : Int32)]) (rest := [.int x5_14, .ref (a 0)]) ⟨hx, hb, hml, hown, hts⟩ (c_L_low l dC dI cI cF (x2 >>> ((6 : Int32) &&& 31)) (9 : Int32) v32 g33) (va_cwS 2 hts gL_fill_L_low rfl rfl rfl (by decide +kernel) ⟨Nat.le_of_ble_eq_true rfl, Nat.le_of_ble_eq_true rfl⟩) (k_prePU) rfl rfl hl.1 rfl (lv_room (Nat.le_of_ble_eq_true rfl)) dL_fill_97 ⟨Nat.zero_le _, Nat.zero_le _⟩) (st1 := [.int v32, .int x5_14, .ref (a 0)]) rfl ?_
  refine lv_iadd hx hb dL_fill_100 ?_
  obtain ⟨v34, g35, h⟩ := o_b h
  refine k_rwL (va_runS (As := [.ref (a 0), .int (x5_14 + v32)]) (rest := []) ⟨hx, hb, hml, hown, hts⟩ (c_L_number l dC dI cI cF a v28.2 (x5_14 + v32) v34 g35 H.size) (va_cwS 2 hts gL_fill_L_number rfl rfl rfl (by decide +kernel) ⟨Nat.le_of_ble_eq_true rfl, Nat.le_of_ble_eq_true rfl⟩) (k_preSLw hK hP hD (LN_id (fX5 a cI cF v28.2 v34))) rfl rfl hl.1 rfl (lv_room (Nat.le_of_ble_eq_true rfl)) dL_fill_101 ⟨Nat.zero_le _, Nat.zero_le _⟩) (st1 := []) rfl hP hD hS hA (wn := wX5 a cI cF v34) (LN_id (fX5 a cI cF v28.2 v34)) (fun H locs hP hD hS => ?_)
  refine lv_aload_n hx hb dL_fill_104 rfl (lv_at hl 4 rfl) ?_
  refine lv_bipush (v := (44 : Int32)) hx hb dL_fill_105 (by decide) ?_
  obtain ⟨v36, g37, h⟩ := o_b h
  have g37 := o_R_ g37
  refine k_rwL (va_runV (As := [.int (44 : Int32)]) (rest := []) ⟨hx, hb, hml, hown, hts⟩ (c_X5_append l dC dI cI cF a v34 (44 : Int32) v36 g37 H.size) (cwV 1 hts gL_fill_X5_append rfl rfl rfl (by decide +kernel) ⟨Nat.le_of_ble_eq_true rfl, Nat.le_of_ble_eq_true rfl⟩) (k_preLw (q0 := 0) (ci := 5) hK hP hD (LN_id (fX5 a cI cF v34 v36.2)) rfl rfl rfl) rfl rfl hl.1 rfl (lv_room (Nat.le_of_ble_eq_true rfl)) dL_fill_107 ⟨Nat.zero_le _, Nat.zero_le _⟩) (st1 := [.int v36.1]) rfl hP hD hS hA (wn := wX5 a cI cF v36.2) (LN_id (fX5 a cI cF v34 v36.2)) (fun H locs hP hD hS => ?_)
  obtain ⟨x6_38, e39, h⟩ := o_n h
  refine lv_nmi e39 ?_
  refine lv_istore (lv' := [(6, .int x6_38), (5, .int x5_14), (4, .int x4_7), (3, .int x3_3), (0, .ref (a 0)), (1, .int x1), (2, .int x2)]) hx hb dL_fill_110 hl (by decide) rfl (fun ls hl => ?_)
  refine lv_aload_n hx hb dL_fill_112 rfl (lv_at hl 4 rfl) ?_
  refine lv_iload_n hx hb dL_fill_113 rfl (lv_at hl 6 rfl) ?_
  refine lv_iconst (v := (4 : Int32)) hx hb dL_fill_114 (by decide) ?_
  refine lv_ishr hx hb dL_fill_115 ?_
  refine lv_bipush (v := (50 : Int32)) hx hb dL_fill_116 (by decide) ?_
  obtain ⟨v40, g41, h⟩ := o_b h
  refine k_ro (va_runS (As := [.int (x2 >>> ((4 : Int32) &&& 31)), .int (50 : Int32)]) (rest := [.ref (a 0)]) ⟨hx, hb, hml, hown, hts⟩ (c_L_low l dC dI cI cF (x2 >>> ((4 : Int32) &&& 31)) (50 : Int32) v40 g41) (va_cwS 2 hts gL_fill_L_low rfl rfl rfl (by decide +kernel) ⟨Nat.le_of_ble_eq_true rfl, Nat.le_of_ble_eq_true rfl⟩) (k_prePU) rfl rfl hl.1 rfl (lv_room (Nat.le_of_ble_eq_true rfl)) dL_fill_118 ⟨Nat.zero_le _, Nat.zero_le _⟩) (st1 := [.int v40, .ref (a 0)]) rfl ?_
  obtain ⟨v42, g43, h⟩ := o_b h
  refine k_rwL (va_runS (As := [.ref (a 0), .int v40]) (rest := []) ⟨hx, hb, hml, hown, hts⟩ (c_L_number l dC dI cI cF a v36.2 v40 v42 g43 H.size) (va_cwS 2 hts gL_fill_L_number rfl rfl rfl (by decide +kernel) ⟨Nat.le_of_ble_eq_true rfl, Nat.le_of_ble_eq_true rfl⟩) (k_preSLw hK hP hD (LN_id (fX5 a cI cF v36.2 v42))) rfl rfl hl.1 rfl (lv_room (Nat.le_of_ble_eq_true rfl)) dL_fill_121 ⟨Nat.zero_le _, Nat.zero_le _⟩) (st1 := []) rfl hP hD hS hA (wn := wX5 a cI cF v42) (LN_id (fX5 a cI cF v36.2 v42)) (fun H locs hP hD hS => ?_)
  refine lv_aload_n hx hb dL_fill_124 rfl (lv_at hl 4 rfl) ?_
  refine lv_bipush (v := (42 : Int32)) hx hb dL_fill_125 (by decide) ?_
  obtain ⟨v44, g45, h⟩ := o_b h
  have g45 := o_R_ g45
  refine k_rwL (va_runV (As := [.int (42 : Int32)]) (rest := []) ⟨hx, hb, hml, hown, hts⟩ (c_X5_append l dC dI cI cF a v42 (42 : Int32) v44 g45 H.size) (cwV 1 hts gL_fill_X5_append rfl rfl rfl (by decide +kernel) ⟨Nat.le_of_ble_eq_true rfl, Nat.le_of_ble_eq_true rfl⟩) (k_preLw (q0 := 0) (ci := 5) hK hP hD (LN_id (fX5 a cI cF v42 v44.2)) rfl rfl rfl) rfl rfl hl.1 rfl (lv_room (Nat.le_of_ble_eq_true rfl)) dL_fill_127 ⟨Nat.zero_le _, Nat.zero_le _⟩) (st1 := [.int v44.1]) rfl hP hD hS hA (wn := wX5 a cI cF v44.2) (LN_id (fX5 a cI cF v42 v44.2)) (fun H locs hP hD hS => ?_)
  obtain ⟨x6_46, e47, h⟩ := o_n h
  refine lv_nmi e47 ?_
  refine lv_istore (lv' := [(6, .int x6_46), (5, .int x5_14), (4, .int x4_7), (3, .int x3_3), (0, .ref (a 0)), (1, .int x1), (2, .int x2)]) hx hb dL_fill_130 hl (by decide) rfl (fun ls hl => ?_)
  refine lv_aload_n hx hb dL_fill_132 rfl (lv_at hl 4 rfl) ?_
  refine lv_iload hx hb dL_fill_133 (lv_at hl 2 rfl) ?_
  obtain ⟨v48, g49, h⟩ := o_b h
  refine k_rwL (va_runS (As := [.ref (a 0), .int x4_7]) (rest := []) ⟨hx, hb, hml, hown, hts⟩ (c_L_number l dC dI cI cF a v44.2 x4_7 v48 g49 H.size) (va_cwS 2 hts gL_fill_L_number rfl rfl rfl (by decide +kernel) ⟨Nat.le_of_ble_eq_true rfl, Nat.le_of_ble_eq_true rfl⟩) (k_preSLw hK hP hD (LN_id (fX5 a cI cF v44.2 v48))) rfl rfl hl.1 rfl (lv_room (Nat.le_of_ble_eq_true rfl)) dL_fill_135 ⟨Nat.zero_le _, Nat.zero_le _⟩) (st1 := []) rfl hP hD hS hA (wn := wX5 a cI cF v48) (LN_id (fX5 a cI cF v44.2 v48)) (fun H locs hP hD hS => ?_)
  refine lv_aload_n hx hb dL_fill_138 rfl (lv_at hl 4 rfl) ?_
  refine lv_iload_n hx hb dL_fill_139 rfl (lv_at hl 5 rfl) ?_
  obtain ⟨v50, g51, h⟩ := o_b h
  have g51 := o_R_ g51
  refine k_rwL (va_runV (As := [.int x1]) (rest := []) ⟨hx, hb, hml, hown, hts⟩ (c_X5_fill l dC dI cI cF a v48 x1 v50 g51 H.size) (cwV 1 hts gL_fill_X5_fill rfl rfl rfl (by decide +kernel) ⟨Nat.le_of_ble_eq_true rfl, Nat.le_of_ble_eq_true rfl⟩) (k_preLw (q0 := 0) (ci := 5) hK hP hD (LN_id (fX5 a cI cF v48 v50.2)) rfl rfl rfl) rfl rfl hl.1 rfl (lv_room (Nat.le_of_ble_eq_true rfl)) dL_fill_140 ⟨Nat.zero_le _, Nat.zero_le _⟩) (st1 := [.int v50.1]) rfl hP hD hS hA (wn := wX5 a cI cF v50.2) (LN_id (fX5 a cI cF v48 v50.2)) (fun H locs hP hD hS => ?_)
  obtain ⟨x6_52, e53, h⟩ := o_n h
  refine lv_nmi e53 ?_
  refine lv_istore (lv' := [(6, .int x6_52), (5, .int x5_14), (4, .int x4_7), (3, .int x3_3), (0, .ref (a 0)), (1, .int x1), (2, .int x2)]) hx hb dL_fill_143 hl (by decide) rfl (fun ls hl => ?_)
  have hu := Option.some.inj h
  exact W.vret hx hb hr (fun t ht hW => ⟨⟨rfl, by rw [ht, ← hu]; exact hP⟩, hS.F ht⟩) hS.2.2 dL_fill_145

def m_L_does (S : S_X5) (x1 : Int32) : Option (Int32 × S_X5) := if (x1 &&& (15 : Int32)) = 0 then ((m_L_low (x1 >>> ((4 : Int32) &&& 31)) (7 : Int32)).bind fun v2 => ((m_L_fill S v2 (x1 >>> ((5 : Int32) &&& 31))).bind fun v4 => (some ((0 : Int32), v4)))) else if (x1 &&& (15 : Int32)) = 1 then ((m_L_low (x1 >>> ((4 : Int32) &&& 31)) (7 : Int32)).bind fun v7 => ((m_L_fill S v7 (x1 >>> ((5 : Int32) &&& 31))).bind fun v9 => (some ((0 : Int32), v9)))) else if (x1 &&& (15 : Int32)) = 2 then ((m_L_low (x1 >>> ((4 : Int32) &&& 31)) (7 : Int32)).bind fun v12 => ((m_L_fill S v12 (x1 >>> ((5 : Int32) &&& 31))).bind fun v14 => (some ((0 : Int32), v14)))) else if (x1 &&& (15 : Int32)) = 3 then ((m_L_low (x1 >>> ((4 : Int32) &&& 31)) (7 : Int32)).bind fun v17 => ((m_L_fill S v17 (x1 >>> ((5 : Int32) &&& 31))).bind fun v19 => (some ((0 : Int32), v19)))) else if (x1 &&& (15 : Int32)) = 4 then ((m_L_low (x1 >>> ((4 : Int32) &&& 31)) (128 : Int32)).bind fun v22 => ((o_R (m_X5_feed S v22)).bind fun v24 => (if 0 ≤ v24.1 then (some ((0 : Int32), v24.2)) else (some ((0 : Int32), v24.2))))) else if (x1 &&& (15 : Int32)) = 5 then ((m_L_low (x1 >>> ((4 : Int32) &&& 31)) (128 : Int32)).bind fun v28 => ((o_R (m_X5_feed S v28)).bind fun v30 => (if 0 ≤ v30.1 then (some ((0 : Int32), v30.2)) else (some ((0 : Int32), v30.2))))) else if (x1 &&& (15 : Int32)) = 6 then ((m_L_low (x1 >>> ((4 : Int32) &&& 31)) (8 : Int32)).bind fun v34 => ((o_R (m_X5_out S v34)).bind fun v36 => (some (v36.1, v36.2)))) else if (x1 &&& (15 : Int32)) = 7 then ((m_X5_clear S).bind fun v39 => (some (v39.1, v39.2))) else if (x1 &&& (15 : Int32)) = 8 then (if ((x1 >>> ((4 : Int32) &&& 31)) &&& (3 : Int32)) ≤ 0 then ((m_L_low (x1 >>> ((6 : Int32) &&& 31)) (8 : Int32)).bind fun v43 => ((o_R (m_X5_tip S v43)).bind fun v45 => (some (v45.1, v45.2)))) else (some ((0 : Int32), S))) else if (x1 &&& (15 : Int32)) = 9 then ((m_L_low (x1 >>> ((4 : Int32) &&& 31)) (5 : Int32)).bind fun v48 => (if v48 = 0 then ((m_L_low (x1 >>> ((7 : Int32) &&& 31)) (7 : Int32)).bind fun v68 => ((o_R (m_X5_set S v48 v68)).bind fun v70 => (some (v70.1, v70.2)))) else (if v48 = (1 : Int32) then ((m_L_low (x1 >>> ((7 : Int32) &&& 31)) (8 : Int32)).bind fun v64 => ((o_R (m_X5_set S v48 ((1 : Int32) + v64))).bind fun v66 => (some (v66.1, v66.2)))) else (if v48 = (2 : Int32) then ((m_L_low (x1 >>> ((7 : Int32) &&& 31)) (50 : Int32)).bind fun v60 => ((o_R (m_X5_set S v48 ((1 : Int32) + v60))).bind fun v62 => (some (v62.1, v62.2)))) else (if v48 = (3 : Int32) then ((o_R (m_X5_set S v48 ((x1 >>> ((7 : Int32) &&& 31)) &&& (1 : Int32)))).bind fun v58 => (some (v58.1, v58.2))) else ((m_L_low (x1 >>> ((7 : Int32) &&& 31)) (90 : Int32)).bind fun v54 => ((o_R (m_X5_set S v48 ((10 : Int32) + v54))).bind fun v56 => (some (v56.1, v56.2))))))))) else ((m_L_low (x1 >>> ((4 : Int32) &&& 31)) (6 : Int32)).bind fun v72 => ((o_R (m_X5_run S ((1 : Int32) + v72))).bind fun v74 => (some (v74.1, v74.2))))
set_option maxHeartbeats 4000000 in
set_option maxRecDepth 100000 in
theorem c_L_does (l : Launch) (dC : Nat → ClassId) (dI : Nat → Nat → Nat) (cI cF : ClassId) (a : Nat → Nat) (S : S_X5) (x1 : Int32) (u : Int32 × S_X5) (h : m_L_does S x1 = some u) : cRWe l (dC, dI) cI cF yL_does wsL_does ({ frames := 7, cells := 0, slots := 0, locals := 173 } : Room) [.ref (a 0), .int x1] (wX5 a cI cF S) (wX5 a cI cF u.2) (some (.int u.1)) := by
  intro sz
  refine Met.ofW (cc := cL_does) (maxL := 3) (ret := (some .int)) (by decide) rfl ?_
  intro p e s m args below meth c s₁ B hml hv
  obtain ⟨hargs, ⟨hsz, hP, hK, hD0⟩, hE⟩ := hv
  subst hargs
  have hx := B.exec
  have hb := B.bytes
  have hr := B.returns
  have hts := atoms_spec (ws := wsL_does) B.pre
  have hown : s.vm.findClass RL = some m.cls := findClass_of_methodNamed B.named
  have hlocks := B.notSynchronized
  have w14 := hts (.methodLink RL 14 yL_low) (List.mem_of_getElem? (i := 1) rfl)
  have w34 := hts (.methodLink RL 34 yL_fill) (List.mem_of_getElem? (i := 6) rfl)
  have w37 := hts (.methodLink RL 37 yX5_feed) (List.mem_of_getElem? (i := 230) rfl)
  have w40 := hts (.methodLink RL 40 yX5_out) (List.mem_of_getElem? (i := 240) rfl)
  have w43 := hts (.methodLink RL 43 yX5_clear) (List.mem_of_getElem? (i := 245) rfl)
  have w46 := hts (.methodLink RL 46 yX5_tip) (List.mem_of_getElem? (i := 250) rfl)
  have w49 := hts (.methodLink RL 49 yX5_set) (List.mem_of_getElem? (i := 259) rfl)
  have w52 := hts (.methodLink RL 52 yX5_run) (List.mem_of_getElem? (i := 279) rfl)
  subst hsz
  have hD := hD0.self (sz := s.heap.size)
  generalize hAe : va_A (wX5 a cI cF S) s.heap.size = A at hD hE ⊢
  have hA : ∀ q : Nat, s.heap.size ≤ q → A q := fun q h => by rw [← hAe]; exact Or.inr h
  have hS : va_S A s.heap s.heap [] := va_S.rf
  have hl := lv_entry ([.ref (a 0), .int x1]) (n := 3) (Nat.le_of_ble_eq_true rfl)
  rw [lg_entry_eq]
  generalize (lg_sl ([.ref (a 0), .int x1]) ++ List.replicate (3 - (lg_sl ([.ref (a 0), .int x1])).length) Slot.unset).toArray = ls at hl ⊢
  have hl : lv_has ls 3 [(0, .ref (a 0)), (1, .int x1)] := hl
  rw [m_L_does] at h
  refine lv_iload_n hx hb dL_does_0 rfl (lv_at hl 1 rfl) ?_
  refine lv_bipush (v := (15 : Int32)) hx hb dL_does_1 (by decide) ?_
  refine lv_iand hx hb dL_does_3 ?_
  by_cases c_0 : x1 &&& (15 : Int32) = 0
  · have h := o_t h c_0
    refine k_swIn (v := 0) (off := 56) (tgt := 60) hx hb c_0 dL_does_4 (by decide) (by decide) (by decide +kernel) (by decide) ?_
    refine lv_aload_n hx hb dL_does_60 rfl (lv_at hl 0 rfl) ?_
    refine lv_iload_n hx hb dL_does_61 rfl (lv_at hl 1 rfl) ?_
    refine lv_iconst (v := (4 : Int32)) hx hb dL_does_62 (by decide) ?_
    refine lv_ishr hx hb dL_does_63 ?_
    refine lv_bipush (v := (7 : Int32)) hx hb dL_does_64 (by decide) ?_
    obtain ⟨v2, g3, h⟩ := o_b h
    refine k_ro (va_runS (As := [.int (x1 >>> ((4 : Int32) &&& 31)), .int (7 : Int32)]) (rest := [.ref (a 0)]) ⟨hx, hb, hml, hown, hts⟩ (c_L_low l dC dI cI cF (x1 >>> ((4 : Int32) &&& 31)) (7 : Int32) v2 g3) (va_cwS 2 hts gL_does_L_low rfl rfl rfl (by decide +kernel) ⟨Nat.le_of_ble_eq_true rfl, Nat.le_of_ble_eq_true rfl⟩) (k_prePU) rfl rfl hl.1 rfl (lv_room (Nat.le_of_ble_eq_true rfl)) dL_does_66 ⟨Nat.zero_le _, Nat.zero_le _⟩) (st1 := [.int v2, .ref (a 0)]) rfl ?_
    refine lv_iload_n hx hb dL_does_69 rfl (lv_at hl 1 rfl) ?_
    refine lv_iconst (v := (5 : Int32)) hx hb dL_does_70 (by decide) ?_
    refine lv_ishr hx hb dL_does_71 ?_
    obtain ⟨v4, g5, h⟩ := o_b h
    refine k_rwL (va_runS (As := [.ref (a 0), .int v2, .int (x1 >>> ((5 : Int32) &&& 31))]) (rest := []) ⟨hx, hb, hml, hown, hts⟩ (c_L_fill l dC dI cI cF a S v2 (x1 >>> ((5 : Int32) &&& 31)) v4 g5 s.heap.size) (va_cwS 3 hts gL_does_L_fill rfl rfl rfl (by decide +kernel) ⟨Nat.le_of_ble_eq_true rfl, Nat.le_of_ble_eq_true rfl⟩) (k_preSLw hK hP hD (LN_id (fX5 a cI cF S v4))) rfl rfl hl.1 rfl (lv_room (Nat.le_of_ble_eq_true rfl)) dL_does_72 ⟨Nat.zero_le _, Nat.zero_le _⟩) (st1 := []) rfl hP hD hS hA (wn := wX5 a cI cF v4) (LN_id (fX5 a cI cF S v4)) (fun H locs hP hD hS => ?_)
    refine lv_iconst (v := (0 : Int32)) hx hb dL_does_75 (by decide) ?_
    have hu := Option.some.inj h
    exact W.iret (v := (0 : Int32)) hx hb hr (fun t ht hW => ⟨⟨congrArg (fun z => Outcome.returned (some (Value.int z.1))) hu, by rw [ht, ← hu]; exact hP⟩, hS.F ht⟩) hS.2.2 dL_does_76
  have h := o_f h c_0
  by_cases c_1 : x1 &&& (15 : Int32) = 1
  · have h := o_t h c_1
    refine k_swIn (v := 1) (off := 56) (tgt := 60) hx hb c_1 dL_does_4 (by decide) (by decide) (by decide +kernel) (by decide) ?_
    refine lv_aload_n hx hb dL_does_60 rfl (lv_at hl 0 rfl) ?_
    refine lv_iload_n hx hb dL_does_61 rfl (lv_at hl 1 rfl) ?_
    refine lv_iconst (v := (4 : Int32)) hx hb dL_does_62 (by decide) ?_
    refine lv_ishr hx hb dL_does_63 ?_
    refine lv_bipush (v := (7 : Int32)) hx hb dL_does_64 (by decide) ?_
    obtain ⟨v7, g8, h⟩ := o_b h
    refine k_ro (va_runS (As := [.int (x1 >>> ((4 : Int32) &&& 31)), .int (7 : Int32)]) (rest := [.ref (a 0)]) ⟨hx, hb, hml, hown, hts⟩ (c_L_low l dC dI cI cF (x1 >>> ((4 : Int32) &&& 31)) (7 : Int32) v7 g8) (va_cwS 2 hts gL_does_L_low rfl rfl rfl (by decide +kernel) ⟨Nat.le_of_ble_eq_true rfl, Nat.le_of_ble_eq_true rfl⟩) (k_prePU) rfl rfl hl.1 rfl (lv_room (Nat.le_of_ble_eq_true rfl)) dL_does_66 ⟨Nat.zero_le _, Nat.zero_le _⟩) (st1 := [.int v7, .ref (a 0)]) rfl ?_
    refine lv_iload_n hx hb dL_does_69 rfl (lv_at hl 1 rfl) ?_
    refine lv_iconst (v := (5 : Int32)) hx hb dL_does_70 (by decide) ?_
    refine lv_ishr hx hb dL_does_71 ?_
    obtain ⟨v9, g10, h⟩ := o_b h
    refine k_rwL (va_runS (As := [.ref (a 0), .int v7, .int (x1 >>> ((5 : Int32) &&& 31))]) (rest := []) ⟨hx, hb, hml, hown, hts⟩ (c_L_fill l dC dI cI cF a S v7 (x1 >>> ((5 : Int32) &&& 31)) v9 g10 s.heap.size) (va_cwS 3 hts gL_does_L_fill rfl rfl rfl (by decide +kernel) ⟨Nat.le_of_ble_eq_true rfl, Nat.le_of_ble_eq_true rfl⟩) (k_preSLw hK hP hD (LN_id (fX5 a cI cF S v9))) rfl rfl hl.1 rfl (lv_room (Nat.le_of_ble_eq_true rfl)) dL_does_72 ⟨Nat.zero_le _, Nat.zero_le _⟩) (st1 := []) rfl hP hD hS hA (wn := wX5 a cI cF v9) (LN_id (fX5 a cI cF S v9)) (fun H locs hP hD hS => ?_)
    refine lv_iconst (v := (0 : Int32)) hx hb dL_does_75 (by decide) ?_
    have hu := Option.some.inj h
    exact W.iret (v := (0 : Int32)) hx hb hr (fun t ht hW => ⟨⟨congrArg (fun z => Outcome.returned (some (Value.int z.1))) hu, by rw [ht, ← hu]; exact hP⟩, hS.F ht⟩) hS.2.2 dL_does_76
  have h := o_f h c_1
  by_cases c_2 : x1 &&& (15 : Int32) = 2
  · have h := o_t h c_2
    refine k_swIn (v := 2) (off := 56) (tgt := 60) hx hb c_2 dL_does_4 (by decide) (by decide) (by decide +kernel) (by decide) ?_
    refine lv_aload_n hx hb dL_does_60 rfl (lv_at hl 0 rfl) ?_
    refine lv_iload_n hx hb dL_does_61 rfl (lv_at hl 1 rfl) ?_
    refine lv_iconst (v := (4 : Int32)) hx hb dL_does_62 (by decide) ?_
    refine lv_ishr hx hb dL_does_63 ?_
    refine lv_bipush (v := (7 : Int32)) hx hb dL_does_64 (by decide) ?_
    obtain ⟨v12, g13, h⟩ := o_b h
    refine k_ro (va_runS (As := [.int (x1 >>> ((4 : Int32) &&& 31)), .int (7 : Int32)]) (rest := [.ref (a 0)]) ⟨hx, hb, hml, hown, hts⟩ (c_L_low l dC dI cI cF (x1 >>> ((4 : Int32) &&& 31)) (7 : Int32) v12 g13) (va_cwS 2 hts gL_does_L_low rfl rfl rfl (by decide +kernel) ⟨Nat.le_of_ble_eq_true rfl, Nat.le_of_ble_eq_true rfl⟩) (k_prePU) rfl rfl hl.1 rfl (lv_room (Nat.le_of_ble_eq_true rfl)) dL_does_66 ⟨Nat.zero_le _, Nat.zero_le _⟩) (st1 := [.int v12, .ref (a 0)]) rfl ?_
    refine lv_iload_n hx hb dL_does_69 rfl (lv_at hl 1 rfl) ?_
    refine lv_iconst (v := (5 : Int32)) hx hb dL_does_70 (by decide) ?_
    refine lv_ishr hx hb dL_does_71 ?_
    obtain ⟨v14, g15, h⟩ := o_b h
    refine k_rwL (va_runS (As := [.ref (a 0), .int v12, .int (x1 >>> ((5 : Int32) &&& 31))]) (rest := []) ⟨hx, hb, hml, hown, hts⟩ (c_L_fill l dC dI cI cF a S v12 (x1 >>> ((5 : Int32) &&& 31)) v14 g15 s.heap.size) (va_cwS 3 hts gL_does_L_fill rfl rfl rfl (by decide +kernel) ⟨Nat.le_of_ble_eq_true rfl, Nat.le_of_ble_eq_true rfl⟩) (k_preSLw hK hP hD (LN_id (fX5 a cI cF S v14))) rfl rfl hl.1 rfl (lv_room (Nat.le_of_ble_eq_true rfl)) dL_does_72 ⟨Nat.zero_le _, Nat.zero_le _⟩) (st1 := []) rfl hP hD hS hA (wn := wX5 a cI cF v14) (LN_id (fX5 a cI cF S v14)) (fun H locs hP hD hS => ?_)
    refine lv_iconst (v := (0 : Int32)) hx hb dL_does_75 (by decide) ?_
    have hu := Option.some.inj h
    exact W.iret (v := (0 : Int32)) hx hb hr (fun t ht hW => ⟨⟨congrArg (fun z => Outcome.returned (some (Value.int z.1))) hu, by rw [ht, ← hu]; exact hP⟩, hS.F ht⟩) hS.2.2 dL_does_76
  have h := o_f h c_2
  by_cases c_3 : x1 &&& (15 : Int32) = 3
  · have h := o_t h c_3
    refine k_swIn (v := 3) (off := 56) (tgt := 60) hx hb c_3 dL_does_4 (by decide) (by decide) (by decide +kernel) (by decide) ?_
    refine lv_aload_n hx hb dL_does_60 rfl (lv_at hl 0 rfl) ?_
    refine lv_iload_n hx hb dL_does_61 rfl (lv_at hl 1 rfl) ?_
    refine lv_iconst (v := (4 : Int32)) hx hb dL_does_62 (by decide) ?_
    refine lv_ishr hx hb dL_does_63 ?_
    refine lv_bipush (v := (7 : Int32)) hx hb dL_does_64 (by decide) ?_
    obtain ⟨v17, g18, h⟩ := o_b h
    refine k_ro (va_runS (As := [.int (x1 >>> ((4 : Int32) &&& 31)), .int (7 : Int32)]) (rest := [.ref (a 0)]) ⟨hx, hb, hml, hown, hts⟩ (c_L_low l dC dI cI cF (x1 >>> ((4 : Int32) &&& 31)) (7 : Int32) v17 g18) (va_cwS 2 hts gL_does_L_low rfl rfl rfl (by decide +kernel) ⟨Nat.le_of_ble_eq_true rfl, Nat.le_of_ble_eq_true rfl⟩) (k_prePU) rfl rfl hl.1 rfl (lv_room (Nat.le_of_ble_eq_true rfl)) dL_does_66 ⟨Nat.zero_le _, Nat.zero_le _⟩) (st1 := [.int v17, .ref (a 0)]) rfl ?_
    refine lv_iload_n hx hb dL_does_69 rfl (lv_at hl 1 rfl) ?_
    refine lv_iconst (v := (5 : Int32)) hx hb dL_does_70 (by decide) ?_
    refine lv_ishr hx hb dL_does_71 ?_
    obtain ⟨v19, g20, h⟩ := o_b h
    refine k_rwL (va_runS (As := [.ref (a 0), .int v17, .int (x1 >>> ((5 : Int32) &&& 31))]) (rest := []) ⟨hx, hb, hml, hown, hts⟩ (c_L_fill l dC dI cI cF a S v17 (x1 >>> ((5 : Int32) &&& 31)) v19 g20 s.heap.size) (va_cwS 3 hts gL_does_L_fill rfl rfl rfl (by decide +kernel) ⟨Nat.le_of_ble_eq_true rfl, Nat.le_of_ble_eq_true rfl⟩) (k_preSLw hK hP hD (LN_id (fX5 a cI cF S v19))) rfl rfl hl.1 rfl (lv_room (Nat.le_of_ble_eq_true rfl)) dL_does_72 ⟨Nat.zero_le _, Nat.zero_le _⟩) (st1 := []) rfl hP hD hS hA (wn := wX5 a cI cF v19) (LN_id (fX5 a cI cF S v19)) (fun H locs hP hD hS => ?_)
    refine lv_iconst (v := (0 : Int32)) hx hb dL_does_75 (by decide) ?_
    have hu := Option.some.inj h
    exact W.iret (v := (0 : Int32)) hx hb hr (fun t ht hW => ⟨⟨congrArg (fun z => Outcome.returned (some (Value.int z.1))) hu, by rw [ht, ← hu]; exact hP⟩, hS.F ht⟩) hS.2.2 dL_does_76
  have h := o_f h c_3
  by_cases c_4 : x1 &&& (15 : Int32) = 4
  · have h := o_t h c_4
    refine k_swIn (v := 4) (off := 73) (tgt := 77) hx hb c_4 dL_does_4 (by decide) (by decide) (by decide +kernel) (by decide) ?_
    refine lv_aload_n hx hb dL_does_77 rfl (lv_at hl 0 rfl) ?_
    refine lv_iload_n hx hb dL_does_78 rfl (lv_at hl 1 rfl) ?_
    refine lv_iconst (v := (4 : Int32)) hx hb dL_does_79 (by decide) ?_
    refine lv_ishr hx hb dL_does_80 ?_
    refine lv_sipush (v := (128 : Int32)) hx hb dL_does_81 (by decide) ?_
    obtain ⟨v22, g23, h⟩ := o_b h
    refine k_ro (va_runS (As := [.int (x1 >>> ((4 : Int32) &&& 31)), .int (128 : Int32)]) (rest := [.ref (a 0)]) ⟨hx, hb, hml, hown, hts⟩ (c_L_low l dC dI cI cF (x1 >>> ((4 : Int32) &&& 31)) (128 : Int32) v22 g23) (va_cwS 2 hts gL_does_L_low rfl rfl rfl (by decide +kernel) ⟨Nat.le_of_ble_eq_true rfl, Nat.le_of_ble_eq_true rfl⟩) (k_prePU) rfl rfl hl.1 rfl (lv_room (Nat.le_of_ble_eq_true rfl)) dL_does_84 ⟨Nat.zero_le _, Nat.zero_le _⟩) (st1 := [.int v22, .ref (a 0)]) rfl ?_
    obtain ⟨v24, g25, h⟩ := o_b h
    have g25 := o_R_ g25
    refine k_rwL (va_runV (As := [.int v22]) (rest := []) ⟨hx, hb, hml, hown, hts⟩ (c_X5_feed l dC dI cI cF a S v22 v24 g25 s.heap.size) (cwV 1 hts gL_does_X5_feed rfl rfl rfl (by decide +kernel) ⟨Nat.le_of_ble_eq_true rfl, Nat.le_of_ble_eq_true rfl⟩) (k_preLw (q0 := 0) (ci := 5) hK hP hD (LN_id (fX5 a cI cF S v24.2)) rfl rfl rfl) rfl rfl hl.1 rfl (lv_room (Nat.le_of_ble_eq_true rfl)) dL_does_87 ⟨Nat.zero_le _, Nat.zero_le _⟩) (st1 := [.int v24.1]) rfl hP hD hS hA (wn := wX5 a cI cF v24.2) (LN_id (fX5 a cI cF S v24.2)) (fun H locs hP hD hS => ?_)
    refine lv_if_ge (tgt := 97) hx hb dL_does_90 (by decide) (fun c26 => ?_) (fun c26 => ?_)
    · have h := o_t h c26
      refine lv_iconst (v := (0 : Int32)) hx hb dL_does_97 (by decide) ?_
      have hu := Option.some.inj h
      exact W.iret (v := (0 : Int32)) hx hb hr (fun t ht hW => ⟨⟨congrArg (fun z => Outcome.returned (some (Value.int z.1))) hu, by rw [ht, ← hu]; exact hP⟩, hS.F ht⟩) hS.2.2 dL_does_98
    have h := o_f h c26
    refine lv_iconst (v := (0 : Int32)) hx hb dL_does_93 (by decide) ?_
    refine lv_goto (tgt := 98) hx hb dL_does_94 (by decide) ?_
    have hu := Option.some.inj h
    exact W.iret (v := (0 : Int32)) hx hb hr (fun t ht hW => ⟨⟨congrArg (fun z => Outcome.returned (some (Value.int z.1))) hu, by rw [ht, ← hu]; exact hP⟩, hS.F ht⟩) hS.2.2 dL_does_98
  have h := o_f h c_4
  by_cases c_5 : x1 &&& (15 : Int32) = 5
  · have h := o_t h c_5
    refine k_swIn (v := 5) (off := 73) (tgt := 77) hx hb c_5 dL_does_4 (by decide) (by decide) (by decide +kernel) (by decide) ?_
    refine lv_aload_n hx hb dL_does_77 rfl (lv_at hl 0 rfl) ?_
    refine lv_iload_n hx hb dL_does_78 rfl (lv_at hl 1 rfl) ?_
    refine lv_iconst (v := (4 : Int32)) hx hb dL_does_79 (by decide) ?_
    refine lv_ishr hx hb dL_does_80 ?_
    refine lv_sipush (v := (128 : Int32)) hx hb dL_does_81 (by decide) ?_
    obtain ⟨v28, g29, h⟩ := o_b h
    refine k_ro (va_runS (As := [.int (x1 >>> ((4 : Int32) &&& 31)), .int (128 : Int32)]) (rest := [.ref (a 0)]) ⟨hx, hb, hml, hown, hts⟩ (c_L_low l dC dI cI cF (x1 >>> ((4 : Int32) &&& 31)) (128 : Int32) v28 g29) (va_cwS 2 hts gL_does_L_low rfl rfl rfl (by decide +kernel) ⟨Nat.le_of_ble_eq_true rfl, Nat.le_of_ble_eq_true rfl⟩) (k_prePU) rfl rfl hl.1 rfl (lv_room (Nat.le_of_ble_eq_true rfl)) dL_does_84 ⟨Nat.zero_le _, Nat.zero_le _⟩) (st1 := [.int v28, .ref (a 0)]) rfl ?_
    obtain ⟨v30, g31, h⟩ := o_b h
    have g31 := o_R_ g31
    refine k_rwL (va_runV (As := [.int v28]) (rest := []) ⟨hx, hb, hml, hown, hts⟩ (c_X5_feed l dC dI cI cF a S v28 v30 g31 s.heap.size) (cwV 1 hts gL_does_X5_feed rfl rfl rfl (by decide +kernel) ⟨Nat.le_of_ble_eq_true rfl, Nat.le_of_ble_eq_true rfl⟩) (k_preLw (q0 := 0) (ci := 5) hK hP hD (LN_id (fX5 a cI cF S v30.2)) rfl rfl rfl) rfl rfl hl.1 rfl (lv_room (Nat.le_of_ble_eq_true rfl)) dL_does_87 ⟨Nat.zero_le _, Nat.zero_le _⟩) (st1 := [.int v30.1]) rfl hP hD hS hA (wn := wX5 a cI cF v30.2) (LN_id (fX5 a cI cF S v30.2)) (fun H locs hP hD hS => ?_)
    refine lv_if_ge (tgt := 97) hx hb dL_does_90 (by decide) (fun c32 => ?_) (fun c32 => ?_)
    · have h := o_t h c32
      refine lv_iconst (v := (0 : Int32)) hx hb dL_does_97 (by decide) ?_
      have hu := Option.some.inj h
      exact W.iret (v := (0 : Int32)) hx hb hr (fun t ht hW => ⟨⟨congrArg (fun z => Outcome.returned (some (Value.int z.1))) hu, by rw [ht, ← hu]; exact hP⟩, hS.F ht⟩) hS.2.2 dL_does_98
    have h := o_f h c32
    refine lv_iconst (v := (0 : Int32)) hx hb dL_does_93 (by decide) ?_
    refine lv_goto (tgt := 98) hx hb dL_does_94 (by decide) ?_
    have hu := Option.some.inj h
    exact W.iret (v := (0 : Int32)) hx hb hr (fun t ht hW => ⟨⟨congrArg (fun z => Outcome.returned (some (Value.int z.1))) hu, by rw [ht, ← hu]; exact hP⟩, hS.F ht⟩) hS.2.2 dL_does_98
  have h := o_f h c_5
  by_cases c_6 : x1 &&& (15 : Int32) = 6
  · have h := o_t h c_6
    refine k_swIn (v := 6) (off := 95) (tgt := 99) hx hb c_6 dL_does_4 (by decide) (by decide) (by decide +kernel) (by decide) ?_
    refine lv_aload_n hx hb dL_does_99 rfl (lv_at hl 0 rfl) ?_
    refine lv_iload_n hx hb dL_does_100 rfl (lv_at hl 1 rfl) ?_
    refine lv_iconst (v := (4 : Int32)) hx hb dL_does_101 (by decide) ?_
    refine lv_ishr hx hb dL_does_102 ?_
    refine lv_bipush (v := (8 : Int32)) hx hb dL_does_103 (by decide) ?_
    obtain ⟨v34, g35, h⟩ := o_b h
    refine k_ro (va_runS (As := [.int (x1 >>> ((4 : Int32) &&& 31)), .int (8 : Int32)]) (rest := [.ref (a 0)]) ⟨hx, hb, hml, hown, hts⟩ (c_L_low l dC dI cI cF (x1 >>> ((4 : Int32) &&& 31)) (8 : Int32) v34 g35) (va_cwS 2 hts gL_does_L_low rfl rfl rfl (by decide +kernel) ⟨Nat.le_of_ble_eq_true rfl, Nat.le_of_ble_eq_true rfl⟩) (k_prePU) rfl rfl hl.1 rfl (lv_room (Nat.le_of_ble_eq_true rfl)) dL_does_105 ⟨Nat.zero_le _, Nat.zero_le _⟩) (st1 := [.int v34, .ref (a 0)]) rfl ?_
    obtain ⟨v36, g37, h⟩ := o_b h
    have g37 := o_R_ g37
    refine k_rwL (va_runV (As := [.int v34]) (rest := []) ⟨hx, hb, hml, hown, hts⟩ (c_X5_out l dC dI cI cF a S v34 v36 g37 s.heap.size) (cwV 1 hts gL_does_X5_out rfl rfl rfl (by decide +kernel) ⟨Nat.le_of_ble_eq_true rfl, Nat.le_of_ble_eq_true rfl⟩) (k_preLw (q0 := 0) (ci := 5) hK hP hD (LN_id (fX5 a cI cF S v36.2)) rfl rfl rfl) rfl rfl hl.1 rfl (lv_room (Nat.le_of_ble_eq_true rfl)) dL_does_108 ⟨Nat.zero_le _, Nat.zero_le _⟩) (st1 := [.int v36.1]) rfl hP hD hS hA (wn := wX5 a cI cF v36.2) (LN_id (fX5 a cI cF S v36.2)) (fun H locs hP hD hS => ?_)
    have hu := Option.some.inj h
    exact W.iret (v := v36.1) hx hb hr (fun t ht hW => ⟨⟨congrArg (fun z => Outcome.returned (some (Value.int z.1))) hu, by rw [ht, ← hu]; exact hP⟩, hS.F ht⟩) hS.2.2 dL_does_111
  have h := o_f h c_6
  by_cases c_7 : x1 &&& (15 : Int32) = 7
  · have h := o_t h c_7
    refine k_swIn (v := 7) (off := 108) (tgt := 112) hx hb c_7 dL_does_4 (by decide) (by decide) (by decide +kernel) (by decide) ?_
    refine lv_aload_n hx hb dL_does_112 rfl (lv_at hl 0 rfl) ?_
    obtain ⟨v39, g40, h⟩ := o_b h
    refine k_rwL (va_runV (As := []) (rest := []) ⟨hx, hb, hml, hown, hts⟩ (c_X5_clear l dC dI cI cF a S v39 g40 s.heap.size) (cwV 0 hts gL_does_X5_clear rfl rfl rfl (by decide +kernel) ⟨Nat.le_of_ble_eq_true rfl, Nat.le_of_ble_eq_true rfl⟩) (k_preLw (q0 := 0) (ci := 5) hK hP hD (LN_id (fX5 a cI cF S v39.2)) rfl rfl rfl) rfl rfl hl.1 rfl (lv_room (Nat.le_of_ble_eq_true rfl)) dL_does_113 ⟨Nat.zero_le _, Nat.zero_le _⟩) (st1 := [.int v39.1]) rfl hP hD hS hA (wn := wX5 a cI cF v39.2) (LN_id (fX5 a cI cF S v39.2)) (fun H locs hP hD hS => ?_)
    have hu := Option.some.inj h
    exact W.iret (v := v39.1) hx hb hr (fun t ht hW => ⟨⟨congrArg (fun z => Outcome.returned (some (Value.int z.1))) hu, by rw [ht, ← hu]; exact hP⟩, hS.F ht⟩) hS.2.2 dL_does_116
  have h := o_f h c_7
  by_cases c_8 : x1 &&& (15 : Int32) = 8
  · have h := o_t h c_8
    refine k_swIn (v := 8) (off := 113) (tgt := 117) hx hb c_8 dL_does_4 (by decide) (by decide) (by decide +kernel) (by decide) ?_
    refine lv_iload_n hx hb dL_does_117 rfl (lv_at hl 1 rfl) ?_
    refine lv_iconst (v := (4 : Int32)) hx hb dL_does_118 (by decide) ?_
    refine lv_ishr hx hb dL_does_119 ?_
    refine lv_iconst (v := (3 : Int32)) hx hb dL_does_120 (by decide) ?_
    refine lv_iand hx hb dL_does_121 ?_
    refine lv_if_le (tgt := 129) hx hb dL_does_122 (by decide) (fun c42 => ?_) (fun c42 => ?_)
    rotate_left
    · have h := o_f h c42
      refine lv_iconst (v := (0 : Int32)) hx hb dL_does_125 (by decide) ?_
      refine lv_goto (tgt := 142) hx hb dL_does_126 (by decide) ?_
      have hu := Option.some.inj h
      exact W.iret (v := (0 : Int32)) hx hb hr (fun t ht hW => ⟨⟨congrArg (fun z => Outcome.returned (some (Value.int z.1))) hu, by rw [ht, ← hu]; exact hP⟩, hS.F ht⟩) hS.2.2 dL_does_142
    have h := o_t h c42
    refine lv_aload_n hx hb dL_does_129 rfl (lv_at hl 0 rfl) ?_
    refine lv_iload_n hx hb dL_does_130 rfl (lv_at hl 1 rfl) ?_
    refine lv_bipush (v := (6 : Int32)) hx hb dL_does_131 (by decide) ?_
    refine lv_ishr hx hb dL_does_133 ?_
    refine lv_bipush (v := (8 : Int32)) hx hb dL_does_134 (by decide) ?_
    obtain ⟨v43, g44, h⟩ := o_b h
    refine k_ro (va_runS (As := [.int (x1 >>> ((6 : Int32) &&& 31)), .int (8 : Int32)]) (rest := [.ref (a 0)]) ⟨hx, hb, hml, hown, hts⟩ (c_L_low l dC dI cI cF (x1 >>> ((6 : Int32) &&& 31)) (8 : Int32) v43 g44) (va_cwS 2 hts gL_does_L_low rfl rfl rfl (by decide +kernel) ⟨Nat.le_of_ble_eq_true rfl, Nat.le_of_ble_eq_true rfl⟩) (k_prePU) rfl rfl hl.1 rfl (lv_room (Nat.le_of_ble_eq_true rfl)) dL_does_136 ⟨Nat.zero_le _, Nat.zero_le _⟩) (st1 := [.int v43, .ref (a 0)]) rfl ?_
    obtain ⟨v45, g46, h⟩ := o_b h
    have g46 := o_R_ g46
    refine k_rwL (va_runV (As := [.int v43]) (rest := []) ⟨hx, hb, hml, hown, hts⟩ (c_X5_tip l dC dI cI cF a S v43 v45 g46 s.heap.size) (cwV 1 hts gL_does_X5_tip rfl rfl rfl (by decide +kernel) ⟨Nat.le_of_ble_eq_true rfl, Nat.le_of_ble_eq_true rfl⟩) (k_preLw (q0 := 0) (ci := 5) hK hP hD (LN_id (fX5 a cI cF S v45.2)) rfl rfl rfl) rfl rfl hl.1 rfl (lv_room (Nat.le_of_ble_eq_true rfl)) dL_does_139 ⟨Nat.zero_le _, Nat.zero_le _⟩) (st1 := [.int v45.1]) rfl hP hD hS hA (wn := wX5 a cI cF v45.2) (LN_id (fX5 a cI cF S v45.2)) (fun H locs hP hD hS => ?_)
    have hu := Option.some.inj h
    exact W.iret (v := v45.1) hx hb hr (fun t ht hW => ⟨⟨congrArg (fun z => Outcome.returned (some (Value.int z.1))) hu, by rw [ht, ← hu]; exact hP⟩, hS.F ht⟩) hS.2.2 dL_does_142
  have h := o_f h c_8
  by_cases c_9 : x1 &&& (15 : Int32) = 9
  · have h := o_t h c_9
    refine k_swIn (v := 9) (off := 139) (tgt := 143) hx hb c_9 dL_does_4 (by decide) (by decide) (by decide +kernel) (by decide) ?_
    refine lv_iload_n hx hb dL_does_143 rfl (lv_at hl 1 rfl) ?_
    refine lv_iconst (v := (4 : Int32)) hx hb dL_does_144 (by decide) ?_
    refine lv_ishr hx hb dL_does_145 ?_
    refine lv_iconst (v := (5 : Int32)) hx hb dL_does_146 (by decide) ?_
    obtain ⟨v48, g49, h⟩ := o_b h
    refine k_ro (va_runS (As := [.int (x1 >>> ((4 : Int32) &&& 31)), .int (5 : Int32)]) (rest := []) ⟨hx, hb, hml, hown, hts⟩ (c_L_low l dC dI cI cF (x1 >>> ((4 : Int32) &&& 31)) (5 : Int32) v48 g49) (va_cwS 2 hts gL_does_L_low rfl rfl rfl (by decide +kernel) ⟨Nat.le_of_ble_eq_true rfl, Nat.le_of_ble_eq_true rfl⟩) (k_prePU) rfl rfl hl.1 rfl (lv_room (Nat.le_of_ble_eq_true rfl)) dL_does_147 ⟨Nat.zero_le _, Nat.zero_le _⟩) (st1 := [.int v48]) rfl ?_
    refine lv_istore_n (lv' := [(2, .int v48), (0, .ref (a 0)), (1, .int x1)]) hx hb dL_does_150 rfl hl (by decide) rfl (fun ls hl => ?_)
    refine lv_aload_n hx hb dL_does_151 rfl (lv_at hl 1 rfl) ?_
    refine lv_iload_n hx hb dL_does_152 rfl (lv_at hl 0 rfl) ?_
    refine lv_iload_n hx hb dL_does_153 rfl (lv_at hl 0 rfl) ?_
    refine lv_if_ne (tgt := 169) hx hb dL_does_154 (by decide) (fun c50 => ?_) (fun c50 => ?_)
    rotate_left
    · have h := o_t h c50
      refine lv_iload_n hx hb dL_does_157 rfl (lv_at hl 2 rfl) ?_
      refine lv_bipush (v := (7 : Int32)) hx hb dL_does_158 (by decide) ?_
      refine lv_ishr hx hb dL_does_160 ?_
      refine lv_bipush (v := (7 : Int32)) hx hb dL_does_161 (by decide) ?_
      obtain ⟨v68, g69, h⟩ := o_b h
      refine k_ro (va_runS (As := [.int (x1 >>> ((7 : Int32) &&& 31)), .int (7 : Int32)]) (rest := [.int v48, .ref (a 0)]) ⟨hx, hb, hml, hown, hts⟩ (c_L_low l dC dI cI cF (x1 >>> ((7 : Int32) &&& 31)) (7 : Int32) v68 g69) (va_cwS 2 hts gL_does_L_low rfl rfl rfl (by decide +kernel) ⟨Nat.le_of_ble_eq_true rfl, Nat.le_of_ble_eq_true rfl⟩) (k_prePU) rfl rfl hl.1 rfl (lv_room (Nat.le_of_ble_eq_true rfl)) dL_does_163 ⟨Nat.zero_le _, Nat.zero_le _⟩) (st1 := [.int v68, .int v48, .ref (a 0)]) rfl ?_
      refine lv_goto (tgt := 233) hx hb dL_does_166 (by decide) ?_
      obtain ⟨v70, g71, h⟩ := o_b h
      have g71 := o_R_ g71
      refine k_rwL (va_runV (As := [.int v48, .int v68]) (rest := []) ⟨hx, hb, hml, hown, hts⟩ (c_X5_set l dC dI cI cF a S v48 v68 v70 g71 s.heap.size) (cwV 2 hts gL_does_X5_set rfl rfl rfl (by decide +kernel) ⟨Nat.le_of_ble_eq_true rfl, Nat.le_of_ble_eq_true rfl⟩) (k_preLwe (q0 := 0) (ci := 5) hE hS hA hK hP hD (LN_id (fX5 a cI cF S v70.2)) rfl rfl rfl) rfl rfl hl.1 rfl (lv_room (Nat.le_of_ble_eq_true rfl)) dL_does_233 ⟨Nat.zero_le _, Nat.zero_le _⟩) (st1 := [.int v70.1]) rfl hP hD hS hA (wn := wX5 a cI cF v70.2) (LN_id (fX5 a cI cF S v70.2)) (fun H locs hP hD hS => ?_)
      have hu := Option.some.inj h
      exact W.iret (v := v70.1) hx hb hr (fun t ht hW => ⟨⟨congrArg (fun z => Outcome.returned (some (Value.int z.1))) hu, by rw [ht, ← hu]; exact hP⟩, hS.F ht⟩) hS.2.2 dL_does_236
    have h := o_f h c50
    refine lv_iload_n hx hb dL_does_169 rfl (lv_at hl 0 rfl) ?_
    refine lv_iconst (v := (1 : Int32)) hx hb dL_does_170 (by decide) ?_
    refine lv_icmp_ne (tgt := 188) hx hb dL_does_171 (by decide) (fun c51 => ?_) (fun c51 => ?_)
    rotate_left
    · have h := o_t h c51
      refine lv_iconst (v := (1 : Int32)) hx hb dL_does_174 (by decide) ?_
      refine lv_iload_n hx hb dL_does_175 rfl (lv_at hl 2 rfl) ?_
      refine lv_bipush (v := (7 : Int32)) hx hb dL_does_176 (by decide) ?_
      refine lv_ishr hx hb dL_does_178 ?_
      refine lv_bipush (v := (8 : Int32)) hx hb dL_does_179 (by decide) ?_
      obtain ⟨v64, g65, h⟩ := o_b h
      refine k_ro (va_runS (As := [.int (x1 >>> ((7 : Int32) &&& 31)), .int (8 : Int32)]) (rest := [.int (1 : Int32), .int v48, .ref (a 0)]) ⟨hx, hb, hml, hown, hts⟩ (c_L_low l dC dI cI cF (x1 >>> ((7 : Int32) &&& 31)) (8 : Int32) v64 g65) (va_cwS 2 hts gL_does_L_low rfl rfl rfl (by decide +kernel) ⟨Nat.le_of_ble_eq_true rfl, Nat.le_of_ble_eq_true rfl⟩) (k_prePU) rfl rfl hl.1 rfl (lv_room (Nat.le_of_ble_eq_true rfl)) dL_does_181 ⟨Nat.zero_le _, Nat.zero_le _⟩) (st1 := [.int v64, .int (1 : Int32), .int v48, .ref (a 0)]) rfl ?_
      refine lv_iadd hx hb dL_does_184 ?_
      refine lv_goto (tgt := 233) hx hb dL_does_185 (by decide) ?_
      obtain ⟨v66, g67, h⟩ := o_b h
      have g67 := o_R_ g67
      refine k_rwL (va_runV (As := [.int v48, .int ((1 : Int32) + v64)]) (rest := []) ⟨hx, hb, hml, hown, hts⟩ (c_X5_set l dC dI cI cF a S v48 ((1 : Int32) + v64) v66 g67 s.heap.size) (cwV 2 hts gL_does_X5_set rfl rfl rfl (by decide +kernel) ⟨Nat.le_of_ble_eq_true rfl, Nat.le_of_ble_eq_true rfl⟩) (k_preLwe (q0 := 0) (ci := 5) hE hS hA hK hP hD (LN_id (fX5 a cI cF S v66.2)) rfl rfl rfl) rfl rfl hl.1 rfl (lv_room (Nat.le_of_ble_eq_true rfl)) dL_does_233 ⟨Nat.zero_le _, Nat.zero_le _⟩) (st1 := [.int v66.1]) rfl hP hD hS hA (wn := wX5 a cI cF v66.2) (LN_id (fX5 a cI cF S v66.2)) (fun H locs hP hD hS => ?_)
      have hu := Option.some.inj h
      exact W.iret (v := v66.1) hx hb hr (fun t ht hW => ⟨⟨congrArg (fun z => Outcome.returned (some (Value.int z.1))) hu, by rw [ht, ← hu]; exact hP⟩, hS.F ht⟩) hS.2.2 dL_does_236
    have h := o_f h c51
    refine lv_iload_n hx hb dL_does_188 rfl (lv_at hl 0 rfl) ?_
    refine lv_iconst (v := (2 : Int32)) hx hb dL_does_189 (by decide) ?_
    refine lv_icmp_ne (tgt := 207) hx hb dL_does_190 (by decide) (fun c52 => ?_) (fun c52 => ?_)
    rotate_left
    · have h := o_t h c52
      refine lv_iconst (v := (1 : Int32)) hx hb dL_does_193 (by decide) ?_
      refine lv_iload_n hx hb dL_does_194 rfl (lv_at hl 2 rfl) ?_
      refine lv_bipush (v := (7 : Int32)) hx hb dL_does_195 (by decide) ?_
      refine lv_ishr hx hb dL_does_197 ?_
      refine lv_bipush (v := (50 : Int32)) hx hb dL_does_198 (by decide) ?_
      obtain ⟨v60, g61, h⟩ := o_b h
      refine k_ro (va_runS (As := [.int (x1 >>> ((7 : Int32) &&& 31)), .int (50 : Int32)]) (rest := [.int (1 : Int32), .int v48, .ref (a 0)]) ⟨hx, hb, hml, hown, hts⟩ (c_L_low l dC dI cI cF (x1 >>> ((7 : Int32) &&& 31)) (50 : Int32) v60 g61) (va_cwS 2 hts gL_does_L_low rfl rfl rfl (by decide +kernel) ⟨Nat.le_of_ble_eq_true rfl, Nat.le_of_ble_eq_true rfl⟩) (k_prePU) rfl rfl hl.1 rfl (lv_room (Nat.le_of_ble_eq_true rfl)) dL_does_200 ⟨Nat.zero_le _, Nat.zero_le _⟩) (st1 := [.int v60, .int (1 : Int32), .int v48, .ref (a 0)]) rfl ?_
      refine lv_iadd hx hb dL_does_203 ?_
      refine lv_goto (tgt := 233) hx hb dL_does_204 (by decide) ?_
      obtain ⟨v62, g63, h⟩ := o_b h
      have g63 := o_R_ g63
      refine k_rwL (va_runV (As := [.int v48, .int ((1 : Int32) + v60)]) (rest := []) ⟨hx, hb, hml, hown, hts⟩ (c_X5_set l dC dI cI cF a S v48 ((1 : Int32) + v60) v62 g63 s.heap.size) (cwV 2 hts gL_does_X5_set rfl rfl rfl (by decide +kernel) ⟨Nat.le_of_ble_eq_true rfl, Nat.le_of_ble_eq_true rfl⟩) (k_preLwe (q0 := 0) (ci := 5) hE hS hA hK hP hD (LN_id (fX5 a cI cF S v62.2)) rfl rfl rfl) rfl rfl hl.1 rfl (lv_room (Nat.le_of_ble_eq_true rfl)) dL_does_233 ⟨Nat.zero_le _, Nat.zero_le _⟩) (st1 := [.int v62.1]) rfl hP hD hS hA (wn := wX5 a cI cF v62.2) (LN_id (fX5 a cI cF S v62.2)) (fun H locs hP hD hS => ?_)
      have hu := Option.some.inj h
      exact W.iret (v := v62.1) hx hb hr (fun t ht hW => ⟨⟨congrArg (fun z => Outcome.returned (some (Value.int z.1))) hu, by rw [ht, ← hu]; exact hP⟩, hS.F ht⟩) hS.2.2 dL_does_236
    have h := o_f h c52
    refine lv_iload_n hx hb dL_does_207 rfl (lv_at hl 0 rfl) ?_
    refine lv_iconst (v := (3 : Int32)) hx hb dL_does_208 (by decide) ?_
    refine lv_icmp_ne (tgt := 221) hx hb dL_does_209 (by decide) (fun c53 => ?_) (fun c53 => ?_)
    rotate_left
    · have h := o_t h c53
      refine lv_iload_n hx hb dL_does_212 rfl (lv_at hl 2 rfl) ?_
      refine lv_bipush (v := (7 : Int32)) hx hb dL_does_213 (by decide) ?_
      refine lv_ishr hx hb dL_does_215 ?_
      refine lv_iconst (v := (1 : Int32)) hx hb dL_does_216 (by decide) ?_
      refine lv_iand hx hb dL_does_217 ?_
      refine lv_goto (tgt := 233) hx hb dL_does_218 (by decide) ?_
      obtain ⟨v58, g59, h⟩ := o_b h
      have g59 := o_R_ g59
      refine k_rwL (va_runV (As := [.int v48, .int ((x1 >>> ((7 : Int32) &&& 31)) &&& (1 : Int32))]) (rest := []) ⟨hx, hb, hml, hown, hts⟩ (c_X5_set l dC dI cI cF a S v48 ((x1 >>> ((7 : Int32) &&& 31)) &&& (1 : Int32)) v58 g59 s.heap.size) (cwV 2 hts gL_does_X5_set rfl rfl rfl (by decide +kernel) ⟨Nat.le_of_ble_eq_true rfl, Nat.le_of_ble_eq_true rfl⟩) (k_preLwe (q0 := 0) (ci := 5) hE hS hA hK hP hD (LN_id (fX5 a cI cF S v58.2)) rfl rfl rfl) rfl rfl hl.1 rfl (lv_room (Nat.le_of_ble_eq_true rfl)) dL_does_233 ⟨Nat.zero_le _, Nat.zero_le _⟩) (st1 := [.int v58.1]) rfl hP hD hS hA (wn := wX5 a cI cF v58.2) (LN_id (fX5 a cI cF S v58.2)) (fun H locs hP hD hS => ?_)
      have hu := Option.some.inj h
      exact W.iret (v := v58.1) hx hb hr (fun t ht hW => ⟨⟨congrArg (fun z => Outcome.returned (some (Value.int z.1))) hu, by rw [ht, ← hu]; exact hP⟩, hS.F ht⟩) hS.2.2 dL_does_236
    have h := o_f h c53
    refine lv_bipush (v := (10 : Int32)) hx hb dL_does_221 (by decide) ?_
    refine lv_iload_n hx hb dL_does_223 rfl (lv_at hl 2 rfl) ?_
    refine lv_bipush (v := (7 : Int32)) hx hb dL_does_224 (by decide) ?_
    refine lv_ishr hx hb dL_does_226 ?_
    refine lv_bipush (v := (90 : Int32)) hx hb dL_does_227 (by decide) ?_
    obtain ⟨v54, g55, h⟩ := o_b h
    refine k_ro (va_runS (As := [.int (x1 >>> ((7 : Int32) &&& 31)), .int (90 : Int32)]) (rest := [.int (10 : Int32), .int v48, .ref (a 0)]) ⟨hx, hb, hml, hown, hts⟩ (c_L_low l dC dI cI cF (x1 >>> ((7 : Int32) &&& 31)) (90 : Int32) v54 g55) (va_cwS 2 hts gL_does_L_low rfl rfl rfl (by decide +kernel) ⟨Nat.le_of_ble_eq_true rfl, Nat.le_of_ble_eq_true rfl⟩) (k_prePU) rfl rfl hl.1 rfl (lv_room (Nat.le_of_ble_eq_true rfl)) dL_does_229 ⟨Nat.zero_le _, Nat.zero_le _⟩) (st1 := [.int v54, .int (10 : Int32), .int v48, .ref (a 0)]) rfl ?_
    refine lv_iadd hx hb dL_does_232 ?_
    obtain ⟨v56, g57, h⟩ := o_b h
    have g57 := o_R_ g57
    refine k_rwL (va_runV (As := [.int v48, .int ((10 : Int32) + v54)]) (rest := []) ⟨hx, hb, hml, hown, hts⟩ (c_X5_set l dC dI cI cF a S v48 ((10 : Int32) + v54) v56 g57 s.heap.size) (cwV 2 hts gL_does_X5_set rfl rfl rfl (by decide +kernel) ⟨Nat.le_of_ble_eq_true rfl, Nat.le_of_ble_eq_true rfl⟩) (k_preLwe (q0 := 0) (ci := 5) hE hS hA hK hP hD (LN_id (fX5 a cI cF S v56.2)) rfl rfl rfl) rfl rfl hl.1 rfl (lv_room (Nat.le_of_ble_eq_true rfl)) dL_does_233 ⟨Nat.zero_le _, Nat.zero_le _⟩) (st1 := [.int v56.1]) rfl hP hD hS hA (wn := wX5 a cI cF v56.2) (LN_id (fX5 a cI cF S v56.2)) (fun H locs hP hD hS => ?_)
    have hu := Option.some.inj h
    exact W.iret (v := v56.1) hx hb hr (fun t ht hW => ⟨⟨congrArg (fun z => Outcome.returned (some (Value.int z.1))) hu, by rw [ht, ← hu]; exact hP⟩, hS.F ht⟩) hS.2.2 dL_does_236
  have h := o_f h c_9
  refine lv_tableOut (tgt := 237) hx hb dL_does_4 (k_swOut 9 (by decide) _ (fun k hk => ?_)) (by decide) ?_
  · rcases (show k = 0 ∨ k = 1 ∨ k = 2 ∨ k = 3 ∨ k = 4 ∨ k = 5 ∨ k = 6 ∨ k = 7 ∨ k = 8 ∨ k = 9 by omega) with rfl | rfl | rfl | rfl | rfl | rfl | rfl | rfl | rfl | rfl <;> first | exact c_0 | exact c_1 | exact c_2 | exact c_3 | exact c_4 | exact c_5 | exact c_6 | exact c_7 | exact c_8 | exact c_9
  refine lv_aload_n hx hb dL_does_237 rfl (lv_at hl 0 rfl) ?_
  refine lv_iconst (v := (1 : Int32)) hx hb dL_does_238 (by decide) ?_
  refine lv_iload_n hx hb dL_does_239 rfl (lv_at hl 1 rfl) ?_
  refine lv_iconst (v := (4 : Int32)) hx hb dL_does_240 (by decide) ?_
  refine lv_ishr hx hb dL_does_241 ?_
  refine lv_bipush (v := (6 : Int32)) hx hb dL_does_242 (by decide) ?_
  obtain ⟨v72, g73, h⟩ := o_b h
  refine k_ro (va_runS (As := [.int (x1 >>> ((4 : Int32) &&& 31)), .int (6 : Int32)]) (rest := [.int (1 : Int32), .ref (a 0)]) ⟨hx, hb, hml, hown, hts⟩ (c_L_low l dC dI cI cF (x1 >>> ((4 : Int32) &&& 31)) (6 : Int32) v72 g73) (va_cwS 2 hts gL_does_L_low rfl rfl rfl (by decide +kernel) ⟨Nat.le_of_ble_eq_true rfl, Nat.le_of_ble_eq_true rfl⟩) (k_prePU) rfl rfl hl.1 rfl (lv_room (Nat.le_of_ble_eq_true rfl)) dL_does_244 ⟨Nat.zero_le _, Nat.zero_le _⟩) (st1 := [.int v72, .int (1 : Int32), .ref (a 0)]) rfl ?_
  refine lv_iadd hx hb dL_does_247 ?_
  obtain ⟨v74, g75, h⟩ := o_b h
  have g75 := o_R_ g75
  refine k_rwL (va_runV (As := [.int ((1 : Int32) + v72)]) (rest := []) ⟨hx, hb, hml, hown, hts⟩ (c_X5_run l dC dI cI cF a S ((1 : Int32) + v72) v74 g75 s.heap.size) (cwV 1 hts gL_does_X5_run rfl rfl rfl (by decide +kernel) ⟨Nat.le_of_ble_eq_true rfl, Nat.le_of_ble_eq_true rfl⟩) (k_preLw (q0 := 0) (ci := 5) hK hP hD (LN_id (fX5 a cI cF S v74.2)) rfl rfl rfl) rfl rfl hl.1 rfl (lv_room (Nat.le_of_ble_eq_true rfl)) dL_does_248 ⟨Nat.zero_le _, Nat.zero_le _⟩) (st1 := [.int v74.1]) rfl hP hD hS hA (wn := wX5 a cI cF v74.2) (LN_id (fX5 a cI cF S v74.2)) (fun H locs hP hD hS => ?_)
  have hu := Option.some.inj h
  exact W.iret (v := v74.1) hx hb hr (fun t ht hW => ⟨⟨congrArg (fun z => Outcome.returned (some (Value.int z.1))) hu, by rw [ht, ← hu]; exact hP⟩, hS.F ht⟩) hS.2.2 dL_does_251

