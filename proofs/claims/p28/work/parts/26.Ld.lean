-- L_isRunSo L_areBestSo
def m_L_isRunSo_L150 (y8 : Int32) (t0 : Int32) (S : S_X5) : Option (Int32 × S_X5) := (o_R (m_X5_undo S)).bind fun v32 => (nmL (v32.1) fun x12_34 => ((o_R (m_X5_undo v32.2)).bind fun v36 => (nmL (v36.1) fun x12_38 => (if t0 = 0 then (some ((0 : Int32), v36.2)) else (if x12_38 < 0 then (some ((0 : Int32), v36.2)) else ((o_R (m_X5_count v36.2 (6 : Int32))).bind fun v42 => (if v42 = y8 then (some ((1 : Int32), v36.2)) else (some ((0 : Int32), v36.2)))))))))
def m_L_isRunSo (S : S_X5) (x1 : Int32) (x2 : Int32) : Option (Int32 × S_X5) := (o_R (m_X5_ifRun S (x1 + x2) (0 : Int32))).bind fun v1 => (nmL (v1.1) fun x3_3 => ((o_R (m_X5_ifRun v1.2 (x1 + x2) (1 : Int32))).bind fun v5 => (nmL (v5.1) fun x4_7 => ((o_R (m_X5_ifRun v5.2 (x1 + x2) (2 : Int32))).bind fun v9 => (nmL (v9.1) fun x5_11 => ((o_R (m_X5_ifRun v9.2 (x1 + x2) (3 : Int32))).bind fun v13 => (nmL (v13.1) fun x6_15 => ((o_R (m_X5_ifRun v13.2 (x1 + x2) (4 : Int32))).bind fun v17 => (nmL (v17.1) fun x7_19 => ((o_R (m_X5_count v17.2 (6 : Int32))).bind fun v21 => ((o_R (m_X5_run v17.2 x1)).bind fun v23 => (nmL (v23.1) fun x9_25 => ((o_R (m_X5_run v23.2 x2)).bind fun v27 => (nmL (v27.1) fun x10_29 => (if (x9_25 + x10_29) = x3_3 then ((o_R (m_X5_count v27.2 (2 : Int32))).bind fun v45 => ((o_R (m_X5_can v27.2 v45 (4 : Int32))).bind fun v47 => (if v47 = x4_7 then ((o_R (m_X5_count v27.2 (2 : Int32))).bind fun v50 => ((o_R (m_X5_can v27.2 v50 (5 : Int32))).bind fun v52 => (if v52 = x5_11 then ((o_R (m_X5_count v27.2 (6 : Int32))).bind fun v55 => (if v55 = (v21 + x6_15) then ((m_X5_why v27.2).bind fun v58 => (if v58 = x7_19 then (if x3_3 = (x1 + x2) then (m_L_isRunSo_L150 v21 (1 : Int32) v27.2) else (if x7_19 ≤ 0 then (m_L_isRunSo_L150 v21 (0 : Int32) v27.2) else (m_L_isRunSo_L150 v21 (1 : Int32) v27.2))) else (m_L_isRunSo_L150 v21 (0 : Int32) v27.2))) else (m_L_isRunSo_L150 v21 (0 : Int32) v27.2))) else (m_L_isRunSo_L150 v21 (0 : Int32) v27.2)))) else (m_L_isRunSo_L150 v21 (0 : Int32) v27.2)))) else (m_L_isRunSo_L150 v21 (0 : Int32) v27.2))))))))))))))))
set_option maxHeartbeats 4000000 in
set_option maxRecDepth 100000 in
theorem c_L_isRunSo (l : Launch) (dC : Nat → ClassId) (dI : Nat → Nat → Nat) (cI cF : ClassId) (a : Nat → Nat) (S : S_X5) (x1 : Int32) (x2 : Int32) (u : Int32 × S_X5) (h : m_L_isRunSo S x1 x2 = some u) : cRW l (dC, dI) cI cF yL_isRunSo wsL_isRunSo ({ frames := 6, cells := 0, slots := 0, locals := 175 } : Room) [.ref (a 0), .int x1, .int x2] (wX5 a cI cF S) (wX5 a cI cF u.2) (some (.int u.1)) := by
  intro sz
  refine Met.ofW (cc := cL_isRunSo) (maxL := 13) (ret := (some .boolean)) (by decide) rfl ?_
  intro p e s m args below meth c s₁ B hml hv
  obtain ⟨hargs, hsz, hP, hK, hD0⟩ := hv
  subst hargs
  have hx := B.exec
  have hb := B.bytes
  have hr := B.returns
  have hts := atoms_spec (ws := wsL_isRunSo) B.pre
  have hown : s.vm.findClass RL = some m.cls := findClass_of_methodNamed B.named
  have hlocks := B.notSynchronized
  have w20 := hts (.methodLink RL 20 yX5_can) (List.mem_of_getElem? (i := 189) rfl)
  have w52 := hts (.methodLink RL 52 yX5_run) (List.mem_of_getElem? (i := 174) rfl)
  have w58 := hts (.methodLink RL 58 yX5_count) (List.mem_of_getElem? (i := 148) rfl)
  have w65 := hts (.methodLink RL 65 yX5_why) (List.mem_of_getElem? (i := 204) rfl)
  have w74 := hts (.methodLink RL 74 yX5_undo) (List.mem_of_getElem? (i := 208) rfl)
  have w77 := hts (.methodLink RL 77 yX5_ifRun) (List.mem_of_getElem? (i := 1) rfl)
  subst hsz
  have hD := hD0.self (sz := s.heap.size)
  generalize hAe : va_A (wX5 a cI cF S) s.heap.size = A at hD ⊢
  have hA : ∀ q : Nat, s.heap.size ≤ q → A q := fun q h => by rw [← hAe]; exact Or.inr h
  have hS : va_S A s.heap s.heap [] := va_S.rf
  have L150 : ∀ (y8 : Int32) (t0 : Int32) (S : S_X5), m_L_isRunSo_L150 y8 t0 S = some u → ∀ (H : Heap) (locs : List Loc), va_P (dC, dI) vwCl (wX5 a cI cF S) H → va_D A (wX5 a cI cF S) → va_S A s.heap H locs → ∀ (ls : Array Slot), lv_has ls 13 [(0, .ref (a 0)), (8, .int y8)] → W p l e (headSpec wsL_isRunSo ({ frames := 6, cells := 0, slots := 0, locals := 175 } : Room)).room s m ([.ref (a 0), .int x1, .int x2] : List Value).toArray below meth c H locs 0 0 (MQ below (qRW (dC, dI) (wX5 a cI cF u.2) (some (.int u.1)) A) ([.ref (a 0), .int x1, .int x2] : List Value).toArray s 0 0 A) (F0 m 150 ls [.int t0]) := by
    intro  y8 t0 S h H locs hP hD hS ls hl
    rw [m_L_isRunSo_L150] at h
    refine lv_istore (lv' := [(11, .int t0), (0, .ref (a 0)), (8, .int y8)]) hx hb dL_isRunSo_150 hl (by decide) rfl (fun ls hl => ?_)
    refine lv_aload_n hx hb dL_isRunSo_152 rfl (lv_at hl 1 rfl) ?_
    obtain ⟨v32, g33, h⟩ := o_b h
    have g33 := o_R_ g33
    refine k_rwL (va_runV (As := []) (rest := []) ⟨hx, hb, hml, hown, hts⟩ (c_X5_undo l dC dI cI cF a S v32 g33 H.size) (cwV 0 hts gL_isRunSo_X5_undo rfl rfl rfl (by decide +kernel) ⟨Nat.le_of_ble_eq_true rfl, Nat.le_of_ble_eq_true rfl⟩) (k_preLw (q0 := 0) (ci := 5) hK hP hD (LN_id (fX5 a cI cF S v32.2)) rfl rfl rfl) rfl rfl hl.1 rfl (lv_room (Nat.le_of_ble_eq_true rfl)) dL_isRunSo_153 ⟨Nat.zero_le _, Nat.zero_le _⟩) (st1 := [.int v32.1]) rfl hP hD hS hA (wn := wX5 a cI cF v32.2) (LN_id (fX5 a cI cF S v32.2)) (fun H locs hP hD hS => ?_)
    obtain ⟨x12_34, e35, h⟩ := o_n h
    refine lv_nmi e35 ?_
    refine lv_istore (lv' := [(12, .int x12_34), (11, .int t0), (0, .ref (a 0)), (8, .int y8)]) hx hb dL_isRunSo_156 hl (by decide) rfl (fun ls hl => ?_)
    refine lv_aload_n hx hb dL_isRunSo_158 rfl (lv_at hl 2 rfl) ?_
    obtain ⟨v36, g37, h⟩ := o_b h
    have g37 := o_R_ g37
    refine k_rwL (va_runV (As := []) (rest := []) ⟨hx, hb, hml, hown, hts⟩ (c_X5_undo l dC dI cI cF a v32.2 v36 g37 H.size) (cwV 0 hts gL_isRunSo_X5_undo rfl rfl rfl (by decide +kernel) ⟨Nat.le_of_ble_eq_true rfl, Nat.le_of_ble_eq_true rfl⟩) (k_preLw (q0 := 0) (ci := 5) hK hP hD (LN_id (fX5 a cI cF v32.2 v36.2)) rfl rfl rfl) rfl rfl hl.1 rfl (lv_room (Nat.le_of_ble_eq_true rfl)) dL_isRunSo_159 ⟨Nat.zero_le _, Nat.zero_le _⟩) (st1 := [.int v36.1]) rfl hP hD hS hA (wn := wX5 a cI cF v36.2) (LN_id (fX5 a cI cF v32.2 v36.2)) (fun H locs hP hD hS => ?_)
    obtain ⟨x12_38, e39, h⟩ := o_n h
    refine lv_nmi e39 ?_
    refine lv_istore (lv' := [(12, .int x12_38), (11, .int t0), (0, .ref (a 0)), (8, .int y8)]) hx hb dL_isRunSo_162 hl (by decide) rfl (fun ls hl => ?_)
    refine lv_iload hx hb dL_isRunSo_164 (lv_at hl 1 rfl) ?_
    refine lv_if_eq (tgt := 189) hx hb dL_isRunSo_166 (by decide) (fun c40 => ?_) (fun c40 => ?_)
    · have h := o_t h c40
      refine lv_iconst (v := (0 : Int32)) hx hb dL_isRunSo_189 (by decide) ?_
      have hu := Option.some.inj h
      exact W.zret (v := (0 : Int32)) hx hb hr rfl (fun t ht hW => ⟨⟨congrArg (fun z => Outcome.returned (some (Value.int z.1))) hu, by rw [ht, ← hu]; exact hP⟩, hS.F ht⟩) hS.2.2 dL_isRunSo_190
    have h := o_f h c40
    refine lv_iload hx hb dL_isRunSo_169 (lv_at hl 0 rfl) ?_
    refine lv_if_lt (tgt := 189) hx hb dL_isRunSo_171 (by decide) (fun c41 => ?_) (fun c41 => ?_)
    · have h := o_t h c41
      refine lv_iconst (v := (0 : Int32)) hx hb dL_isRunSo_189 (by decide) ?_
      have hu := Option.some.inj h
      exact W.zret (v := (0 : Int32)) hx hb hr rfl (fun t ht hW => ⟨⟨congrArg (fun z => Outcome.returned (some (Value.int z.1))) hu, by rw [ht, ← hu]; exact hP⟩, hS.F ht⟩) hS.2.2 dL_isRunSo_190
    have h := o_f h c41
    refine lv_aload_n hx hb dL_isRunSo_174 rfl (lv_at hl 2 rfl) ?_
    refine lv_bipush (v := (6 : Int32)) hx hb dL_isRunSo_175 (by decide) ?_
    obtain ⟨v42, g43, h⟩ := o_b h
    have g43 := o_R_ g43
    refine k_ro (va_runV (As := [.int (6 : Int32)]) (rest := []) ⟨hx, hb, hml, hown, hts⟩ (c_X5_count l dC dI cI cF a v36.2 (6 : Int32) v42 g43) (cwV 1 hts gL_isRunSo_X5_count rfl rfl rfl (by decide +kernel) ⟨Nat.le_of_ble_eq_true rfl, Nat.le_of_ble_eq_true rfl⟩) (k_preL (q0 := 0) (ci := 5) hK hP (LN_id (fX5 a cI cF v36.2 v36.2)) rfl rfl rfl) rfl rfl hl.1 rfl (lv_room (Nat.le_of_ble_eq_true rfl)) dL_isRunSo_177 ⟨Nat.zero_le _, Nat.zero_le _⟩) (st1 := [.int v42]) rfl ?_
    refine lv_iload hx hb dL_isRunSo_180 (lv_at hl 3 rfl) ?_
    refine lv_icmp_ne (tgt := 189) hx hb dL_isRunSo_182 (by decide) (fun c44 => ?_) (fun c44 => ?_)
    · have h := o_f h c44
      refine lv_iconst (v := (0 : Int32)) hx hb dL_isRunSo_189 (by decide) ?_
      have hu := Option.some.inj h
      exact W.zret (v := (0 : Int32)) hx hb hr rfl (fun t ht hW => ⟨⟨congrArg (fun z => Outcome.returned (some (Value.int z.1))) hu, by rw [ht, ← hu]; exact hP⟩, hS.F ht⟩) hS.2.2 dL_isRunSo_190
    have h := o_t h c44
    refine lv_iconst (v := (1 : Int32)) hx hb dL_isRunSo_185 (by decide) ?_
    refine lv_goto (tgt := 190) hx hb dL_isRunSo_186 (by decide) ?_
    have hu := Option.some.inj h
    exact W.zret (v := (1 : Int32)) hx hb hr rfl (fun t ht hW => ⟨⟨congrArg (fun z => Outcome.returned (some (Value.int z.1))) hu, by rw [ht, ← hu]; exact hP⟩, hS.F ht⟩) hS.2.2 dL_isRunSo_190
  have hl := lv_entry ([.ref (a 0), .int x1, .int x2]) (n := 13) (Nat.le_of_ble_eq_true rfl)
  rw [lg_entry_eq]
  generalize (lg_sl ([.ref (a 0), .int x1, .int x2]) ++ List.replicate (13 - (lg_sl ([.ref (a 0), .int x1, .int x2])).length) Slot.unset).toArray = ls at hl ⊢
  have hl : lv_has ls 13 [(0, .ref (a 0)), (1, .int x1), (2, .int x2)] := hl
  rw [m_L_isRunSo] at h
  refine lv_aload_n hx hb dL_isRunSo_0 rfl (lv_at hl 0 rfl) ?_
  refine lv_iload_n hx hb dL_isRunSo_1 rfl (lv_at hl 1 rfl) ?_
  refine lv_iload_n hx hb dL_isRunSo_2 rfl (lv_at hl 2 rfl) ?_
  refine lv_iadd hx hb dL_isRunSo_3 ?_
  refine lv_iconst (v := (0 : Int32)) hx hb dL_isRunSo_4 (by decide) ?_
  obtain ⟨v1, g2, h⟩ := o_b h
  have g2 := o_R_ g2
  refine k_rwL (va_runV (As := [.int (x1 + x2), .int (0 : Int32)]) (rest := []) ⟨hx, hb, hml, hown, hts⟩ (c_X5_ifRun l dC dI cI cF a S (x1 + x2) (0 : Int32) v1 g2 s.heap.size) (cwV 2 hts gL_isRunSo_X5_ifRun rfl rfl rfl (by decide +kernel) ⟨Nat.le_of_ble_eq_true rfl, Nat.le_of_ble_eq_true rfl⟩) (k_preLw (q0 := 0) (ci := 5) hK hP hD (LN_id (fX5 a cI cF S v1.2)) rfl rfl rfl) rfl rfl hl.1 rfl (lv_room (Nat.le_of_ble_eq_true rfl)) dL_isRunSo_5 ⟨Nat.zero_le _, Nat.zero_le _⟩) (st1 := [.int v1.1]) rfl hP hD hS hA (wn := wX5 a cI cF v1.2) (LN_id (fX5 a cI cF S v1.2)) (fun H locs hP hD hS => ?_)
  obtain ⟨x3_3, e4, h⟩ := o_n h
  refine lv_nmi e4 ?_
  refine lv_istore_n (lv' := [(3, .int x3_3), (0, .ref (a 0)), (1, .int x1), (2, .int x2)]) hx hb dL_isRunSo_8 rfl hl (by decide) rfl (fun ls hl => ?_)
  refine lv_aload_n hx hb dL_isRunSo_9 rfl (lv_at hl 1 rfl) ?_
  refine lv_iload_n hx hb dL_isRunSo_10 rfl (lv_at hl 2 rfl) ?_
  refine lv_iload_n hx hb dL_isRunSo_11 rfl (lv_at hl 3 rfl) ?_
  refine lv_iadd hx hb dL_isRunSo_12 ?_
  refine lv_iconst (v := (1 : Int32)) hx hb dL_isRunSo_13 (by decide) ?_
  obtain ⟨v5, g6, h⟩ := o_b h
  have g6 := o_R_ g6
  refine k_rwL (va_runV (As := [.int (x1 + x2), .int (1 : Int32)]) (rest := []) ⟨hx, hb, hml, hown, hts⟩ (c_X5_ifRun l dC dI cI cF a v1.2 (x1 + x2) (1 : Int32) v5 g6 H.size) (cwV 2 hts gL_isRunSo_X5_ifRun rfl rfl rfl (by decide +kernel) ⟨Nat.le_of_ble_eq_true rfl, Nat.le_of_ble_eq_true rfl⟩) (k_preLw (q0 := 0) (ci := 5) hK hP hD (LN_id (fX5 a cI cF v1.2 v5.2)) rfl rfl rfl) rfl rfl hl.1 rfl (lv_room (Nat.le_of_ble_eq_true rfl)) dL_isRunSo_14 ⟨Nat.zero_le _, Nat.zero_le _⟩) (st1 := [.int v5.1]) rfl hP hD hS hA (wn := wX5 a cI cF v5.2) (LN_id (fX5 a cI cF v1.2 v5.2)) (fun H locs hP hD hS => ?_)
  obtain ⟨x4_7, e8, h⟩ := o_n h
  refine lv_nmi e8 ?_
  refine lv_istore (lv' := [(4, .int x4_7), (3, .int x3_3), (0, .ref (a 0)), (1, .int x1), (2, .int x2)]) hx hb dL_isRunSo_17 hl (by decide) rfl (fun ls hl => ?_)
  refine lv_aload_n hx hb dL_isRunSo_19 rfl (lv_at hl 2 rfl) ?_
  refine lv_iload_n hx hb dL_isRunSo_20 rfl (lv_at hl 3 rfl) ?_
  refine lv_iload_n hx hb dL_isRunSo_21 rfl (lv_at hl 4 rfl) ?_
  refine lv_iadd hx hb dL_isRunSo_22 ?_
  refine lv_iconst (v := (2 : Int32)) hx hb dL_isRunSo_23 (by decide) ?_
  obtain ⟨v9, g10, h⟩ := o_b h
  have g10 := o_R_ g10
  refine k_rwL (va_runV (As := [.int (x1 + x2), .int (2 : Int32)]) (rest := []) ⟨hx, hb, hml, hown, hts⟩ (c_X5_ifRun l dC dI cI cF a v5.2 (x1 + x2) (2 : Int32) v9 g10 H.size) (cwV 2 hts gL_isRunSo_X5_ifRun rfl rfl rfl (by decide +kernel) ⟨Nat.le_of_ble_eq_true rfl, Nat.le_of_ble_eq_true rfl⟩) (k_preLw (q0 := 0) (ci := 5) hK hP hD (LN_id (fX5 a cI cF v5.2 v9.2)) rfl rfl rfl) rfl rfl hl.1 rfl (lv_room (Nat.le_of_ble_eq_true rfl)) dL_isRunSo_24 ⟨Nat.zero_le _, Nat.zero_le _⟩) (st1 := [.int v9.1]) rfl hP hD hS hA (wn := wX5 a cI cF v9.2) (LN_id (fX5 a cI cF v5.2 v9.2)) (fun H locs hP hD hS => ?_)
  obtain ⟨x5_11, e12, h⟩ := o_n h
  refine lv_nmi e12 ?_
  refine lv_istore (lv' := [(5, .int x5_11), (4, .int x4_7), (3, .int x3_3), (0, .ref (a 0)), (1, .int x1), (2, .int x2)]) hx hb dL_isRunSo_27 hl (by decide) rfl (fun ls hl => ?_)
  refine lv_aload_n hx hb dL_isRunSo_29 rfl (lv_at hl 3 rfl) ?_
  refine lv_iload_n hx hb dL_isRunSo_30 rfl (lv_at hl 4 rfl) ?_
  refine lv_iload_n hx hb dL_isRunSo_31 rfl (lv_at hl 5 rfl) ?_
  refine lv_iadd hx hb dL_isRunSo_32 ?_
  refine lv_iconst (v := (3 : Int32)) hx hb dL_isRunSo_33 (by decide) ?_
  obtain ⟨v13, g14, h⟩ := o_b h
  have g14 := o_R_ g14
  refine k_rwL (va_runV (As := [.int (x1 + x2), .int (3 : Int32)]) (rest := []) ⟨hx, hb, hml, hown, hts⟩ (c_X5_ifRun l dC dI cI cF a v9.2 (x1 + x2) (3 : Int32) v13 g14 H.size) (cwV 2 hts gL_isRunSo_X5_ifRun rfl rfl rfl (by decide +kernel) ⟨Nat.le_of_ble_eq_true rfl, Nat.le_of_ble_eq_true rfl⟩) (k_preLw (q0 := 0) (ci := 5) hK hP hD (LN_id (fX5 a cI cF v9.2 v13.2)) rfl rfl rfl) rfl rfl hl.1 rfl (lv_room (Nat.le_of_ble_eq_true rfl)) dL_isRunSo_34 ⟨Nat.zero_le _, Nat.zero_le _⟩) (st1 := [.int v13.1]) rfl hP hD hS hA (wn := wX5 a cI cF v13.2) (LN_id (fX5 a cI cF v9.2 v13.2)) (fun H locs hP hD hS => ?_)
  obtain ⟨x6_15, e16, h⟩ := o_n h
  refine lv_nmi e16 ?_
  refine lv_istore (lv' := [(6, .int x6_15), (5, .int x5_11), (4, .int x4_7), (3, .int x3_3), (0, .ref (a 0)), (1, .int x1), (2, .int x2)]) hx hb dL_isRunSo_37 hl (by decide) rfl (fun ls hl => ?_)
  refine lv_aload_n hx hb dL_isRunSo_39 rfl (lv_at hl 4 rfl) ?_
  refine lv_iload_n hx hb dL_isRunSo_40 rfl (lv_at hl 5 rfl) ?_
  refine lv_iload_n hx hb dL_isRunSo_41 rfl (lv_at hl 6 rfl) ?_
  refine lv_iadd hx hb dL_isRunSo_42 ?_
  refine lv_iconst (v := (4 : Int32)) hx hb dL_isRunSo_43 (by decide) ?_
  obtain ⟨v17, g18, h⟩ := o_b h
  have g18 := o_R_ g18
  refine k_rwL (va_runV (As := [.int (x1 + x2), .int (4 : Int32)]) (rest := []) ⟨hx, hb, hml, hown, hts⟩ (c_X5_ifRun l dC dI cI cF a v13.2 (x1 + x2) (4 : Int32) v17 g18 H.size) (cwV 2 hts gL_isRunSo_X5_ifRun rfl rfl rfl (by decide +kernel) ⟨Nat.le_of_ble_eq_true rfl, Nat.le_of_ble_eq_true rfl⟩) (k_preLw (q0 := 0) (ci := 5) hK hP hD (LN_id (fX5 a cI cF v13.2 v17.2)) rfl rfl rfl) rfl rfl hl.1 rfl (lv_room (Nat.le_of_ble_eq_true rfl)) dL_isRunSo_44 ⟨Nat.zero_le _, Nat.zero_le _⟩) (st1 := [.int v17.1]) rfl hP hD hS hA (wn := wX5 a cI cF v17.2) (LN_id (fX5 a cI cF v13.2 v17.2)) (fun H locs hP hD hS => ?_)
  obtain ⟨x7_19, e20, h⟩ := o_n h
  refine lv_nmi e20 ?_
  refine lv_istore (lv' := [(7, .int x7_19), (6, .int x6_15), (5, .int x5_11), (4, .int x4_7), (3, .int x3_3), (0, .ref (a 0)), (1, .int x1), (2, .int x2)]) hx hb dL_isRunSo_47 hl (by decide) rfl (fun ls hl => ?_)
  refine lv_aload_n hx hb dL_isRunSo_49 rfl (lv_at hl 5 rfl) ?_
  refine lv_bipush (v := (6 : Int32)) hx hb dL_isRunSo_50 (by decide) ?_
  obtain ⟨v21, g22, h⟩ := o_b h
  have g22 := o_R_ g22
  refine k_ro (va_runV (As := [.int (6 : Int32)]) (rest := []) ⟨hx, hb, hml, hown, hts⟩ (c_X5_count l dC dI cI cF a v17.2 (6 : Int32) v21 g22) (cwV 1 hts gL_isRunSo_X5_count rfl rfl rfl (by decide +kernel) ⟨Nat.le_of_ble_eq_true rfl, Nat.le_of_ble_eq_true rfl⟩) (k_preL (q0 := 0) (ci := 5) hK hP (LN_id (fX5 a cI cF v17.2 v17.2)) rfl rfl rfl) rfl rfl hl.1 rfl (lv_room (Nat.le_of_ble_eq_true rfl)) dL_isRunSo_52 ⟨Nat.zero_le _, Nat.zero_le _⟩) (st1 := [.int v21]) rfl ?_
  refine lv_istore (lv' := [(8, .int v21), (7, .int x7_19), (6, .int x6_15), (5, .int x5_11), (4, .int x4_7), (3, .int x3_3), (0, .ref (a 0)), (1, .int x1), (2, .int x2)]) hx hb dL_isRunSo_55 hl (by decide) rfl (fun ls hl => ?_)
  refine lv_aload_n hx hb dL_isRunSo_57 rfl (lv_at hl 6 rfl) ?_
  refine lv_iload_n hx hb dL_isRunSo_58 rfl (lv_at hl 7 rfl) ?_
  obtain ⟨v23, g24, h⟩ := o_b h
  have g24 := o_R_ g24
  refine k_rwL (va_runV (As := [.int x1]) (rest := []) ⟨hx, hb, hml, hown, hts⟩ (c_X5_run l dC dI cI cF a v17.2 x1 v23 g24 H.size) (cwV 1 hts gL_isRunSo_X5_run rfl rfl rfl (by decide +kernel) ⟨Nat.le_of_ble_eq_true rfl, Nat.le_of_ble_eq_true rfl⟩) (k_preLw (q0 := 0) (ci := 5) hK hP hD (LN_id (fX5 a cI cF v17.2 v23.2)) rfl rfl rfl) rfl rfl hl.1 rfl (lv_room (Nat.le_of_ble_eq_true rfl)) dL_isRunSo_59 ⟨Nat.zero_le _, Nat.zero_le _⟩) (st1 := [.int v23.1]) rfl hP hD hS hA (wn := wX5 a cI cF v23.2) (LN_id (fX5 a cI cF v17.2 v23.2)) (fun H locs hP hD hS => ?_)
  obtain ⟨x9_25, e26, h⟩ := o_n h
  refine lv_nmi e26 ?_
  refine lv_istore (lv' := [(9, .int x9_25), (8, .int v21), (7, .int x7_19), (6, .int x6_15), (5, .int x5_11), (4, .int x4_7), (3, .int x3_3), (0, .ref (a 0)), (1, .int x1), (2, .int x2)]) hx hb dL_isRunSo_62 hl (by decide) rfl (fun ls hl => ?_)
  refine lv_aload_n hx hb dL_isRunSo_64 rfl (lv_at hl 7 rfl) ?_
  refine lv_iload_n hx hb dL_isRunSo_65 rfl (lv_at hl 9 rfl) ?_
  obtain ⟨v27, g28, h⟩ := o_b h
  have g28 := o_R_ g28
  refine k_rwL (va_runV (As := [.int x2]) (rest := []) ⟨hx, hb, hml, hown, hts⟩ (c_X5_run l dC dI cI cF a v23.2 x2 v27 g28 H.size) (cwV 1 hts gL_isRunSo_X5_run rfl rfl rfl (by decide +kernel) ⟨Nat.le_of_ble_eq_true rfl, Nat.le_of_ble_eq_true rfl⟩) (k_preLw (q0 := 0) (ci := 5) hK hP hD (LN_id (fX5 a cI cF v23.2 v27.2)) rfl rfl rfl) rfl rfl hl.1 rfl (lv_room (Nat.le_of_ble_eq_true rfl)) dL_isRunSo_66 ⟨Nat.zero_le _, Nat.zero_le _⟩) (st1 := [.int v27.1]) rfl hP hD hS hA (wn := wX5 a cI cF v27.2) (LN_id (fX5 a cI cF v23.2 v27.2)) (fun H locs hP hD hS => ?_)
  obtain ⟨x10_29, e30, h⟩ := o_n h
  refine lv_nmi e30 ?_
  refine lv_istore (lv' := [(10, .int x10_29), (9, .int x9_25), (8, .int v21), (7, .int x7_19), (6, .int x6_15), (5, .int x5_11), (4, .int x4_7), (3, .int x3_3), (0, .ref (a 0)), (1, .int x1), (2, .int x2)]) hx hb dL_isRunSo_69 hl (by decide) rfl (fun ls hl => ?_)
  refine lv_iload hx hb dL_isRunSo_71 (lv_at hl 1 rfl) ?_
  refine lv_iload hx hb dL_isRunSo_73 (lv_at hl 0 rfl) ?_
  refine lv_iadd hx hb dL_isRunSo_75 ?_
  refine lv_iload_n hx hb dL_isRunSo_76 rfl (lv_at hl 7 rfl) ?_
  refine lv_icmp_ne (tgt := 149) hx hb dL_isRunSo_77 (by decide) (fun c31 => ?_) (fun c31 => ?_)
  · have h := o_f h c31
    refine lv_iconst (v := (0 : Int32)) hx hb dL_isRunSo_149 (by decide) ?_
    exact L150 _ _ _ h _ _ hP hD hS _ (lv_sub hl [8, 2] rfl)
  have h := o_t h c31
  refine lv_aload_n hx hb dL_isRunSo_80 rfl (lv_at hl 8 rfl) ?_
  refine lv_aload_n hx hb dL_isRunSo_81 rfl (lv_at hl 8 rfl) ?_
  refine lv_iconst (v := (2 : Int32)) hx hb dL_isRunSo_82 (by decide) ?_
  obtain ⟨v45, g46, h⟩ := o_b h
  have g46 := o_R_ g46
  refine k_ro (va_runV (As := [.int (2 : Int32)]) (rest := [.ref (a 0)]) ⟨hx, hb, hml, hown, hts⟩ (c_X5_count l dC dI cI cF a v27.2 (2 : Int32) v45 g46) (cwV 1 hts gL_isRunSo_X5_count rfl rfl rfl (by decide +kernel) ⟨Nat.le_of_ble_eq_true rfl, Nat.le_of_ble_eq_true rfl⟩) (k_preL (q0 := 0) (ci := 5) hK hP (LN_id (fX5 a cI cF v27.2 v27.2)) rfl rfl rfl) rfl rfl hl.1 rfl (lv_room (Nat.le_of_ble_eq_true rfl)) dL_isRunSo_83 ⟨Nat.zero_le _, Nat.zero_le _⟩) (st1 := [.int v45, .ref (a 0)]) rfl ?_
  refine lv_iconst (v := (4 : Int32)) hx hb dL_isRunSo_86 (by decide) ?_
  obtain ⟨v47, g48, h⟩ := o_b h
  have g48 := o_R_ g48
  refine k_ro (va_runV (As := [.int v45, .int (4 : Int32)]) (rest := []) ⟨hx, hb, hml, hown, hts⟩ (c_X5_can l dC dI cI cF a v27.2 v45 (4 : Int32) v47 g48) (cwV 2 hts gL_isRunSo_X5_can rfl rfl rfl (by decide +kernel) ⟨Nat.le_of_ble_eq_true rfl, Nat.le_of_ble_eq_true rfl⟩) (k_preL (q0 := 0) (ci := 5) hK hP (LN_id (fX5 a cI cF v27.2 v27.2)) rfl rfl rfl) rfl rfl hl.1 rfl (lv_room (Nat.le_of_ble_eq_true rfl)) dL_isRunSo_87 ⟨Nat.zero_le _, Nat.zero_le _⟩) (st1 := [.int v47]) rfl ?_
  refine lv_iload hx hb dL_isRunSo_90 (lv_at hl 6 rfl) ?_
  refine lv_icmp_ne (tgt := 149) hx hb dL_isRunSo_92 (by decide) (fun c49 => ?_) (fun c49 => ?_)
  · have h := o_f h c49
    refine lv_iconst (v := (0 : Int32)) hx hb dL_isRunSo_149 (by decide) ?_
    exact L150 _ _ _ h _ _ hP hD hS _ (lv_sub hl [8, 2] rfl)
  have h := o_t h c49
  refine lv_aload_n hx hb dL_isRunSo_95 rfl (lv_at hl 8 rfl) ?_
  refine lv_aload_n hx hb dL_isRunSo_96 rfl (lv_at hl 8 rfl) ?_
  refine lv_iconst (v := (2 : Int32)) hx hb dL_isRunSo_97 (by decide) ?_
  obtain ⟨v50, g51, h⟩ := o_b h
  have g51 := o_R_ g51
  refine k_ro (va_runV (As := [.int (2 : Int32)]) (rest := [.ref (a 0)]) ⟨hx, hb, hml, hown, hts⟩ (c_X5_count l dC dI cI cF a v27.2 (2 : Int32) v50 g51) (cwV 1 hts gL_isRunSo_X5_count rfl rfl rfl (by decide +kernel) ⟨Nat.le_of_ble_eq_true rfl, Nat.le_of_ble_eq_true rfl⟩) (k_preL (q0 := 0) (ci := 5) hK hP (LN_id (fX5 a cI cF v27.2 v27.2)) rfl rfl rfl) rfl rfl hl.1 rfl (lv_room (Nat.le_of_ble_eq_true rfl)) dL_isRunSo_98 ⟨Nat.zero_le _, Nat.zero_le _⟩) (st1 := [.int v50, .ref (a 0)]) rfl ?_
  refine lv_iconst (v := (5 : Int32)) hx hb dL_isRunSo_101 (by decide) ?_
  obtain ⟨v52, g53, h⟩ := o_b h
  have g53 := o_R_ g53
  refine k_ro (va_runV (As := [.int v50, .int (5 : Int32)]) (rest := []) ⟨hx, hb, hml, hown, hts⟩ (c_X5_can l dC dI cI cF a v27.2 v50 (5 : Int32) v52 g53) (cwV 2 hts gL_isRunSo_X5_can rfl rfl rfl (by decide +kernel) ⟨Nat.le_of_ble_eq_true rfl, Nat.le_of_ble_eq_true rfl⟩) (k_preL (q0 := 0) (ci := 5) hK hP (LN_id (fX5 a cI cF v27.2 v27.2)) rfl rfl rfl) rfl rfl hl.1 rfl (lv_room (Nat.le_of_ble_eq_true rfl)) dL_isRunSo_102 ⟨Nat.zero_le _, Nat.zero_le _⟩) (st1 := [.int v52]) rfl ?_
  refine lv_iload hx hb dL_isRunSo_105 (lv_at hl 5 rfl) ?_
  refine lv_icmp_ne (tgt := 149) hx hb dL_isRunSo_107 (by decide) (fun c54 => ?_) (fun c54 => ?_)
  · have h := o_f h c54
    refine lv_iconst (v := (0 : Int32)) hx hb dL_isRunSo_149 (by decide) ?_
    exact L150 _ _ _ h _ _ hP hD hS _ (lv_sub hl [8, 2] rfl)
  have h := o_t h c54
  refine lv_aload_n hx hb dL_isRunSo_110 rfl (lv_at hl 8 rfl) ?_
  refine lv_bipush (v := (6 : Int32)) hx hb dL_isRunSo_111 (by decide) ?_
  obtain ⟨v55, g56, h⟩ := o_b h
  have g56 := o_R_ g56
  refine k_ro (va_runV (As := [.int (6 : Int32)]) (rest := []) ⟨hx, hb, hml, hown, hts⟩ (c_X5_count l dC dI cI cF a v27.2 (6 : Int32) v55 g56) (cwV 1 hts gL_isRunSo_X5_count rfl rfl rfl (by decide +kernel) ⟨Nat.le_of_ble_eq_true rfl, Nat.le_of_ble_eq_true rfl⟩) (k_preL (q0 := 0) (ci := 5) hK hP (LN_id (fX5 a cI cF v27.2 v27.2)) rfl rfl rfl) rfl rfl hl.1 rfl (lv_room (Nat.le_of_ble_eq_true rfl)) dL_isRunSo_113 ⟨Nat.zero_le _, Nat.zero_le _⟩) (st1 := [.int v55]) rfl ?_
  refine lv_iload hx hb dL_isRunSo_116 (lv_at hl 2 rfl) ?_
  refine lv_iload hx hb dL_isRunSo_118 (lv_at hl 4 rfl) ?_
  refine lv_iadd hx hb dL_isRunSo_120 ?_
  refine lv_icmp_ne (tgt := 149) hx hb dL_isRunSo_121 (by decide) (fun c57 => ?_) (fun c57 => ?_)
  · have h := o_f h c57
    refine lv_iconst (v := (0 : Int32)) hx hb dL_isRunSo_149 (by decide) ?_
    exact L150 _ _ _ h _ _ hP hD hS _ (lv_sub hl [8, 2] rfl)
  have h := o_t h c57
  refine lv_aload_n hx hb dL_isRunSo_124 rfl (lv_at hl 8 rfl) ?_
  obtain ⟨v58, g59, h⟩ := o_b h
  refine k_ro (va_runV (As := []) (rest := []) ⟨hx, hb, hml, hown, hts⟩ (c_X5_why l dC dI cI cF a v27.2 v58 g59) (cwV 0 hts gL_isRunSo_X5_why rfl rfl rfl (by decide +kernel) ⟨Nat.le_of_ble_eq_true rfl, Nat.le_of_ble_eq_true rfl⟩) (k_preL (q0 := 0) (ci := 5) hK hP (LN_id (fX5 a cI cF v27.2 v27.2)) rfl rfl rfl) rfl rfl hl.1 rfl (lv_room (Nat.le_of_ble_eq_true rfl)) dL_isRunSo_125 ⟨Nat.zero_le _, Nat.zero_le _⟩) (st1 := [.int v58]) rfl ?_
  refine lv_iload hx hb dL_isRunSo_128 (lv_at hl 3 rfl) ?_
  refine lv_icmp_ne (tgt := 149) hx hb dL_isRunSo_130 (by decide) (fun c60 => ?_) (fun c60 => ?_)
  · have h := o_f h c60
    refine lv_iconst (v := (0 : Int32)) hx hb dL_isRunSo_149 (by decide) ?_
    exact L150 _ _ _ h _ _ hP hD hS _ (lv_sub hl [8, 2] rfl)
  have h := o_t h c60
  refine lv_iload_n hx hb dL_isRunSo_133 rfl (lv_at hl 7 rfl) ?_
  refine lv_iload_n hx hb dL_isRunSo_134 rfl (lv_at hl 9 rfl) ?_
  refine lv_iload_n hx hb dL_isRunSo_135 rfl (lv_at hl 10 rfl) ?_
  refine lv_iadd hx hb dL_isRunSo_136 ?_
  refine lv_icmp_eq (tgt := 145) hx hb dL_isRunSo_137 (by decide) (fun c61 => ?_) (fun c61 => ?_)
  · have h := o_t h c61
    refine lv_iconst (v := (1 : Int32)) hx hb dL_isRunSo_145 (by decide) ?_
    refine lv_goto (tgt := 150) hx hb dL_isRunSo_146 (by decide) ?_
    exact L150 _ _ _ h _ _ hP hD hS _ (lv_sub hl [8, 2] rfl)
  have h := o_f h c61
  refine lv_iload hx hb dL_isRunSo_140 (lv_at hl 3 rfl) ?_
  refine lv_if_le (tgt := 149) hx hb dL_isRunSo_142 (by decide) (fun c62 => ?_) (fun c62 => ?_)
  · have h := o_t h c62
    refine lv_iconst (v := (0 : Int32)) hx hb dL_isRunSo_149 (by decide) ?_
    exact L150 _ _ _ h _ _ hP hD hS _ (lv_sub hl [8, 2] rfl)
  have h := o_f h c62
  refine lv_iconst (v := (1 : Int32)) hx hb dL_isRunSo_145 (by decide) ?_
  refine lv_goto (tgt := 150) hx hb dL_isRunSo_146 (by decide) ?_
  exact L150 _ _ _ h _ _ hP hD hS _ (lv_sub hl [8, 2] rfl)

def m_L_areBestSo_L292 (y3 : Int32) (y4 : Int32) (y6 : Int32) (y7 : Int32) (y9 : Int32) (S : S_X5) : Option (Int32 × S_X5) := if y6 = y3 then ((o_R (m_X5_setting S (0 : Int32))).bind fun v18 => (if v18 = y4 then (if 0 ≤ y9 then (if y7 = y9 then (some ((1 : Int32), S)) else (some ((0 : Int32), S))) else (if y7 = (-1 : Int32) then (some ((1 : Int32), S)) else (some ((0 : Int32), S)))) else (some ((0 : Int32), S)))) else (some ((0 : Int32), S))
def m_L_areBestSo_L258 (k131 : Int32 → Int32 → Int32 → Int32 → Int32 → Int32 → Int32 → Int32 → Int32 → S_X5 → Option (Int32 × S_X5)) (y2 : Int32) (y3 : Int32) (y4 : Int32) (y6 : Int32) (y7 : Int32) (y8 : Int32) (y9 : Int32) (y10 : Int32) (y11 : Int32) (y12 : Int32) (t0 : Int32) (S : S_X5) : Option (Int32 × S_X5) := if y12 = y2 then (if y9 < 0 then (nmL (y11 + (-1)) fun x11_30 => (k131 y2 y3 y4 y6 y7 y8 y11 t0 x11_30 S)) else (if y10 < t0 then (nmL (y11 + (-1)) fun x11_33 => (k131 y2 y3 y4 y6 y7 y8 y9 y10 x11_33 S)) else (nmL (y11 + (-1)) fun x11_35 => (k131 y2 y3 y4 y6 y7 y8 y11 t0 x11_35 S)))) else (nmL (y11 + (-1)) fun x11_27 => (k131 y2 y3 y4 y6 y7 y8 y9 y10 x11_27 S))
def m_L_areBestSo_L238 (k131 : Int32 → Int32 → Int32 → Int32 → Int32 → Int32 → Int32 → Int32 → Int32 → S_X5 → Option (Int32 × S_X5)) (y2 : Int32) (y3 : Int32) (y4 : Int32) (y6 : Int32) (y7 : Int32) (y8 : Int32) (y9 : Int32) (y10 : Int32) (y11 : Int32) (y12 : Int32) (y13 : Int32) (S : S_X5) : Option (Int32 × S_X5) := if y8 ≤ y13 then (m_L_areBestSo_L258 k131 y2 y3 y4 y6 y7 y8 y9 y10 y11 y12 (y13 - y8) S) else (m_L_areBestSo_L258 k131 y2 y3 y4 y6 y7 y8 y9 y10 y11 y12 (y8 - y13) S)
def m_L_areBestSo_L207 (k131 : Int32 → Int32 → Int32 → Int32 → Int32 → Int32 → Int32 → Int32 → Int32 → S_X5 → Option (Int32 × S_X5)) (k145 : Int32 → Int32 → Int32 → Int32 → Int32 → Int32 → Int32 → Int32 → Int32 → Int32 → Int32 → Int32 → S_X5 → Option (Int32 × S_X5)) (y2 : Int32) (y3 : Int32) (y4 : Int32) (y6 : Int32) (y7 : Int32) (y8 : Int32) (y9 : Int32) (y10 : Int32) (y11 : Int32) (y13 : Int32) (y14 : Int32) (y15 : Int32) (t0 : Int32) (t1 : Int32) (S : S_X5) : Option (Int32 × S_X5) := nmL (t0 + t1) fun x12_39 => (if y15 = 0 then (nmL (y13 + (0 : Int32)) fun x13_42 => (nmL (y14 + 1) fun x14_44 => (k145 y2 y3 y4 y6 y7 y8 y9 y10 y11 x12_39 x13_42 x14_44 S))) else ((o_R (m_X5_can S y14 (7 : Int32))).bind fun v46 => (nmL (y13 + v46) fun x13_48 => (nmL (y14 + 1) fun x14_50 => (k145 y2 y3 y4 y6 y7 y8 y9 y10 y11 x12_39 x13_48 x14_50 S)))))
def m_L_areBestSo_L168 (k131 : Int32 → Int32 → Int32 → Int32 → Int32 → Int32 → Int32 → Int32 → Int32 → S_X5 → Option (Int32 × S_X5)) (k145 : Int32 → Int32 → Int32 → Int32 → Int32 → Int32 → Int32 → Int32 → Int32 → Int32 → Int32 → Int32 → S_X5 → Option (Int32 × S_X5)) (y2 : Int32) (y3 : Int32) (y4 : Int32) (y6 : Int32) (y7 : Int32) (y8 : Int32) (y9 : Int32) (y10 : Int32) (y11 : Int32) (y12 : Int32) (y13 : Int32) (y14 : Int32) (t0 : Int32) (S : S_X5) : Option (Int32 × S_X5) := if t0 = 0 then (m_L_areBestSo_L207 k131 k145 y2 y3 y4 y6 y7 y8 y9 y10 y11 y13 y14 t0 y12 (0 : Int32) S) else ((o_R (m_X5_count S (2 : Int32))).bind fun v52 => (if y14 = v52 then (m_L_areBestSo_L207 k131 k145 y2 y3 y4 y6 y7 y8 y9 y10 y11 y13 y14 t0 y12 (99 : Int32) S) else ((o_R (m_X5_can S y14 (0 : Int32))).bind fun v55 => (if v55 = 0 then (m_L_areBestSo_L207 k131 k145 y2 y3 y4 y6 y7 y8 y9 y10 y11 y13 y14 t0 y12 (99 : Int32) S) else (m_L_areBestSo_L207 k131 k145 y2 y3 y4 y6 y7 y8 y9 y10 y11 y13 y14 t0 y12 (1 : Int32) S)))))
def m_L_areBestSo_L145 (k131 : Int32 → Int32 → Int32 → Int32 → Int32 → Int32 → Int32 → Int32 → Int32 → S_X5 → Option (Int32 × S_X5)) : Nat → Int32 → Int32 → Int32 → Int32 → Int32 → Int32 → Int32 → Int32 → Int32 → Int32 → Int32 → Int32 → S_X5 → Option (Int32 × S_X5)
  | 0, _, _, _, _, _, _, _, _, _, _, _, _, _ => none
  | n + 1, y2, y3, y4, y6, y7, y8, y9, y10, y11, y12, y13, y14, S => if (8 : Int32) ≤ y14 then (m_L_areBestSo_L238 k131 y2 y3 y4 y6 y7 y8 y9 y10 y11 y12 y13 S) else (if ((y11 >>> (y14 &&& 31)) &&& (1 : Int32)) = (1 : Int32) then (m_L_areBestSo_L168 k131 (m_L_areBestSo_L145 k131 n) y2 y3 y4 y6 y7 y8 y9 y10 y11 y12 y13 y14 (1 : Int32) S) else (m_L_areBestSo_L168 k131 (m_L_areBestSo_L145 k131 n) y2 y3 y4 y6 y7 y8 y9 y10 y11 y12 y13 y14 (0 : Int32) S))
def m_L_areBestSo_L131 : Nat → Int32 → Int32 → Int32 → Int32 → Int32 → Int32 → Int32 → Int32 → Int32 → S_X5 → Option (Int32 × S_X5)
  | 0, _, _, _, _, _, _, _, _, _, _ => none
  | n + 1, y2, y3, y4, y6, y7, y8, y9, y10, y11, S => if y11 ≤ 0 then (m_L_areBestSo_L292 y3 y4 y6 y7 y9 S) else (m_L_areBestSo_L145 (m_L_areBestSo_L131 n) 4000 y2 y3 y4 y6 y7 y8 y9 y10 y11 (0 : Int32) (0 : Int32) (0 : Int32) S)
def m_L_areBestSo_L100 (y2 : Int32) (y3 : Int32) (y4 : Int32) (y6 : Int32) (S : S_X5) : Option (Int32 × S_X5) := (o_R (m_X5_bestFeed S y2)).bind fun v8 => ((o_R (m_X5_setting S (1 : Int32))).bind fun v10 => ((o_R (m_X5_setting S (2 : Int32))).bind fun v12 => (nmL (v10 * v12) fun x8_14 => (m_L_areBestSo_L131 4000 y2 y3 y4 y6 v8 x8_14 (-1 : Int32) (0 : Int32) (255 : Int32) S))))
def m_L_areBestSo_L70 (k22 : Int32 → Int32 → Int32 → Int32 → Int32 → Int32 → Int32 → S_X5 → Option (Int32 × S_X5)) (y1 : Int32) (y2 : Int32) (y3 : Int32) (y4 : Int32) (y5 : Int32) (y7 : Int32) (y9 : Int32) (t0 : Int32) (S : S_X5) : Option (Int32 × S_X5) := if t0 = y7 then ((o_R (m_X5_undo S)).bind fun v74 => (nmL (v74.1) fun x8_76 => (nmL (y7 + 1) fun x7_78 => (k22 y1 y2 y3 y4 y9 t0 x7_78 v74.2)))) else ((o_R (m_X5_undo S)).bind fun v68 => (nmL (v68.1) fun x8_70 => (nmL (y7 + 1) fun x7_72 => (k22 y1 y2 y3 y4 y5 t0 x7_72 v68.2))))
def m_L_areBestSo_L22 : Nat → Int32 → Int32 → Int32 → Int32 → Int32 → Int32 → Int32 → S_X5 → Option (Int32 × S_X5)
  | 0, _, _, _, _, _, _, _, _ => none
  | n + 1, y1, y2, y3, y4, y5, y6, y7, S => if (7 : Int32) ≤ y7 then (m_L_areBestSo_L100 y2 y3 y4 y6 S) else ((o_R (m_X5_set S (0 : Int32) y7)).bind fun v58 => (nmL (v58.1) fun x8_60 => ((o_R (m_X5_ifRun v58.2 y1 (2 : Int32))).bind fun v62 => (nmL (v62.1) fun x9_64 => (if x8_60 < 0 then (m_L_areBestSo_L70 (m_L_areBestSo_L22 n) y1 y2 y3 y4 y5 y7 x9_64 y6 v62.2) else (if y6 < 0 then (m_L_areBestSo_L70 (m_L_areBestSo_L22 n) y1 y2 y3 y4 y5 y7 x9_64 y7 v62.2) else (if y5 ≤ x9_64 then (m_L_areBestSo_L70 (m_L_areBestSo_L22 n) y1 y2 y3 y4 y5 y7 x9_64 y6 v62.2) else (m_L_areBestSo_L70 (m_L_areBestSo_L22 n) y1 y2 y3 y4 y5 y7 x9_64 y7 v62.2))))))))
def m_L_areBestSo (S : S_X5) (x1 : Int32) (x2 : Int32) : Option (Int32 × S_X5) := (o_R (m_X5_bestLag S x1)).bind fun v1 => (nmL (v1.1) fun x3_3 => ((o_R (m_X5_setting v1.2 (0 : Int32))).bind fun v5 => (m_L_areBestSo_L22 4000 x1 x2 x3_3 v5 (-1 : Int32) (-1 : Int32) (0 : Int32) v1.2)))
set_option maxHeartbeats 4000000 in
set_option maxRecDepth 100000 in
theorem c_L_areBestSo (l : Launch) (dC : Nat → ClassId) (dI : Nat → Nat → Nat) (cI cF : ClassId) (a : Nat → Nat) (S : S_X5) (x1 : Int32) (x2 : Int32) (u : Int32 × S_X5) (h : m_L_areBestSo S x1 x2 = some u) : cRWe l (dC, dI) cI cF yL_areBestSo wsL_areBestSo ({ frames := 6, cells := 0, slots := 0, locals := 177 } : Room) [.ref (a 0), .int x1, .int x2] (wX5 a cI cF S) (wX5 a cI cF u.2) (some (.int u.1)) := by
  intro sz
  refine Met.ofW (cc := cL_areBestSo) (maxL := 16) (ret := (some .boolean)) (by decide) rfl ?_
  intro p e s m args below meth c s₁ B hml hv
  obtain ⟨hargs, ⟨hsz, hP, hK, hD0⟩, hE⟩ := hv
  subst hargs
  have hx := B.exec
  have hb := B.bytes
  have hr := B.returns
  have hts := atoms_spec (ws := wsL_areBestSo) B.pre
  have hown : s.vm.findClass RL = some m.cls := findClass_of_methodNamed B.named
  have hlocks := B.notSynchronized
  have w20 := hts (.methodLink RL 20 yX5_can) (List.mem_of_getElem? (i := 236) rfl)
  have w49 := hts (.methodLink RL 49 yX5_set) (List.mem_of_getElem? (i := 147) rfl)
  have w58 := hts (.methodLink RL 58 yX5_count) (List.mem_of_getElem? (i := 217) rfl)
  have w68 := hts (.methodLink RL 68 yX5_setting) (List.mem_of_getElem? (i := 137) rfl)
  have w74 := hts (.methodLink RL 74 yX5_undo) (List.mem_of_getElem? (i := 189) rfl)
  have w77 := hts (.methodLink RL 77 yX5_ifRun) (List.mem_of_getElem? (i := 170) rfl)
  have w80 := hts (.methodLink RL 80 yX5_bestLag) (List.mem_of_getElem? (i := 1) rfl)
  have w83 := hts (.methodLink RL 83 yX5_bestFeed) (List.mem_of_getElem? (i := 203) rfl)
  subst hsz
  have hD := hD0.self (sz := s.heap.size)
  generalize hAe : va_A (wX5 a cI cF S) s.heap.size = A at hD hE ⊢
  have hA : ∀ q : Nat, s.heap.size ≤ q → A q := fun q h => by rw [← hAe]; exact Or.inr h
  have hS : va_S A s.heap s.heap [] := va_S.rf
  have L292 : ∀ (y3 : Int32) (y4 : Int32) (y6 : Int32) (y7 : Int32) (y9 : Int32) (S : S_X5), m_L_areBestSo_L292 y3 y4 y6 y7 y9 S = some u → ∀ (H : Heap) (locs : List Loc), va_P (dC, dI) vwCl (wX5 a cI cF S) H → va_D A (wX5 a cI cF S) → va_S A s.heap H locs → ∀ (ls : Array Slot), lv_has ls 16 [(0, .ref (a 0)), (3, .int y3), (4, .int y4), (6, .int y6), (7, .int y7), (9, .int y9)] → W p l e (headSpec wsL_areBestSo ({ frames := 6, cells := 0, slots := 0, locals := 177 } : Room)).room s m ([.ref (a 0), .int x1, .int x2] : List Value).toArray below meth c H locs 0 0 (MQ below (qRW (dC, dI) (wX5 a cI cF u.2) (some (.int u.1)) A) ([.ref (a 0), .int x1, .int x2] : List Value).toArray s 0 0 A) (F0 m 292 ls []) := by
    intro  y3 y4 y6 y7 y9 S h H locs hP hD hS ls hl
    rw [m_L_areBestSo_L292] at h
    refine lv_iload hx hb dL_areBestSo_292 (lv_at hl 3 rfl) ?_
    refine lv_iload_n hx hb dL_areBestSo_294 rfl (lv_at hl 1 rfl) ?_
    refine lv_icmp_ne (tgt := 328) hx hb dL_areBestSo_295 (by decide) (fun c17 => ?_) (fun c17 => ?_)
    · have h := o_f h c17
      refine lv_iconst (v := (0 : Int32)) hx hb dL_areBestSo_328 (by decide) ?_
      have hu := Option.some.inj h
      exact W.zret (v := (0 : Int32)) hx hb hr rfl (fun t ht hW => ⟨⟨congrArg (fun z => Outcome.returned (some (Value.int z.1))) hu, by rw [ht, ← hu]; exact hP⟩, hS.F ht⟩) hS.2.2 dL_areBestSo_329
    have h := o_t h c17
    refine lv_aload_n hx hb dL_areBestSo_298 rfl (lv_at hl 0 rfl) ?_
    refine lv_iconst (v := (0 : Int32)) hx hb dL_areBestSo_299 (by decide) ?_
    obtain ⟨v18, g19, h⟩ := o_b h
    have g19 := o_R_ g19
    refine k_ro (va_runV (As := [.int (0 : Int32)]) (rest := []) ⟨hx, hb, hml, hown, hts⟩ (c_X5_setting l dC dI cI cF a S (0 : Int32) v18 g19) (cwV 1 hts gL_areBestSo_X5_setting rfl rfl rfl (by decide +kernel) ⟨Nat.le_of_ble_eq_true rfl, Nat.le_of_ble_eq_true rfl⟩) (k_preL (q0 := 0) (ci := 5) hK hP (LN_id (fX5 a cI cF S S)) rfl rfl rfl) rfl rfl hl.1 rfl (lv_room (Nat.le_of_ble_eq_true rfl)) dL_areBestSo_300 ⟨Nat.zero_le _, Nat.zero_le _⟩) (st1 := [.int v18]) rfl ?_
    refine lv_iload hx hb dL_areBestSo_303 (lv_at hl 2 rfl) ?_
    refine lv_icmp_ne (tgt := 328) hx hb dL_areBestSo_305 (by decide) (fun c20 => ?_) (fun c20 => ?_)
    · have h := o_f h c20
      refine lv_iconst (v := (0 : Int32)) hx hb dL_areBestSo_328 (by decide) ?_
      have hu := Option.some.inj h
      exact W.zret (v := (0 : Int32)) hx hb hr rfl (fun t ht hW => ⟨⟨congrArg (fun z => Outcome.returned (some (Value.int z.1))) hu, by rw [ht, ← hu]; exact hP⟩, hS.F ht⟩) hS.2.2 dL_areBestSo_329
    have h := o_t h c20
    refine lv_iload hx hb dL_areBestSo_308 (lv_at hl 4 rfl) ?_
    refine lv_iload hx hb dL_areBestSo_310 (lv_at hl 5 rfl) ?_
    refine lv_if_ge (tgt := 319) hx hb dL_areBestSo_312 (by decide) (fun c21 => ?_) (fun c21 => ?_)
    · have h := o_t h c21
      refine lv_iload hx hb dL_areBestSo_319 (lv_at hl 5 rfl) ?_
      refine lv_icmp_ne (tgt := 328) hx hb dL_areBestSo_321 (by decide) (fun c22 => ?_) (fun c22 => ?_)
      · have h := o_f h c22
        refine lv_iconst (v := (0 : Int32)) hx hb dL_areBestSo_328 (by decide) ?_
        have hu := Option.some.inj h
        exact W.zret (v := (0 : Int32)) hx hb hr rfl (fun t ht hW => ⟨⟨congrArg (fun z => Outcome.returned (some (Value.int z.1))) hu, by rw [ht, ← hu]; exact hP⟩, hS.F ht⟩) hS.2.2 dL_areBestSo_329
      have h := o_t h c22
      refine lv_iconst (v := (1 : Int32)) hx hb dL_areBestSo_324 (by decide) ?_
      refine lv_goto (tgt := 329) hx hb dL_areBestSo_325 (by decide) ?_
      have hu := Option.some.inj h
      exact W.zret (v := (1 : Int32)) hx hb hr rfl (fun t ht hW => ⟨⟨congrArg (fun z => Outcome.returned (some (Value.int z.1))) hu, by rw [ht, ← hu]; exact hP⟩, hS.F ht⟩) hS.2.2 dL_areBestSo_329
    have h := o_f h c21
    refine lv_iconst (v := (-1 : Int32)) hx hb dL_areBestSo_315 (by decide) ?_
    refine lv_goto (tgt := 321) hx hb dL_areBestSo_316 (by decide) ?_
    refine lv_icmp_ne (tgt := 328) hx hb dL_areBestSo_321 (by decide) (fun c23 => ?_) (fun c23 => ?_)
    · have h := o_f h c23
      refine lv_iconst (v := (0 : Int32)) hx hb dL_areBestSo_328 (by decide) ?_
      have hu := Option.some.inj h
      exact W.zret (v := (0 : Int32)) hx hb hr rfl (fun t ht hW => ⟨⟨congrArg (fun z => Outcome.returned (some (Value.int z.1))) hu, by rw [ht, ← hu]; exact hP⟩, hS.F ht⟩) hS.2.2 dL_areBestSo_329
    have h := o_t h c23
    refine lv_iconst (v := (1 : Int32)) hx hb dL_areBestSo_324 (by decide) ?_
    refine lv_goto (tgt := 329) hx hb dL_areBestSo_325 (by decide) ?_
    have hu := Option.some.inj h
    exact W.zret (v := (1 : Int32)) hx hb hr rfl (fun t ht hW => ⟨⟨congrArg (fun z => Outcome.returned (some (Value.int z.1))) hu, by rw [ht, ← hu]; exact hP⟩, hS.F ht⟩) hS.2.2 dL_areBestSo_329
  have L258 : ∀ (k131 : Int32 → Int32 → Int32 → Int32 → Int32 → Int32 → Int32 → Int32 → Int32 → S_X5 → Option (Int32 × S_X5)) (ih131 : ∀ (y2 : Int32) (y3 : Int32) (y4 : Int32) (y6 : Int32) (y7 : Int32) (y8 : Int32) (y9 : Int32) (y10 : Int32) (y11 : Int32) (S : S_X5), k131 y2 y3 y4 y6 y7 y8 y9 y10 y11 S = some u → ∀ (H : Heap) (locs : List Loc), va_P (dC, dI) vwCl (wX5 a cI cF S) H → va_D A (wX5 a cI cF S) → va_S A s.heap H locs → ∀ (ls : Array Slot), lv_has ls 16 [(0, .ref (a 0)), (2, .int y2), (3, .int y3), (4, .int y4), (6, .int y6), (7, .int y7), (8, .int y8), (9, .int y9), (10, .int y10), (11, .int y11)] → W p l e (headSpec wsL_areBestSo ({ frames := 6, cells := 0, slots := 0, locals := 177 } : Room)).room s m ([.ref (a 0), .int x1, .int x2] : List Value).toArray below meth c H locs 0 0 (MQ below (qRW (dC, dI) (wX5 a cI cF u.2) (some (.int u.1)) A) ([.ref (a 0), .int x1, .int x2] : List Value).toArray s 0 0 A) (F0 m 131 ls [])), ∀ (y2 : Int32) (y3 : Int32) (y4 : Int32) (y6 : Int32) (y7 : Int32) (y8 : Int32) (y9 : Int32) (y10 : Int32) (y11 : Int32) (y12 : Int32) (t0 : Int32) (S : S_X5), m_L_areBestSo_L258 k131 y2 y3 y4 y6 y7 y8 y9 y10 y11 y12 t0 S = some u → ∀ (H : Heap) (locs : List Loc), va_P (dC, dI) vwCl (wX5 a cI cF S) H → va_D A (wX5 a cI cF S) → va_S A s.heap H locs → ∀ (ls : Array Slot), lv_has ls 16 [(0, .ref (a 0)), (2, .int y2), (3, .int y3), (4, .int y4), (6, .int y6), (7, .int y7), (8, .int y8), (9, .int y9), (10, .int y10), (11, .int y11), (12, .int y12)] → W p l e (headSpec wsL_areBestSo ({ frames := 6, cells := 0, slots := 0, locals := 177 } : Room)).room s m ([.ref (a 0), .int x1, .int x2] : List Value).toArray below meth c H locs 0 0 (MQ below (qRW (dC, dI) (wX5 a cI cF u.2) (some (.int u.1)) A) ([.ref (a 0), .int x1, .int x2] : List Value).toArray s 0 0 A) (F0 m 258 ls [.int t0]) := by
    intro k131 ih131 y2 y3 y4 y6 y7 y8 y9 y10 y11 y12 t0 S h H locs hP hD hS ls hl
    rw [m_L_areBestSo_L258] at h
    refine lv_istore (lv' := [(14, .int t0), (0, .ref (a 0)), (2, .int y2), (3, .int y3), (4, .int y4), (6, .int y6), (7, .int y7), (8, .int y8), (9, .int y9), (10, .int y10), (11, .int y11), (12, .int y12)]) hx hb dL_areBestSo_258 hl (by decide) rfl (fun ls hl => ?_)
    refine lv_iload hx hb dL_areBestSo_260 (lv_at hl 11 rfl) ?_
    refine lv_iload_n hx hb dL_areBestSo_262 rfl (lv_at hl 2 rfl) ?_
    refine lv_icmp_ne (tgt := 286) hx hb dL_areBestSo_263 (by decide) (fun c26 => ?_) (fun c26 => ?_)
    · have h := o_f h c26
      obtain ⟨x11_27, e28, h⟩ := o_n h
      refine lv_iinc (v := x11_27) (lv' := [(11, .int x11_27), (14, .int t0), (0, .ref (a 0)), (2, .int y2), (3, .int y3), (4, .int y4), (6, .int y6), (7, .int y7), (8, .int y8), (9, .int y9), (10, .int y10), (12, .int y12)]) hx hb dL_areBestSo_286 hl (k := 10) rfl (by rw [e28]; rfl) (by decide) rfl (fun ls hl => ?_)
      refine lv_goto (tgt := 131) hx hb dL_areBestSo_289 (by decide) ?_
      exact ih131 _ _ _ _ _ _ _ _ _ _ h _ _ hP hD hS _ (lv_sub hl [2, 3, 4, 5, 6, 7, 8, 9, 10, 0] rfl)
    have h := o_t h c26
    refine lv_iload hx hb dL_areBestSo_266 (lv_at hl 8 rfl) ?_
    refine lv_if_lt (tgt := 278) hx hb dL_areBestSo_268 (by decide) (fun c29 => ?_) (fun c29 => ?_)
    · have h := o_t h c29
      refine lv_iload hx hb dL_areBestSo_278 (lv_at hl 10 rfl) ?_
      refine lv_istore (lv' := [(9, .int y11), (14, .int t0), (0, .ref (a 0)), (2, .int y2), (3, .int y3), (4, .int y4), (6, .int y6), (7, .int y7), (8, .int y8), (10, .int y10), (11, .int y11), (12, .int y12)]) hx hb dL_areBestSo_280 hl (by decide) rfl (fun ls hl => ?_)
      refine lv_iload hx hb dL_areBestSo_282 (lv_at hl 1 rfl) ?_
      refine lv_istore (lv' := [(10, .int t0), (9, .int y11), (14, .int t0), (0, .ref (a 0)), (2, .int y2), (3, .int y3), (4, .int y4), (6, .int y6), (7, .int y7), (8, .int y8), (11, .int y11), (12, .int y12)]) hx hb dL_areBestSo_284 hl (by decide) rfl (fun ls hl => ?_)
      obtain ⟨x11_30, e31, h⟩ := o_n h
      refine lv_iinc (v := x11_30) (lv' := [(11, .int x11_30), (10, .int t0), (9, .int y11), (14, .int t0), (0, .ref (a 0)), (2, .int y2), (3, .int y3), (4, .int y4), (6, .int y6), (7, .int y7), (8, .int y8), (12, .int y12)]) hx hb dL_areBestSo_286 hl (k := 10) rfl (by rw [e31]; rfl) (by decide) rfl (fun ls hl => ?_)
      refine lv_goto (tgt := 131) hx hb dL_areBestSo_289 (by decide) ?_
      exact ih131 _ _ _ _ _ _ _ _ _ _ h _ _ hP hD hS _ (lv_sub hl [4, 5, 6, 7, 8, 9, 10, 2, 1, 0] rfl)
    have h := o_f h c29
    refine lv_iload hx hb dL_areBestSo_271 (lv_at hl 0 rfl) ?_
    refine lv_iload hx hb dL_areBestSo_273 (lv_at hl 9 rfl) ?_
    refine lv_icmp_gt (tgt := 286) hx hb dL_areBestSo_275 (by decide) (fun c32 => ?_) (fun c32 => ?_)
    · have h := o_t h c32
      obtain ⟨x11_33, e34, h⟩ := o_n h
      refine lv_iinc (v := x11_33) (lv' := [(11, .int x11_33), (14, .int t0), (0, .ref (a 0)), (2, .int y2), (3, .int y3), (4, .int y4), (6, .int y6), (7, .int y7), (8, .int y8), (9, .int y9), (10, .int y10), (12, .int y12)]) hx hb dL_areBestSo_286 hl (k := 10) rfl (by rw [e34]; rfl) (by decide) rfl (fun ls hl => ?_)
      refine lv_goto (tgt := 131) hx hb dL_areBestSo_289 (by decide) ?_
      exact ih131 _ _ _ _ _ _ _ _ _ _ h _ _ hP hD hS _ (lv_sub hl [2, 3, 4, 5, 6, 7, 8, 9, 10, 0] rfl)
    have h := o_f h c32
    refine lv_iload hx hb dL_areBestSo_278 (lv_at hl 10 rfl) ?_
    refine lv_istore (lv' := [(9, .int y11), (14, .int t0), (0, .ref (a 0)), (2, .int y2), (3, .int y3), (4, .int y4), (6, .int y6), (7, .int y7), (8, .int y8), (10, .int y10), (11, .int y11), (12, .int y12)]) hx hb dL_areBestSo_280 hl (by decide) rfl (fun ls hl => ?_)
    refine lv_iload hx hb dL_areBestSo_282 (lv_at hl 1 rfl) ?_
    refine lv_istore (lv' := [(10, .int t0), (9, .int y11), (14, .int t0), (0, .ref (a 0)), (2, .int y2), (3, .int y3), (4, .int y4), (6, .int y6), (7, .int y7), (8, .int y8), (11, .int y11), (12, .int y12)]) hx hb dL_areBestSo_284 hl (by decide) rfl (fun ls hl => ?_)
    obtain ⟨x11_35, e36, h⟩ := o_n h
    refine lv_iinc (v := x11_35) (lv' := [(11, .int x11_35), (10, .int t0), (9, .int y11), (14, .int t0), (0, .ref (a 0)), (2, .int y2), (3, .int y3), (4, .int y4), (6, .int y6), (7, .int y7), (8, .int y8), (12, .int y12)]) hx hb dL_areBestSo_286 hl (k := 10) rfl (by rw [e36]; rfl) (by decide) rfl (fun ls hl => ?_)
    refine lv_goto (tgt := 131) hx hb dL_areBestSo_289 (by decide) ?_
    exact ih131 _ _ _ _ _ _ _ _ _ _ h _ _ hP hD hS _ (lv_sub hl [4, 5, 6, 7, 8, 9, 10, 2, 1, 0] rfl)
  have L238 : ∀ (k131 : Int32 → Int32 → Int32 → Int32 → Int32 → Int32 → Int32 → Int32 → Int32 → S_X5 → Option (Int32 × S_X5)) (ih131 : ∀ (y2 : Int32) (y3 : Int32) (y4 : Int32) (y6 : Int32) (y7 : Int32) (y8 : Int32) (y9 : Int32) (y10 : Int32) (y11 : Int32) (S : S_X5), k131 y2 y3 y4 y6 y7 y8 y9 y10 y11 S = some u → ∀ (H : Heap) (locs : List Loc), va_P (dC, dI) vwCl (wX5 a cI cF S) H → va_D A (wX5 a cI cF S) → va_S A s.heap H locs → ∀ (ls : Array Slot), lv_has ls 16 [(0, .ref (a 0)), (2, .int y2), (3, .int y3), (4, .int y4), (6, .int y6), (7, .int y7), (8, .int y8), (9, .int y9), (10, .int y10), (11, .int y11)] → W p l e (headSpec wsL_areBestSo ({ frames := 6, cells := 0, slots := 0, locals := 177 } : Room)).room s m ([.ref (a 0), .int x1, .int x2] : List Value).toArray below meth c H locs 0 0 (MQ below (qRW (dC, dI) (wX5 a cI cF u.2) (some (.int u.1)) A) ([.ref (a 0), .int x1, .int x2] : List Value).toArray s 0 0 A) (F0 m 131 ls [])), ∀ (y2 : Int32) (y3 : Int32) (y4 : Int32) (y6 : Int32) (y7 : Int32) (y8 : Int32) (y9 : Int32) (y10 : Int32) (y11 : Int32) (y12 : Int32) (y13 : Int32) (S : S_X5), m_L_areBestSo_L238 k131 y2 y3 y4 y6 y7 y8 y9 y10 y11 y12 y13 S = some u → ∀ (H : Heap) (locs : List Loc), va_P (dC, dI) vwCl (wX5 a cI cF S) H → va_D A (wX5 a cI cF S) → va_S A s.heap H locs → ∀ (ls : Array Slot), lv_has ls 16 [(0, .ref (a 0)), (2, .int y2), (3, .int y3), (4, .int y4), (6, .int y6), (7, .int y7), (8, .int y8), (9, .int y9), (10, .int y10), (11, .int y11), (12, .int y12), (13, .int y13)] → W p l e (headSpec wsL_areBestSo ({ frames := 6, cells := 0, slots := 0, locals := 177 } : Room)).room s m ([.ref (a 0), .int x1, .int x2] : List Value).toArray below meth c H locs 0 0 (MQ below (qRW (dC, dI) (wX5 a cI cF u.2) (some (.int u.1)) A) ([.ref (a 0), .int x1, .int x2] : List Value).toArray s 0 0 A) (F0 m 238 ls []) := by
    intro k131 ih131 y2 y3 y4 y6 y7 y8 y9 y10 y11 y12 y13 S h H locs hP hD hS ls hl
    rw [m_L_areBestSo_L238] at h
    refine lv_iload hx hb dL_areBestSo_238 (lv_at hl 11 rfl) ?_
    refine lv_iload hx hb dL_areBestSo_240 (lv_at hl 6 rfl) ?_
    refine lv_icmp_ge (tgt := 253) hx hb dL_areBestSo_242 (by decide) (fun c25 => ?_) (fun c25 => ?_)
    · have h := o_t h c25
      refine lv_iload hx hb dL_areBestSo_253 (lv_at hl 11 rfl) ?_
      refine lv_iload hx hb dL_areBestSo_255 (lv_at hl 6 rfl) ?_
      refine lv_isub hx hb dL_areBestSo_257 ?_
      exact L258 _ ih131 _ _ _ _ _ _ _ _ _ _ _ _ h _ _ hP hD hS _ (lv_sub hl [0, 1, 2, 3, 4, 5, 6, 7, 8, 9, 10] rfl)
    have h := o_f h c25
    refine lv_iload hx hb dL_areBestSo_245 (lv_at hl 6 rfl) ?_
    refine lv_iload hx hb dL_areBestSo_247 (lv_at hl 11 rfl) ?_
    refine lv_isub hx hb dL_areBestSo_249 ?_
    refine lv_goto (tgt := 258) hx hb dL_areBestSo_250 (by decide) ?_
    exact L258 _ ih131 _ _ _ _ _ _ _ _ _ _ _ _ h _ _ hP hD hS _ (lv_sub hl [0, 1, 2, 3, 4, 5, 6, 7, 8, 9, 10] rfl)
  have L207 : ∀ (k131 : Int32 → Int32 → Int32 → Int32 → Int32 → Int32 → Int32 → Int32 → Int32 → S_X5 → Option (Int32 × S_X5)) (ih131 : ∀ (y2 : Int32) (y3 : Int32) (y4 : Int32) (y6 : Int32) (y7 : Int32) (y8 : Int32) (y9 : Int32) (y10 : Int32) (y11 : Int32) (S : S_X5), k131 y2 y3 y4 y6 y7 y8 y9 y10 y11 S = some u → ∀ (H : Heap) (locs : List Loc), va_P (dC, dI) vwCl (wX5 a cI cF S) H → va_D A (wX5 a cI cF S) → va_S A s.heap H locs → ∀ (ls : Array Slot), lv_has ls 16 [(0, .ref (a 0)), (2, .int y2), (3, .int y3), (4, .int y4), (6, .int y6), (7, .int y7), (8, .int y8), (9, .int y9), (10, .int y10), (11, .int y11)] → W p l e (headSpec wsL_areBestSo ({ frames := 6, cells := 0, slots := 0, locals := 177 } : Room)).room s m ([.ref (a 0), .int x1, .int x2] : List Value).toArray below meth c H locs 0 0 (MQ below (qRW (dC, dI) (wX5 a cI cF u.2) (some (.int u.1)) A) ([.ref (a 0), .int x1, .int x2] : List Value).toArray s 0 0 A) (F0 m 131 ls [])) (k145 : Int32 → Int32 → Int32 → Int32 → Int32 → Int32 → Int32 → Int32 → Int32 → Int32 → Int32 → Int32 → S_X5 → Option (Int32 × S_X5)) (ih145 : ∀ (y2 : Int32) (y3 : Int32) (y4 : Int32) (y6 : Int32) (y7 : Int32) (y8 : Int32) (y9 : Int32) (y10 : Int32) (y11 : Int32) (y12 : Int32) (y13 : Int32) (y14 : Int32) (S : S_X5), k145 y2 y3 y4 y6 y7 y8 y9 y10 y11 y12 y13 y14 S = some u → ∀ (H : Heap) (locs : List Loc), va_P (dC, dI) vwCl (wX5 a cI cF S) H → va_D A (wX5 a cI cF S) → va_S A s.heap H locs → ∀ (ls : Array Slot), lv_has ls 16 [(0, .ref (a 0)), (2, .int y2), (3, .int y3), (4, .int y4), (6, .int y6), (7, .int y7), (8, .int y8), (9, .int y9), (10, .int y10), (11, .int y11), (12, .int y12), (13, .int y13), (14, .int y14)] → W p l e (headSpec wsL_areBestSo ({ frames := 6, cells := 0, slots := 0, locals := 177 } : Room)).room s m ([.ref (a 0), .int x1, .int x2] : List Value).toArray below meth c H locs 0 0 (MQ below (qRW (dC, dI) (wX5 a cI cF u.2) (some (.int u.1)) A) ([.ref (a 0), .int x1, .int x2] : List Value).toArray s 0 0 A) (F0 m 145 ls [])), ∀ (y2 : Int32) (y3 : Int32) (y4 : Int32) (y6 : Int32) (y7 : Int32) (y8 : Int32) (y9 : Int32) (y10 : Int32) (y11 : Int32) (y13 : Int32) (y14 : Int32) (y15 : Int32) (t0 : Int32) (t1 : Int32) (S : S_X5), m_L_areBestSo_L207 k131 k145 y2 y3 y4 y6 y7 y8 y9 y10 y11 y13 y14 y15 t0 t1 S = some u → ∀ (H : Heap) (locs : List Loc), va_P (dC, dI) vwCl (wX5 a cI cF S) H → va_D A (wX5 a cI cF S) → va_S A s.heap H locs → ∀ (ls : Array Slot), lv_has ls 16 [(0, .ref (a 0)), (2, .int y2), (3, .int y3), (4, .int y4), (6, .int y6), (7, .int y7), (8, .int y8), (9, .int y9), (10, .int y10), (11, .int y11), (13, .int y13), (14, .int y14), (15, .int y15)] → W p l e (headSpec wsL_areBestSo ({ frames := 6, cells := 0, slots := 0, locals := 177 } : Room)).room s m ([.ref (a 0), .int x1, .int x2] : List Value).toArray below meth c H locs 0 0 (MQ below (qRW (dC, dI) (wX5 a cI cF u.2) (some (.int u.1)) A) ([.ref (a 0), .int x1, .int x2] : List Value).toArray s 0 0 A) (F0 m 207 ls [.int t1, .int t0]) := by
    intro k131 ih131 k145 ih145 y2 y3 y4 y6 y7 y8 y9 y10 y11 y13 y14 y15 t0 t1 S h H locs hP hD hS ls hl
    rw [m_L_areBestSo_L207] at h
    refine lv_iadd hx hb dL_areBestSo_207 ?_
    obtain ⟨x12_39, e40, h⟩ := o_n h
    refine lv_nmi e40 ?_
    refine lv_istore (lv' := [(12, .int x12_39), (0, .ref (a 0)), (2, .int y2), (3, .int y3), (4, .int y4), (6, .int y6), (7, .int y7), (8, .int y8), (9, .int y9), (10, .int y10), (11, .int y11), (13, .int y13), (14, .int y14), (15, .int y15)]) hx hb dL_areBestSo_208 hl (by decide) rfl (fun ls hl => ?_)
    refine lv_iload hx hb dL_areBestSo_210 (lv_at hl 11 rfl) ?_
    refine lv_iload hx hb dL_areBestSo_212 (lv_at hl 13 rfl) ?_
    refine lv_if_eq (tgt := 228) hx hb dL_areBestSo_214 (by decide) (fun c41 => ?_) (fun c41 => ?_)
    · have h := o_t h c41
      refine lv_iconst (v := (0 : Int32)) hx hb dL_areBestSo_228 (by decide) ?_
      refine lv_iadd hx hb dL_areBestSo_229 ?_
      obtain ⟨x13_42, e43, h⟩ := o_n h
      refine lv_nmi e43 ?_
      refine lv_istore (lv' := [(13, .int x13_42), (12, .int x12_39), (0, .ref (a 0)), (2, .int y2), (3, .int y3), (4, .int y4), (6, .int y6), (7, .int y7), (8, .int y8), (9, .int y9), (10, .int y10), (11, .int y11), (14, .int y14), (15, .int y15)]) hx hb dL_areBestSo_230 hl (by decide) rfl (fun ls hl => ?_)
      obtain ⟨x14_44, e45, h⟩ := o_n h
      refine lv_iinc (v := x14_44) (lv' := [(14, .int x14_44), (13, .int x13_42), (12, .int x12_39), (0, .ref (a 0)), (2, .int y2), (3, .int y3), (4, .int y4), (6, .int y6), (7, .int y7), (8, .int y8), (9, .int y9), (10, .int y10), (11, .int y11), (15, .int y15)]) hx hb dL_areBestSo_232 hl (k := 12) rfl (by rw [e45]; rfl) (by decide) rfl (fun ls hl => ?_)
      refine lv_goto (tgt := 145) hx hb dL_areBestSo_235 (by decide) ?_
      exact ih145 _ _ _ _ _ _ _ _ _ _ _ _ _ h _ _ hP hD hS _ (lv_sub hl [3, 4, 5, 6, 7, 8, 9, 10, 11, 12, 2, 1, 0] rfl)
    have h := o_f h c41
    refine lv_aload_n hx hb dL_areBestSo_217 rfl (lv_at hl 1 rfl) ?_
    refine lv_iload hx hb dL_areBestSo_218 (lv_at hl 12 rfl) ?_
    refine lv_bipush (v := (7 : Int32)) hx hb dL_areBestSo_220 (by decide) ?_
    obtain ⟨v46, g47, h⟩ := o_b h
    have g47 := o_R_ g47
    refine k_ro (va_runV (As := [.int y14, .int (7 : Int32)]) (rest := [.int y13]) ⟨hx, hb, hml, hown, hts⟩ (c_X5_can l dC dI cI cF a S y14 (7 : Int32) v46 g47) (cwV 2 hts gL_areBestSo_X5_can rfl rfl rfl (by decide +kernel) ⟨Nat.le_of_ble_eq_true rfl, Nat.le_of_ble_eq_true rfl⟩) (k_preL (q0 := 0) (ci := 5) hK hP (LN_id (fX5 a cI cF S S)) rfl rfl rfl) rfl rfl hl.1 rfl (lv_room (Nat.le_of_ble_eq_true rfl)) dL_areBestSo_222 ⟨Nat.zero_le _, Nat.zero_le _⟩) (st1 := [.int v46, .int y13]) rfl ?_
    refine lv_goto (tgt := 229) hx hb dL_areBestSo_225 (by decide) ?_
    refine lv_iadd hx hb dL_areBestSo_229 ?_
    obtain ⟨x13_48, e49, h⟩ := o_n h
    refine lv_nmi e49 ?_
    refine lv_istore (lv' := [(13, .int x13_48), (12, .int x12_39), (0, .ref (a 0)), (2, .int y2), (3, .int y3), (4, .int y4), (6, .int y6), (7, .int y7), (8, .int y8), (9, .int y9), (10, .int y10), (11, .int y11), (14, .int y14), (15, .int y15)]) hx hb dL_areBestSo_230 hl (by decide) rfl (fun ls hl => ?_)
    obtain ⟨x14_50, e51, h⟩ := o_n h
    refine lv_iinc (v := x14_50) (lv' := [(14, .int x14_50), (13, .int x13_48), (12, .int x12_39), (0, .ref (a 0)), (2, .int y2), (3, .int y3), (4, .int y4), (6, .int y6), (7, .int y7), (8, .int y8), (9, .int y9), (10, .int y10), (11, .int y11), (15, .int y15)]) hx hb dL_areBestSo_232 hl (k := 12) rfl (by rw [e51]; rfl) (by decide) rfl (fun ls hl => ?_)
    refine lv_goto (tgt := 145) hx hb dL_areBestSo_235 (by decide) ?_
    exact ih145 _ _ _ _ _ _ _ _ _ _ _ _ _ h _ _ hP hD hS _ (lv_sub hl [3, 4, 5, 6, 7, 8, 9, 10, 11, 12, 2, 1, 0] rfl)
  have L168 : ∀ (k131 : Int32 → Int32 → Int32 → Int32 → Int32 → Int32 → Int32 → Int32 → Int32 → S_X5 → Option (Int32 × S_X5)) (ih131 : ∀ (y2 : Int32) (y3 : Int32) (y4 : Int32) (y6 : Int32) (y7 : Int32) (y8 : Int32) (y9 : Int32) (y10 : Int32) (y11 : Int32) (S : S_X5), k131 y2 y3 y4 y6 y7 y8 y9 y10 y11 S = some u → ∀ (H : Heap) (locs : List Loc), va_P (dC, dI) vwCl (wX5 a cI cF S) H → va_D A (wX5 a cI cF S) → va_S A s.heap H locs → ∀ (ls : Array Slot), lv_has ls 16 [(0, .ref (a 0)), (2, .int y2), (3, .int y3), (4, .int y4), (6, .int y6), (7, .int y7), (8, .int y8), (9, .int y9), (10, .int y10), (11, .int y11)] → W p l e (headSpec wsL_areBestSo ({ frames := 6, cells := 0, slots := 0, locals := 177 } : Room)).room s m ([.ref (a 0), .int x1, .int x2] : List Value).toArray below meth c H locs 0 0 (MQ below (qRW (dC, dI) (wX5 a cI cF u.2) (some (.int u.1)) A) ([.ref (a 0), .int x1, .int x2] : List Value).toArray s 0 0 A) (F0 m 131 ls [])) (k145 : Int32 → Int32 → Int32 → Int32 → Int32 → Int32 → Int32 → Int32 → Int32 → Int32 → Int32 → Int32 → S_X5 → Option (Int32 × S_X5)) (ih145 : ∀ (y2 : Int32) (y3 : Int32) (y4 : Int32) (y6 : Int32) (y7 : Int32) (y8 : Int32) (y9 : Int32) (y10 : Int32) (y11 : Int32) (y12 : Int32) (y13 : Int32) (y14 : Int32) (S : S_X5), k145 y2 y3 y4 y6 y7 y8 y9 y10 y11 y12 y13 y14 S = some u → ∀ (H : Heap) (locs : List Loc), va_P (dC, dI) vwCl (wX5 a cI cF S) H → va_D A (wX5 a cI cF S) → va_S A s.heap H locs → ∀ (ls : Array Slot), lv_has ls 16 [(0, .ref (a 0)), (2, .int y2), (3, .int y3), (4, .int y4), (6, .int y6), (7, .int y7), (8, .int y8), (9, .int y9), (10, .int y10), (11, .int y11), (12, .int y12), (13, .int y13), (14, .int y14)] → W p l e (headSpec wsL_areBestSo ({ frames := 6, cells := 0, slots := 0, locals := 177 } : Room)).room s m ([.ref (a 0), .int x1, .int x2] : List Value).toArray below meth c H locs 0 0 (MQ below (qRW (dC, dI) (wX5 a cI cF u.2) (some (.int u.1)) A) ([.ref (a 0), .int x1, .int x2] : List Value).toArray s 0 0 A) (F0 m 145 ls [])), ∀ (y2 : Int32) (y3 : Int32) (y4 : Int32) (y6 : Int32) (y7 : Int32) (y8 : Int32) (y9 : Int32) (y10 : Int32) (y11 : Int32) (y12 : Int32) (y13 : Int32) (y14 : Int32) (t0 : Int32) (S : S_X5), m_L_areBestSo_L168 k131 k145 y2 y3 y4 y6 y7 y8 y9 y10 y11 y12 y13 y14 t0 S = some u → ∀ (H : Heap) (locs : List Loc), va_P (dC, dI) vwCl (wX5 a cI cF S) H → va_D A (wX5 a cI cF S) → va_S A s.heap H locs → ∀ (ls : Array Slot), lv_has ls 16 [(0, .ref (a 0)), (2, .int y2), (3, .int y3), (4, .int y4), (6, .int y6), (7, .int y7), (8, .int y8), (9, .int y9), (10, .int y10), (11, .int y11), (12, .int y12), (13, .int y13), (14, .int y14)] → W p l e (headSpec wsL_areBestSo ({ frames := 6, cells := 0, slots := 0, locals := 177 } : Room)).room s m ([.ref (a 0), .int x1, .int x2] : List Value).toArray below meth c H locs 0 0 (MQ below (qRW (dC, dI) (wX5 a cI cF u.2) (some (.int u.1)) A) ([.ref (a 0), .int x1, .int x2] : List Value).toArray s 0 0 A) (F0 m 168 ls [.int t0]) := by
    intro k131 ih131 k145 ih145 y2 y3 y4 y6 y7 y8 y9 y10 y11 y12 y13 y14 t0 S h H locs hP hD hS ls hl
    rw [m_L_areBestSo_L168] at h
    refine lv_istore (lv' := [(15, .int t0), (0, .ref (a 0)), (2, .int y2), (3, .int y3), (4, .int y4), (6, .int y6), (7, .int y7), (8, .int y8), (9, .int y9), (10, .int y10), (11, .int y11), (12, .int y12), (13, .int y13), (14, .int y14)]) hx hb dL_areBestSo_168 hl (by decide) rfl (fun ls hl => ?_)
    refine lv_iload hx hb dL_areBestSo_170 (lv_at hl 11 rfl) ?_
    refine lv_iload hx hb dL_areBestSo_172 (lv_at hl 0 rfl) ?_
    refine lv_if_eq (tgt := 206) hx hb dL_areBestSo_174 (by decide) (fun c38 => ?_) (fun c38 => ?_)
    · have h := o_t h c38
      refine lv_iconst (v := (0 : Int32)) hx hb dL_areBestSo_206 (by decide) ?_
      exact L207 _ ih131 _ ih145 _ _ _ _ _ _ _ _ _ _ _ _ _ _ _ h _ _ hP hD hS _ (lv_sub hl [1, 2, 3, 4, 5, 6, 7, 8, 9, 10, 12, 13, 0] rfl)
    have h := o_f h c38
    refine lv_iload hx hb dL_areBestSo_177 (lv_at hl 13 rfl) ?_
    refine lv_aload_n hx hb dL_areBestSo_179 rfl (lv_at hl 1 rfl) ?_
    refine lv_iconst (v := (2 : Int32)) hx hb dL_areBestSo_180 (by decide) ?_
    obtain ⟨v52, g53, h⟩ := o_b h
    have g53 := o_R_ g53
    refine k_ro (va_runV (As := [.int (2 : Int32)]) (rest := [.int y14, .int y12]) ⟨hx, hb, hml, hown, hts⟩ (c_X5_count l dC dI cI cF a S (2 : Int32) v52 g53) (cwV 1 hts gL_areBestSo_X5_count rfl rfl rfl (by decide +kernel) ⟨Nat.le_of_ble_eq_true rfl, Nat.le_of_ble_eq_true rfl⟩) (k_preL (q0 := 0) (ci := 5) hK hP (LN_id (fX5 a cI cF S S)) rfl rfl rfl) rfl rfl hl.1 rfl (lv_room (Nat.le_of_ble_eq_true rfl)) dL_areBestSo_181 ⟨Nat.zero_le _, Nat.zero_le _⟩) (st1 := [.int v52, .int y14, .int y12]) rfl ?_
    refine lv_icmp_eq (tgt := 197) hx hb dL_areBestSo_184 (by decide) (fun c54 => ?_) (fun c54 => ?_)
    · have h := o_t h c54
      refine lv_bipush (v := (99 : Int32)) hx hb dL_areBestSo_197 (by decide) ?_
      refine lv_goto (tgt := 207) hx hb dL_areBestSo_199 (by decide) ?_
      exact L207 _ ih131 _ ih145 _ _ _ _ _ _ _ _ _ _ _ _ _ _ _ h _ _ hP hD hS _ (lv_sub hl [1, 2, 3, 4, 5, 6, 7, 8, 9, 10, 12, 13, 0] rfl)
    have h := o_f h c54
    refine lv_aload_n hx hb dL_areBestSo_187 rfl (lv_at hl 1 rfl) ?_
    refine lv_iload hx hb dL_areBestSo_188 (lv_at hl 13 rfl) ?_
    refine lv_iconst (v := (0 : Int32)) hx hb dL_areBestSo_190 (by decide) ?_
    obtain ⟨v55, g56, h⟩ := o_b h
    have g56 := o_R_ g56
    refine k_ro (va_runV (As := [.int y14, .int (0 : Int32)]) (rest := [.int y12]) ⟨hx, hb, hml, hown, hts⟩ (c_X5_can l dC dI cI cF a S y14 (0 : Int32) v55 g56) (cwV 2 hts gL_areBestSo_X5_can rfl rfl rfl (by decide +kernel) ⟨Nat.le_of_ble_eq_true rfl, Nat.le_of_ble_eq_true rfl⟩) (k_preL (q0 := 0) (ci := 5) hK hP (LN_id (fX5 a cI cF S S)) rfl rfl rfl) rfl rfl hl.1 rfl (lv_room (Nat.le_of_ble_eq_true rfl)) dL_areBestSo_191 ⟨Nat.zero_le _, Nat.zero_le _⟩) (st1 := [.int v55, .int y12]) rfl ?_
    refine lv_if_ne (tgt := 202) hx hb dL_areBestSo_194 (by decide) (fun c57 => ?_) (fun c57 => ?_)
    · have h := o_f h c57
      refine lv_iconst (v := (1 : Int32)) hx hb dL_areBestSo_202 (by decide) ?_
      refine lv_goto (tgt := 207) hx hb dL_areBestSo_203 (by decide) ?_
      exact L207 _ ih131 _ ih145 _ _ _ _ _ _ _ _ _ _ _ _ _ _ _ h _ _ hP hD hS _ (lv_sub hl [1, 2, 3, 4, 5, 6, 7, 8, 9, 10, 12, 13, 0] rfl)
    have h := o_t h c57
    refine lv_bipush (v := (99 : Int32)) hx hb dL_areBestSo_197 (by decide) ?_
    refine lv_goto (tgt := 207) hx hb dL_areBestSo_199 (by decide) ?_
    exact L207 _ ih131 _ ih145 _ _ _ _ _ _ _ _ _ _ _ _ _ _ _ h _ _ hP hD hS _ (lv_sub hl [1, 2, 3, 4, 5, 6, 7, 8, 9, 10, 12, 13, 0] rfl)
  have L145 : ∀ (k131 : Int32 → Int32 → Int32 → Int32 → Int32 → Int32 → Int32 → Int32 → Int32 → S_X5 → Option (Int32 × S_X5)) (ih131 : ∀ (y2 : Int32) (y3 : Int32) (y4 : Int32) (y6 : Int32) (y7 : Int32) (y8 : Int32) (y9 : Int32) (y10 : Int32) (y11 : Int32) (S : S_X5), k131 y2 y3 y4 y6 y7 y8 y9 y10 y11 S = some u → ∀ (H : Heap) (locs : List Loc), va_P (dC, dI) vwCl (wX5 a cI cF S) H → va_D A (wX5 a cI cF S) → va_S A s.heap H locs → ∀ (ls : Array Slot), lv_has ls 16 [(0, .ref (a 0)), (2, .int y2), (3, .int y3), (4, .int y4), (6, .int y6), (7, .int y7), (8, .int y8), (9, .int y9), (10, .int y10), (11, .int y11)] → W p l e (headSpec wsL_areBestSo ({ frames := 6, cells := 0, slots := 0, locals := 177 } : Room)).room s m ([.ref (a 0), .int x1, .int x2] : List Value).toArray below meth c H locs 0 0 (MQ below (qRW (dC, dI) (wX5 a cI cF u.2) (some (.int u.1)) A) ([.ref (a 0), .int x1, .int x2] : List Value).toArray s 0 0 A) (F0 m 131 ls [])) (n : Nat), ∀ (y2 : Int32) (y3 : Int32) (y4 : Int32) (y6 : Int32) (y7 : Int32) (y8 : Int32) (y9 : Int32) (y10 : Int32) (y11 : Int32) (y12 : Int32) (y13 : Int32) (y14 : Int32) (S : S_X5), m_L_areBestSo_L145 k131 n y2 y3 y4 y6 y7 y8 y9 y10 y11 y12 y13 y14 S = some u → ∀ (H : Heap) (locs : List Loc), va_P (dC, dI) vwCl (wX5 a cI cF S) H → va_D A (wX5 a cI cF S) → va_S A s.heap H locs → ∀ (ls : Array Slot), lv_has ls 16 [(0, .ref (a 0)), (2, .int y2), (3, .int y3), (4, .int y4), (6, .int y6), (7, .int y7), (8, .int y8), (9, .int y9), (10, .int y10), (11, .int y11), (12, .int y12), (13, .int y13), (14, .int y14)] → W p l e (headSpec wsL_areBestSo ({ frames := 6, cells := 0, slots := 0, locals := 177 } : Room)).room s m ([.ref (a 0), .int x1, .int x2] : List Value).toArray below meth c H locs 0 0 (MQ below (qRW (dC, dI) (wX5 a cI cF u.2) (some (.int u.1)) A) ([.ref (a 0), .int x1, .int x2] : List Value).toArray s 0 0 A) (F0 m 145 ls []) := by
    intro k131 ih131 n
    induction n with
    | zero =>
      intro y2 y3 y4 y6 y7 y8 y9 y10 y11 y12 y13 y14 S h
      exact (o_0 h).elim
    | succ n ih145 =>
      intro y2 y3 y4 y6 y7 y8 y9 y10 y11 y12 y13 y14 S h H locs hP hD hS ls hl
      rw [m_L_areBestSo_L145] at h
      refine lv_iload hx hb dL_areBestSo_145 (lv_at hl 12 rfl) ?_
      refine lv_bipush (v := (8 : Int32)) hx hb dL_areBestSo_147 (by decide) ?_
      refine lv_icmp_ge (tgt := 238) hx hb dL_areBestSo_149 (by decide) (fun c24 => ?_) (fun c24 => ?_)
      · have h := o_t h c24
        exact L238 _ ih131 _ _ _ _ _ _ _ _ _ _ _ _ h _ _ hP hD hS _ (lv_sub hl [0, 1, 2, 3, 4, 5, 6, 7, 8, 9, 10, 11] rfl)
      have h := o_f h c24
      refine lv_iload hx hb dL_areBestSo_152 (lv_at hl 9 rfl) ?_
      refine lv_iload hx hb dL_areBestSo_154 (lv_at hl 12 rfl) ?_
      refine lv_ishr hx hb dL_areBestSo_156 ?_
      refine lv_iconst (v := (1 : Int32)) hx hb dL_areBestSo_157 (by decide) ?_
      refine lv_iand hx hb dL_areBestSo_158 ?_
      refine lv_iconst (v := (1 : Int32)) hx hb dL_areBestSo_159 (by decide) ?_
      refine lv_icmp_ne (tgt := 167) hx hb dL_areBestSo_160 (by decide) (fun c37 => ?_) (fun c37 => ?_)
      · have h := o_f h c37
        refine lv_iconst (v := (0 : Int32)) hx hb dL_areBestSo_167 (by decide) ?_
        exact L168 _ ih131 _ ih145 _ _ _ _ _ _ _ _ _ _ _ _ _ _ h _ _ hP hD hS _ (lv_sub hl [0, 1, 2, 3, 4, 5, 6, 7, 8, 9, 10, 11, 12] rfl)
      have h := o_t h c37
      refine lv_iconst (v := (1 : Int32)) hx hb dL_areBestSo_163 (by decide) ?_
      refine lv_goto (tgt := 168) hx hb dL_areBestSo_164 (by decide) ?_
      exact L168 _ ih131 _ ih145 _ _ _ _ _ _ _ _ _ _ _ _ _ _ h _ _ hP hD hS _ (lv_sub hl [0, 1, 2, 3, 4, 5, 6, 7, 8, 9, 10, 11, 12] rfl)
  have L131 : ∀ (n : Nat), ∀ (y2 : Int32) (y3 : Int32) (y4 : Int32) (y6 : Int32) (y7 : Int32) (y8 : Int32) (y9 : Int32) (y10 : Int32) (y11 : Int32) (S : S_X5), m_L_areBestSo_L131 n y2 y3 y4 y6 y7 y8 y9 y10 y11 S = some u → ∀ (H : Heap) (locs : List Loc), va_P (dC, dI) vwCl (wX5 a cI cF S) H → va_D A (wX5 a cI cF S) → va_S A s.heap H locs → ∀ (ls : Array Slot), lv_has ls 16 [(0, .ref (a 0)), (2, .int y2), (3, .int y3), (4, .int y4), (6, .int y6), (7, .int y7), (8, .int y8), (9, .int y9), (10, .int y10), (11, .int y11)] → W p l e (headSpec wsL_areBestSo ({ frames := 6, cells := 0, slots := 0, locals := 177 } : Room)).room s m ([.ref (a 0), .int x1, .int x2] : List Value).toArray below meth c H locs 0 0 (MQ below (qRW (dC, dI) (wX5 a cI cF u.2) (some (.int u.1)) A) ([.ref (a 0), .int x1, .int x2] : List Value).toArray s 0 0 A) (F0 m 131 ls []) := by
    intro  n
    induction n with
    | zero =>
      intro y2 y3 y4 y6 y7 y8 y9 y10 y11 S h
      exact (o_0 h).elim
    | succ n ih131 =>
      intro y2 y3 y4 y6 y7 y8 y9 y10 y11 S h H locs hP hD hS ls hl
      rw [m_L_areBestSo_L131] at h
      refine lv_iload hx hb dL_areBestSo_131 (lv_at hl 9 rfl) ?_
      refine lv_if_le (tgt := 292) hx hb dL_areBestSo_133 (by decide) (fun c16 => ?_) (fun c16 => ?_)
      · have h := o_t h c16
        exact L292 _ _ _ _ _ _ h _ _ hP hD hS _ (lv_sub hl [0, 2, 3, 4, 5, 7] rfl)
      have h := o_f h c16
      refine lv_iconst (v := (0 : Int32)) hx hb dL_areBestSo_136 (by decide) ?_
      refine lv_istore (lv' := [(12, .int (0 : Int32)), (0, .ref (a 0)), (2, .int y2), (3, .int y3), (4, .int y4), (6, .int y6), (7, .int y7), (8, .int y8), (9, .int y9), (10, .int y10), (11, .int y11)]) hx hb dL_areBestSo_137 hl (by decide) rfl (fun ls hl => ?_)
      refine lv_iconst (v := (0 : Int32)) hx hb dL_areBestSo_139 (by decide) ?_
      refine lv_istore (lv' := [(13, .int (0 : Int32)), (12, .int (0 : Int32)), (0, .ref (a 0)), (2, .int y2), (3, .int y3), (4, .int y4), (6, .int y6), (7, .int y7), (8, .int y8), (9, .int y9), (10, .int y10), (11, .int y11)]) hx hb dL_areBestSo_140 hl (by decide) rfl (fun ls hl => ?_)
      refine lv_iconst (v := (0 : Int32)) hx hb dL_areBestSo_142 (by decide) ?_
      refine lv_istore (lv' := [(14, .int (0 : Int32)), (13, .int (0 : Int32)), (12, .int (0 : Int32)), (0, .ref (a 0)), (2, .int y2), (3, .int y3), (4, .int y4), (6, .int y6), (7, .int y7), (8, .int y8), (9, .int y9), (10, .int y10), (11, .int y11)]) hx hb dL_areBestSo_143 hl (by decide) rfl (fun ls hl => ?_)
      exact L145 _ ih131 _ _ _ _ _ _ _ _ _ _ _ _ _ _ h _ _ hP hD hS _ (lv_sub hl [3, 4, 5, 6, 7, 8, 9, 10, 11, 12, 2, 1, 0] rfl)
  have L100 : ∀ (y2 : Int32) (y3 : Int32) (y4 : Int32) (y6 : Int32) (S : S_X5), m_L_areBestSo_L100 y2 y3 y4 y6 S = some u → ∀ (H : Heap) (locs : List Loc), va_P (dC, dI) vwCl (wX5 a cI cF S) H → va_D A (wX5 a cI cF S) → va_S A s.heap H locs → ∀ (ls : Array Slot), lv_has ls 16 [(0, .ref (a 0)), (2, .int y2), (3, .int y3), (4, .int y4), (6, .int y6)] → W p l e (headSpec wsL_areBestSo ({ frames := 6, cells := 0, slots := 0, locals := 177 } : Room)).room s m ([.ref (a 0), .int x1, .int x2] : List Value).toArray below meth c H locs 0 0 (MQ below (qRW (dC, dI) (wX5 a cI cF u.2) (some (.int u.1)) A) ([.ref (a 0), .int x1, .int x2] : List Value).toArray s 0 0 A) (F0 m 100 ls []) := by
    intro  y2 y3 y4 y6 S h H locs hP hD hS ls hl
    rw [m_L_areBestSo_L100] at h
    refine lv_aload_n hx hb dL_areBestSo_100 rfl (lv_at hl 0 rfl) ?_
    refine lv_iload_n hx hb dL_areBestSo_101 rfl (lv_at hl 1 rfl) ?_
    obtain ⟨v8, g9, h⟩ := o_b h
    have g9 := o_R_ g9
    refine k_ro (va_runV (As := [.int y2]) (rest := []) ⟨hx, hb, hml, hown, hts⟩ (c_X5_bestFeed l dC dI cI cF a S y2 v8 g9) (cwV 1 hts gL_areBestSo_X5_bestFeed rfl rfl rfl (by decide +kernel) ⟨Nat.le_of_ble_eq_true rfl, Nat.le_of_ble_eq_true rfl⟩) (k_preL (q0 := 0) (ci := 5) hK hP (LN_id (fX5 a cI cF S S)) rfl rfl rfl) rfl rfl hl.1 rfl (lv_room (Nat.le_of_ble_eq_true rfl)) dL_areBestSo_102 ⟨Nat.zero_le _, Nat.zero_le _⟩) (st1 := [.int v8]) rfl ?_
    refine lv_istore (lv' := [(7, .int v8), (0, .ref (a 0)), (2, .int y2), (3, .int y3), (4, .int y4), (6, .int y6)]) hx hb dL_areBestSo_105 hl (by decide) rfl (fun ls hl => ?_)
    refine lv_aload_n hx hb dL_areBestSo_107 rfl (lv_at hl 1 rfl) ?_
    refine lv_iconst (v := (1 : Int32)) hx hb dL_areBestSo_108 (by decide) ?_
    obtain ⟨v10, g11, h⟩ := o_b h
    have g11 := o_R_ g11
    refine k_ro (va_runV (As := [.int (1 : Int32)]) (rest := []) ⟨hx, hb, hml, hown, hts⟩ (c_X5_setting l dC dI cI cF a S (1 : Int32) v10 g11) (cwV 1 hts gL_areBestSo_X5_setting rfl rfl rfl (by decide +kernel) ⟨Nat.le_of_ble_eq_true rfl, Nat.le_of_ble_eq_true rfl⟩) (k_preL (q0 := 0) (ci := 5) hK hP (LN_id (fX5 a cI cF S S)) rfl rfl rfl) rfl rfl hl.1 rfl (lv_room (Nat.le_of_ble_eq_true rfl)) dL_areBestSo_109 ⟨Nat.zero_le _, Nat.zero_le _⟩) (st1 := [.int v10]) rfl ?_
    refine lv_aload_n hx hb dL_areBestSo_112 rfl (lv_at hl 1 rfl) ?_
    refine lv_iconst (v := (2 : Int32)) hx hb dL_areBestSo_113 (by decide) ?_
    obtain ⟨v12, g13, h⟩ := o_b h
    have g13 := o_R_ g13
    refine k_ro (va_runV (As := [.int (2 : Int32)]) (rest := [.int v10]) ⟨hx, hb, hml, hown, hts⟩ (c_X5_setting l dC dI cI cF a S (2 : Int32) v12 g13) (cwV 1 hts gL_areBestSo_X5_setting rfl rfl rfl (by decide +kernel) ⟨Nat.le_of_ble_eq_true rfl, Nat.le_of_ble_eq_true rfl⟩) (k_preL (q0 := 0) (ci := 5) hK hP (LN_id (fX5 a cI cF S S)) rfl rfl rfl) rfl rfl hl.1 rfl (lv_room (Nat.le_of_ble_eq_true rfl)) dL_areBestSo_114 ⟨Nat.zero_le _, Nat.zero_le _⟩) (st1 := [.int v12, .int v10]) rfl ?_
    refine lv_imul hx hb dL_areBestSo_117 ?_
    obtain ⟨x8_14, e15, h⟩ := o_n h
    refine lv_nmi e15 ?_
    refine lv_istore (lv' := [(8, .int x8_14), (7, .int v8), (0, .ref (a 0)), (2, .int y2), (3, .int y3), (4, .int y4), (6, .int y6)]) hx hb dL_areBestSo_118 hl (by decide) rfl (fun ls hl => ?_)
    refine lv_iconst (v := (-1 : Int32)) hx hb dL_areBestSo_120 (by decide) ?_
    refine lv_istore (lv' := [(9, .int (-1 : Int32)), (8, .int x8_14), (7, .int v8), (0, .ref (a 0)), (2, .int y2), (3, .int y3), (4, .int y4), (6, .int y6)]) hx hb dL_areBestSo_121 hl (by decide) rfl (fun ls hl => ?_)
    refine lv_iconst (v := (0 : Int32)) hx hb dL_areBestSo_123 (by decide) ?_
    refine lv_istore (lv' := [(10, .int (0 : Int32)), (9, .int (-1 : Int32)), (8, .int x8_14), (7, .int v8), (0, .ref (a 0)), (2, .int y2), (3, .int y3), (4, .int y4), (6, .int y6)]) hx hb dL_areBestSo_124 hl (by decide) rfl (fun ls hl => ?_)
    refine lv_sipush (v := (255 : Int32)) hx hb dL_areBestSo_126 (by decide) ?_
    refine lv_istore (lv' := [(11, .int (255 : Int32)), (10, .int (0 : Int32)), (9, .int (-1 : Int32)), (8, .int x8_14), (7, .int v8), (0, .ref (a 0)), (2, .int y2), (3, .int y3), (4, .int y4), (6, .int y6)]) hx hb dL_areBestSo_129 hl (by decide) rfl (fun ls hl => ?_)
    exact L131 _ _ _ _ _ _ _ _ _ _ _ h _ _ hP hD hS _ (lv_sub hl [5, 6, 7, 8, 9, 4, 3, 2, 1, 0] rfl)
  have L70 : ∀ (k22 : Int32 → Int32 → Int32 → Int32 → Int32 → Int32 → Int32 → S_X5 → Option (Int32 × S_X5)) (ih22 : ∀ (y1 : Int32) (y2 : Int32) (y3 : Int32) (y4 : Int32) (y5 : Int32) (y6 : Int32) (y7 : Int32) (S : S_X5), k22 y1 y2 y3 y4 y5 y6 y7 S = some u → ∀ (H : Heap) (locs : List Loc), va_P (dC, dI) vwCl (wX5 a cI cF S) H → va_D A (wX5 a cI cF S) → va_S A s.heap H locs → ∀ (ls : Array Slot), lv_has ls 16 [(0, .ref (a 0)), (1, .int y1), (2, .int y2), (3, .int y3), (4, .int y4), (5, .int y5), (6, .int y6), (7, .int y7)] → W p l e (headSpec wsL_areBestSo ({ frames := 6, cells := 0, slots := 0, locals := 177 } : Room)).room s m ([.ref (a 0), .int x1, .int x2] : List Value).toArray below meth c H locs 0 0 (MQ below (qRW (dC, dI) (wX5 a cI cF u.2) (some (.int u.1)) A) ([.ref (a 0), .int x1, .int x2] : List Value).toArray s 0 0 A) (F0 m 22 ls [])), ∀ (y1 : Int32) (y2 : Int32) (y3 : Int32) (y4 : Int32) (y5 : Int32) (y7 : Int32) (y9 : Int32) (t0 : Int32) (S : S_X5), m_L_areBestSo_L70 k22 y1 y2 y3 y4 y5 y7 y9 t0 S = some u → ∀ (H : Heap) (locs : List Loc), va_P (dC, dI) vwCl (wX5 a cI cF S) H → va_D A (wX5 a cI cF S) → va_S A s.heap H locs → ∀ (ls : Array Slot), lv_has ls 16 [(0, .ref (a 0)), (1, .int y1), (2, .int y2), (3, .int y3), (4, .int y4), (5, .int y5), (7, .int y7), (9, .int y9)] → W p l e (headSpec wsL_areBestSo ({ frames := 6, cells := 0, slots := 0, locals := 177 } : Room)).room s m ([.ref (a 0), .int x1, .int x2] : List Value).toArray below meth c H locs 0 0 (MQ below (qRW (dC, dI) (wX5 a cI cF u.2) (some (.int u.1)) A) ([.ref (a 0), .int x1, .int x2] : List Value).toArray s 0 0 A) (F0 m 70 ls [.int t0]) := by
    intro k22 ih22 y1 y2 y3 y4 y5 y7 y9 t0 S h H locs hP hD hS ls hl
    rw [m_L_areBestSo_L70] at h
    refine lv_istore (lv' := [(6, .int t0), (0, .ref (a 0)), (1, .int y1), (2, .int y2), (3, .int y3), (4, .int y4), (5, .int y5), (7, .int y7), (9, .int y9)]) hx hb dL_areBestSo_70 hl (by decide) rfl (fun ls hl => ?_)
    refine lv_iload hx hb dL_areBestSo_72 (lv_at hl 0 rfl) ?_
    refine lv_iload hx hb dL_areBestSo_74 (lv_at hl 7 rfl) ?_
    refine lv_icmp_ne (tgt := 84) hx hb dL_areBestSo_76 (by decide) (fun c67 => ?_) (fun c67 => ?_)
    · have h := o_f h c67
      refine lv_iload hx hb dL_areBestSo_84 (lv_at hl 6 rfl) ?_
      refine lv_istore (lv' := [(5, .int y5), (6, .int t0), (0, .ref (a 0)), (1, .int y1), (2, .int y2), (3, .int y3), (4, .int y4), (7, .int y7), (9, .int y9)]) hx hb dL_areBestSo_86 hl (by decide) rfl (fun ls hl => ?_)
      refine lv_aload_n hx hb dL_areBestSo_88 rfl (lv_at hl 2 rfl) ?_
      obtain ⟨v68, g69, h⟩ := o_b h
      have g69 := o_R_ g69
      refine k_rwL (va_runV (As := []) (rest := []) ⟨hx, hb, hml, hown, hts⟩ (c_X5_undo l dC dI cI cF a S v68 g69 H.size) (cwV 0 hts gL_areBestSo_X5_undo rfl rfl rfl (by decide +kernel) ⟨Nat.le_of_ble_eq_true rfl, Nat.le_of_ble_eq_true rfl⟩) (k_preLw (q0 := 0) (ci := 5) hK hP hD (LN_id (fX5 a cI cF S v68.2)) rfl rfl rfl) rfl rfl hl.1 rfl (lv_room (Nat.le_of_ble_eq_true rfl)) dL_areBestSo_89 ⟨Nat.zero_le _, Nat.zero_le _⟩) (st1 := [.int v68.1]) rfl hP hD hS hA (wn := wX5 a cI cF v68.2) (LN_id (fX5 a cI cF S v68.2)) (fun H locs hP hD hS => ?_)
      obtain ⟨x8_70, e71, h⟩ := o_n h
      refine lv_nmi e71 ?_
      refine lv_istore (lv' := [(8, .int x8_70), (5, .int y5), (6, .int t0), (0, .ref (a 0)), (1, .int y1), (2, .int y2), (3, .int y3), (4, .int y4), (7, .int y7), (9, .int y9)]) hx hb dL_areBestSo_92 hl (by decide) rfl (fun ls hl => ?_)
      obtain ⟨x7_72, e73, h⟩ := o_n h
      refine lv_iinc (v := x7_72) (lv' := [(7, .int x7_72), (8, .int x8_70), (5, .int y5), (6, .int t0), (0, .ref (a 0)), (1, .int y1), (2, .int y2), (3, .int y3), (4, .int y4), (9, .int y9)]) hx hb dL_areBestSo_94 hl (k := 8) rfl (by rw [e73]; rfl) (by decide) rfl (fun ls hl => ?_)
      refine lv_goto (tgt := 22) hx hb dL_areBestSo_97 (by decide) ?_
      exact ih22 _ _ _ _ _ _ _ _ h _ _ hP hD hS _ (lv_sub hl [4, 5, 6, 7, 8, 2, 3, 0] rfl)
    have h := o_t h c67
    refine lv_iload hx hb dL_areBestSo_79 (lv_at hl 8 rfl) ?_
    refine lv_goto (tgt := 86) hx hb dL_areBestSo_81 (by decide) ?_
    refine lv_istore (lv' := [(5, .int y9), (6, .int t0), (0, .ref (a 0)), (1, .int y1), (2, .int y2), (3, .int y3), (4, .int y4), (7, .int y7), (9, .int y9)]) hx hb dL_areBestSo_86 hl (by decide) rfl (fun ls hl => ?_)
    refine lv_aload_n hx hb dL_areBestSo_88 rfl (lv_at hl 2 rfl) ?_
    obtain ⟨v74, g75, h⟩ := o_b h
    have g75 := o_R_ g75
    refine k_rwL (va_runV (As := []) (rest := []) ⟨hx, hb, hml, hown, hts⟩ (c_X5_undo l dC dI cI cF a S v74 g75 H.size) (cwV 0 hts gL_areBestSo_X5_undo rfl rfl rfl (by decide +kernel) ⟨Nat.le_of_ble_eq_true rfl, Nat.le_of_ble_eq_true rfl⟩) (k_preLw (q0 := 0) (ci := 5) hK hP hD (LN_id (fX5 a cI cF S v74.2)) rfl rfl rfl) rfl rfl hl.1 rfl (lv_room (Nat.le_of_ble_eq_true rfl)) dL_areBestSo_89 ⟨Nat.zero_le _, Nat.zero_le _⟩) (st1 := [.int v74.1]) rfl hP hD hS hA (wn := wX5 a cI cF v74.2) (LN_id (fX5 a cI cF S v74.2)) (fun H locs hP hD hS => ?_)
    obtain ⟨x8_76, e77, h⟩ := o_n h
    refine lv_nmi e77 ?_
    refine lv_istore (lv' := [(8, .int x8_76), (5, .int y9), (6, .int t0), (0, .ref (a 0)), (1, .int y1), (2, .int y2), (3, .int y3), (4, .int y4), (7, .int y7), (9, .int y9)]) hx hb dL_areBestSo_92 hl (by decide) rfl (fun ls hl => ?_)
    obtain ⟨x7_78, e79, h⟩ := o_n h
    refine lv_iinc (v := x7_78) (lv' := [(7, .int x7_78), (8, .int x8_76), (5, .int y9), (6, .int t0), (0, .ref (a 0)), (1, .int y1), (2, .int y2), (3, .int y3), (4, .int y4), (9, .int y9)]) hx hb dL_areBestSo_94 hl (k := 8) rfl (by rw [e79]; rfl) (by decide) rfl (fun ls hl => ?_)
    refine lv_goto (tgt := 22) hx hb dL_areBestSo_97 (by decide) ?_
    exact ih22 _ _ _ _ _ _ _ _ h _ _ hP hD hS _ (lv_sub hl [4, 5, 6, 7, 8, 2, 3, 0] rfl)
  have L22 : ∀ (n : Nat), ∀ (y1 : Int32) (y2 : Int32) (y3 : Int32) (y4 : Int32) (y5 : Int32) (y6 : Int32) (y7 : Int32) (S : S_X5), m_L_areBestSo_L22 n y1 y2 y3 y4 y5 y6 y7 S = some u → ∀ (H : Heap) (locs : List Loc), va_P (dC, dI) vwCl (wX5 a cI cF S) H → va_D A (wX5 a cI cF S) → va_S A s.heap H locs → ∀ (ls : Array Slot), lv_has ls 16 [(0, .ref (a 0)), (1, .int y1), (2, .int y2), (3, .int y3), (4, .int y4), (5, .int y5), (6, .int y6), (7, .int y7)] → W p l e (headSpec wsL_areBestSo ({ frames := 6, cells := 0, slots := 0, locals := 177 } : Room)).room s m ([.ref (a 0), .int x1, .int x2] : List Value).toArray below meth c H locs 0 0 (MQ below (qRW (dC, dI) (wX5 a cI cF u.2) (some (.int u.1)) A) ([.ref (a 0), .int x1, .int x2] : List Value).toArray s 0 0 A) (F0 m 22 ls []) := by
    intro  n
    induction n with
    | zero =>
      intro y1 y2 y3 y4 y5 y6 y7 S h
      exact (o_0 h).elim
    | succ n ih22 =>
      intro y1 y2 y3 y4 y5 y6 y7 S h H locs hP hD hS ls hl
      rw [m_L_areBestSo_L22] at h
      refine lv_iload hx hb dL_areBestSo_22 (lv_at hl 7 rfl) ?_
      refine lv_bipush (v := (7 : Int32)) hx hb dL_areBestSo_24 (by decide) ?_
      refine lv_icmp_ge (tgt := 100) hx hb dL_areBestSo_26 (by decide) (fun c7 => ?_) (fun c7 => ?_)
      · have h := o_t h c7
        exact L100 _ _ _ _ _ h _ _ hP hD hS _ (lv_sub hl [0, 2, 3, 4, 6] rfl)
      have h := o_f h c7
      refine lv_aload_n hx hb dL_areBestSo_29 rfl (lv_at hl 0 rfl) ?_
      refine lv_iconst (v := (0 : Int32)) hx hb dL_areBestSo_30 (by decide) ?_
      refine lv_iload hx hb dL_areBestSo_31 (lv_at hl 7 rfl) ?_
      obtain ⟨v58, g59, h⟩ := o_b h
      have g59 := o_R_ g59
      refine k_rwL (va_runV (As := [.int (0 : Int32), .int y7]) (rest := []) ⟨hx, hb, hml, hown, hts⟩ (c_X5_set l dC dI cI cF a S (0 : Int32) y7 v58 g59 H.size) (cwV 2 hts gL_areBestSo_X5_set rfl rfl rfl (by decide +kernel) ⟨Nat.le_of_ble_eq_true rfl, Nat.le_of_ble_eq_true rfl⟩) (k_preLwe (q0 := 0) (ci := 5) hE hS hA hK hP hD (LN_id (fX5 a cI cF S v58.2)) rfl rfl rfl) rfl rfl hl.1 rfl (lv_room (Nat.le_of_ble_eq_true rfl)) dL_areBestSo_33 ⟨Nat.zero_le _, Nat.zero_le _⟩) (st1 := [.int v58.1]) rfl hP hD hS hA (wn := wX5 a cI cF v58.2) (LN_id (fX5 a cI cF S v58.2)) (fun H locs hP hD hS => ?_)
      obtain ⟨x8_60, e61, h⟩ := o_n h
      refine lv_nmi e61 ?_
      refine lv_istore (lv' := [(8, .int x8_60), (0, .ref (a 0)), (1, .int y1), (2, .int y2), (3, .int y3), (4, .int y4), (5, .int y5), (6, .int y6), (7, .int y7)]) hx hb dL_areBestSo_36 hl (by decide) rfl (fun ls hl => ?_)
      refine lv_aload_n hx hb dL_areBestSo_38 rfl (lv_at hl 1 rfl) ?_
      refine lv_iload_n hx hb dL_areBestSo_39 rfl (lv_at hl 2 rfl) ?_
      refine lv_iconst (v := (2 : Int32)) hx hb dL_areBestSo_40 (by decide) ?_
      obtain ⟨v62, g63, h⟩ := o_b h
      have g63 := o_R_ g63
      refine k_rwL (va_runV (As := [.int y1, .int (2 : Int32)]) (rest := []) ⟨hx, hb, hml, hown, hts⟩ (c_X5_ifRun l dC dI cI cF a v58.2 y1 (2 : Int32) v62 g63 H.size) (cwV 2 hts gL_areBestSo_X5_ifRun rfl rfl rfl (by decide +kernel) ⟨Nat.le_of_ble_eq_true rfl, Nat.le_of_ble_eq_true rfl⟩) (k_preLw (q0 := 0) (ci := 5) hK hP hD (LN_id (fX5 a cI cF v58.2 v62.2)) rfl rfl rfl) rfl rfl hl.1 rfl (lv_room (Nat.le_of_ble_eq_true rfl)) dL_areBestSo_41 ⟨Nat.zero_le _, Nat.zero_le _⟩) (st1 := [.int v62.1]) rfl hP hD hS hA (wn := wX5 a cI cF v62.2) (LN_id (fX5 a cI cF v58.2 v62.2)) (fun H locs hP hD hS => ?_)
      obtain ⟨x9_64, e65, h⟩ := o_n h
      refine lv_nmi e65 ?_
      refine lv_istore (lv' := [(9, .int x9_64), (8, .int x8_60), (0, .ref (a 0)), (1, .int y1), (2, .int y2), (3, .int y3), (4, .int y4), (5, .int y5), (6, .int y6), (7, .int y7)]) hx hb dL_areBestSo_44 hl (by decide) rfl (fun ls hl => ?_)
      refine lv_iload hx hb dL_areBestSo_46 (lv_at hl 1 rfl) ?_
      refine lv_if_lt (tgt := 68) hx hb dL_areBestSo_48 (by decide) (fun c66 => ?_) (fun c66 => ?_)
      · have h := o_t h c66
        refine lv_iload hx hb dL_areBestSo_68 (lv_at hl 8 rfl) ?_
        exact L70 _ ih22 _ _ _ _ _ _ _ _ _ h _ _ hP hD hS _ (lv_sub hl [2, 3, 4, 5, 6, 7, 9, 0] rfl)
      have h := o_f h c66
      refine lv_iload hx hb dL_areBestSo_51 (lv_at hl 8 rfl) ?_
      refine lv_if_lt (tgt := 63) hx hb dL_areBestSo_53 (by decide) (fun c80 => ?_) (fun c80 => ?_)
      · have h := o_t h c80
        refine lv_iload hx hb dL_areBestSo_63 (lv_at hl 9 rfl) ?_
        refine lv_goto (tgt := 70) hx hb dL_areBestSo_65 (by decide) ?_
        exact L70 _ ih22 _ _ _ _ _ _ _ _ _ h _ _ hP hD hS _ (lv_sub hl [2, 3, 4, 5, 6, 7, 9, 0] rfl)
      have h := o_f h c80
      refine lv_iload hx hb dL_areBestSo_56 (lv_at hl 0 rfl) ?_
      refine lv_iload hx hb dL_areBestSo_58 (lv_at hl 7 rfl) ?_
      refine lv_icmp_ge (tgt := 68) hx hb dL_areBestSo_60 (by decide) (fun c81 => ?_) (fun c81 => ?_)
      · have h := o_t h c81
        refine lv_iload hx hb dL_areBestSo_68 (lv_at hl 8 rfl) ?_
        exact L70 _ ih22 _ _ _ _ _ _ _ _ _ h _ _ hP hD hS _ (lv_sub hl [2, 3, 4, 5, 6, 7, 9, 0] rfl)
      have h := o_f h c81
      refine lv_iload hx hb dL_areBestSo_63 (lv_at hl 9 rfl) ?_
      refine lv_goto (tgt := 70) hx hb dL_areBestSo_65 (by decide) ?_
      exact L70 _ ih22 _ _ _ _ _ _ _ _ _ h _ _ hP hD hS _ (lv_sub hl [2, 3, 4, 5, 6, 7, 9, 0] rfl)
  have hl := lv_entry ([.ref (a 0), .int x1, .int x2]) (n := 16) (Nat.le_of_ble_eq_true rfl)
  rw [lg_entry_eq]
  generalize (lg_sl ([.ref (a 0), .int x1, .int x2]) ++ List.replicate (16 - (lg_sl ([.ref (a 0), .int x1, .int x2])).length) Slot.unset).toArray = ls at hl ⊢
  have hl : lv_has ls 16 [(0, .ref (a 0)), (1, .int x1), (2, .int x2)] := hl
  rw [m_L_areBestSo] at h
  refine lv_aload_n hx hb dL_areBestSo_0 rfl (lv_at hl 0 rfl) ?_
  refine lv_iload_n hx hb dL_areBestSo_1 rfl (lv_at hl 1 rfl) ?_
  obtain ⟨v1, g2, h⟩ := o_b h
  have g2 := o_R_ g2
  refine k_rwL (va_runV (As := [.int x1]) (rest := []) ⟨hx, hb, hml, hown, hts⟩ (c_X5_bestLag l dC dI cI cF a S x1 v1 g2 s.heap.size) (cwV 1 hts gL_areBestSo_X5_bestLag rfl rfl rfl (by decide +kernel) ⟨Nat.le_of_ble_eq_true rfl, Nat.le_of_ble_eq_true rfl⟩) (k_preLw (q0 := 0) (ci := 5) hK hP hD (LN_id (fX5 a cI cF S v1.2)) rfl rfl rfl) rfl rfl hl.1 rfl (lv_room (Nat.le_of_ble_eq_true rfl)) dL_areBestSo_2 ⟨Nat.zero_le _, Nat.zero_le _⟩) (st1 := [.int v1.1]) rfl hP hD hS hA (wn := wX5 a cI cF v1.2) (LN_id (fX5 a cI cF S v1.2)) (fun H locs hP hD hS => ?_)
  obtain ⟨x3_3, e4, h⟩ := o_n h
  refine lv_nmi e4 ?_
  refine lv_istore_n (lv' := [(3, .int x3_3), (0, .ref (a 0)), (1, .int x1), (2, .int x2)]) hx hb dL_areBestSo_5 rfl hl (by decide) rfl (fun ls hl => ?_)
  refine lv_aload_n hx hb dL_areBestSo_6 rfl (lv_at hl 1 rfl) ?_
  refine lv_iconst (v := (0 : Int32)) hx hb dL_areBestSo_7 (by decide) ?_
  obtain ⟨v5, g6, h⟩ := o_b h
  have g6 := o_R_ g6
  refine k_ro (va_runV (As := [.int (0 : Int32)]) (rest := []) ⟨hx, hb, hml, hown, hts⟩ (c_X5_setting l dC dI cI cF a v1.2 (0 : Int32) v5 g6) (cwV 1 hts gL_areBestSo_X5_setting rfl rfl rfl (by decide +kernel) ⟨Nat.le_of_ble_eq_true rfl, Nat.le_of_ble_eq_true rfl⟩) (k_preL (q0 := 0) (ci := 5) hK hP (LN_id (fX5 a cI cF v1.2 v1.2)) rfl rfl rfl) rfl rfl hl.1 rfl (lv_room (Nat.le_of_ble_eq_true rfl)) dL_areBestSo_8 ⟨Nat.zero_le _, Nat.zero_le _⟩) (st1 := [.int v5]) rfl ?_
  refine lv_istore (lv' := [(4, .int v5), (3, .int x3_3), (0, .ref (a 0)), (1, .int x1), (2, .int x2)]) hx hb dL_areBestSo_11 hl (by decide) rfl (fun ls hl => ?_)
  refine lv_iconst (v := (-1 : Int32)) hx hb dL_areBestSo_13 (by decide) ?_
  refine lv_istore (lv' := [(5, .int (-1 : Int32)), (4, .int v5), (3, .int x3_3), (0, .ref (a 0)), (1, .int x1), (2, .int x2)]) hx hb dL_areBestSo_14 hl (by decide) rfl (fun ls hl => ?_)
  refine lv_iconst (v := (-1 : Int32)) hx hb dL_areBestSo_16 (by decide) ?_
  refine lv_istore (lv' := [(6, .int (-1 : Int32)), (5, .int (-1 : Int32)), (4, .int v5), (3, .int x3_3), (0, .ref (a 0)), (1, .int x1), (2, .int x2)]) hx hb dL_areBestSo_17 hl (by decide) rfl (fun ls hl => ?_)
  refine lv_iconst (v := (0 : Int32)) hx hb dL_areBestSo_19 (by decide) ?_
  refine lv_istore (lv' := [(7, .int (0 : Int32)), (6, .int (-1 : Int32)), (5, .int (-1 : Int32)), (4, .int v5), (3, .int x3_3), (0, .ref (a 0)), (1, .int x1), (2, .int x2)]) hx hb dL_areBestSo_20 hl (by decide) rfl (fun ls hl => ?_)
  exact L22 _ _ _ _ _ _ _ _ _ h _ _ hP hD hS _ (lv_sub hl [5, 6, 7, 4, 3, 2, 1, 0] rfl)

