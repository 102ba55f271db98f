-- L_areCansSo
def m_L_areCansSo_L319 (S : S_X5) (y1 : Int32) (y2 : Int32) : Option (Int32) := if y2 = 0 then (some (0 : Int32)) else ((o_R (m_X5_count S (8 : Int32))).bind fun v3 => (if y1 = v3 then ((o_R (m_X5_count S (9 : Int32))).bind fun v6 => (if v6 = y1 then ((o_R (m_X5_count S (7 : Int32))).bind fun v9 => ((o_R (m_X5_count S (6 : Int32))).bind fun v11 => (if (v9 - v11) = y1 then ((m_X5_wasteShare S).bind fun v14 => (if (Op.cmpValue (FP.fcmp v14 FP.fconst0) (.l : CmpOp)) < 0 then (some (0 : Int32)) else ((m_X5_wasteShare S).bind fun v17 => (if 0 < (Op.cmpValue (FP.fcmp v17 FP.fconst1) (.g : CmpOp)) then (some (0 : Int32)) else (some (1 : Int32)))))) else (some (0 : Int32))))) else (some (0 : Int32)))) else (some (0 : Int32))))
def m_L_areCansSo_L288 (S : S_X5) (k6 : Int32 → Int32 → Int32 → Option (Int32)) (y1 : Int32) (y3 : Int32) : Option (Int32) := (o_R (m_X5_can S y3 (6 : Int32))).bind fun v69 => ((o_R (m_X5_count S (1 : Int32))).bind fun v71 => (if v69 = ((v71 >>> (y3 &&& 31)) &&& (1 : Int32)) then (nmL (y3 + 1) fun x3_76 => (k6 y1 (1 : Int32) x3_76)) else (nmL (y3 + 1) fun x3_74 => (k6 y1 (0 : Int32) x3_74))))
def m_L_areCansSo_L139 (S : S_X5) (k6 : Int32 → Int32 → Int32 → Option (Int32)) (y1 : Int32) (y2 : Int32) (y3 : Int32) (y4 : Int32) (y5 : Int32) (y6 : Int32) (y7 : Int32) (y8 : Int32) : Option (Int32) := nmL (y1 + y5) fun x1_23 => (if y2 = 0 then (nmL (y3 + 1) fun x3_26 => (k6 x1_23 (0 : Int32) x3_26)) else (if (40 : Int32) < y4 then (nmL (y3 + 1) fun x3_29 => (k6 x1_23 (0 : Int32) x3_29)) else ((o_R (m_X5_metre S y3 y4)).bind fun v31 => (if v31 = (-1 : Int32) then ((o_R (m_X5_can S y3 (1 : Int32))).bind fun v36 => (if v36 = y5 then ((o_R (m_X5_can S y3 (5 : Int32))).bind fun v41 => (if v41 = y8 then (if y4 = 0 then ((o_R (m_X5_can S y3 (2 : Int32))).bind fun v78 => (if v78 = (-1 : Int32) then ((o_R (m_X5_can S y3 (3 : Int32))).bind fun v83 => (if v83 = (-1 : Int32) then ((o_R (m_X5_can S y3 (4 : Int32))).bind fun v88 => (if v88 = 0 then ((o_R (m_X5_can S y3 (7 : Int32))).bind fun v93 => (if v93 = (-1 : Int32) then (m_L_areCansSo_L288 S k6 x1_23 y3) else (nmL (y3 + 1) fun x3_96 => (k6 x1_23 (0 : Int32) x3_96)))) else (nmL (y3 + 1) fun x3_91 => (k6 x1_23 (0 : Int32) x3_91)))) else (nmL (y3 + 1) fun x3_86 => (k6 x1_23 (0 : Int32) x3_86)))) else (nmL (y3 + 1) fun x3_81 => (k6 x1_23 (0 : Int32) x3_81)))) else ((o_R (m_X5_can S y3 (2 : Int32))).bind fun v47 => (if v47 = y6 then ((o_R (m_X5_can S y3 (3 : Int32))).bind fun v52 => (if v52 = y7 then ((o_R (m_X5_can S y3 (4 : Int32))).bind fun v57 => (if v57 = (y7 - y6) then ((o_R (m_X5_can S y3 (7 : Int32))).bind fun v62 => ((o_R (m_X5_metre S y3 (0 : Int32))).bind fun v64 => (if v62 = v64 then (m_L_areCansSo_L288 S k6 x1_23 y3) else (nmL (y3 + 1) fun x3_67 => (k6 x1_23 (0 : Int32) x3_67))))) else (nmL (y3 + 1) fun x3_60 => (k6 x1_23 (0 : Int32) x3_60)))) else (nmL (y3 + 1) fun x3_55 => (k6 x1_23 (0 : Int32) x3_55)))) else (nmL (y3 + 1) fun x3_50 => (k6 x1_23 (0 : Int32) x3_50))))) else (nmL (y3 + 1) fun x3_44 => (k6 x1_23 (0 : Int32) x3_44)))) else (nmL (y3 + 1) fun x3_39 => (k6 x1_23 (0 : Int32) x3_39)))) else (nmL (y3 + 1) fun x3_34 => (k6 x1_23 (0 : Int32) x3_34))))))
def m_L_areCansSo_L115 (S : S_X5) (k6 : Int32 → Int32 → Int32 → Option (Int32)) (k37 : Int32 → Int32 → Int32 → Int32 → Int32 → Int32 → Int32 → Int32 → Int32 → Option (Int32)) (y1 : Int32) (y2 : Int32) (y3 : Int32) (y4 : Int32) (y5 : Int32) (y7 : Int32) (y8 : Int32) (y9 : Int32) (y10 : Int32) (t0 : Int32) : Option (Int32) := if y10 ≤ y7 then (nmL (y9 + 1) fun x9_112 => (k37 y1 y2 y3 y4 y5 t0 y7 y8 x9_112)) else (nmL (y9 + 1) fun x9_114 => (k37 y1 y2 y3 y4 y5 t0 y10 y8 x9_114))
def m_L_areCansSo_L91 (S : S_X5) (k6 : Int32 → Int32 → Int32 → Option (Int32)) (k37 : Int32 → Int32 → Int32 → Int32 → Int32 → Int32 → Int32 → Int32 → Int32 → Option (Int32)) (y1 : Int32) (y2 : Int32) (y3 : Int32) (y4 : Int32) (y5 : Int32) (y6 : Int32) (y7 : Int32) (y9 : Int32) (y10 : Int32) (t0 : Int32) (t1 : Int32) : Option (Int32) := nmL (t0 + t1) fun x8_106 => (nmL (y5 + y10) fun x5_108 => (if y6 ≤ y10 then (m_L_areCansSo_L115 S k6 k37 y1 y2 y3 y4 x5_108 y7 x8_106 y9 y10 y6) else (m_L_areCansSo_L115 S k6 k37 y1 y2 y3 y4 x5_108 y7 x8_106 y9 y10 y10)))
def m_L_areCansSo_L37 (S : S_X5) (k6 : Int32 → Int32 → Int32 → Option (Int32)) : Nat → Int32 → Int32 → Int32 → Int32 → Int32 → Int32 → Int32 → Int32 → Int32 → Option (Int32)
  | 0, _, _, _, _, _, _, _, _, _ => none
  | n + 1, y1, y2, y3, y4, y5, y6, y7, y8, y9 => if y4 ≤ y9 then (m_L_areCansSo_L139 S k6 y1 y2 y3 y4 y5 y6 y7 y8) else ((o_R (m_X5_metre S y3 y9)).bind fun v98 => (if y9 = 0 then (if 0 ≤ (0 : Int32) then (m_L_areCansSo_L91 S k6 (m_L_areCansSo_L37 S k6 n) y1 y2 y3 y4 y5 y6 y7 y9 v98 y8 (0 : Int32)) else (m_L_areCansSo_L91 S k6 (m_L_areCansSo_L37 S k6 n) y1 y2 y3 y4 y5 y6 y7 y9 v98 y8 (-(0 : Int32)))) else ((o_R (m_X5_metre S y3 (y9 - (1 : Int32)))).bind fun v101 => (nmL (v98 - v101) fun x11_103 => (if 0 ≤ x11_103 then (m_L_areCansSo_L91 S k6 (m_L_areCansSo_L37 S k6 n) y1 y2 y3 y4 y5 y6 y7 y9 v98 y8 x11_103) else (m_L_areCansSo_L91 S k6 (m_L_areCansSo_L37 S k6 n) y1 y2 y3 y4 y5 y6 y7 y9 v98 y8 (-x11_103)))))))
def m_L_areCansSo_L6 (S : S_X5) : Nat → Int32 → Int32 → Int32 → Option (Int32)
  | 0, _, _, _ => none
  | n + 1, y1, y2, y3 => if (8 : Int32) ≤ y3 then (m_L_areCansSo_L319 S y1 y2) else ((o_R (m_X5_can S y3 (0 : Int32))).bind fun v20 => (m_L_areCansSo_L37 S (m_L_areCansSo_L6 S n) 4000 y1 y2 y3 v20 (0 : Int32) (1000 : Int32) (-1 : Int32) (0 : Int32) (0 : Int32)))
def m_L_areCansSo (S : S_X5) : Option (Int32) := m_L_areCansSo_L6 S 4000 (0 : Int32) (1 : Int32) (0 : Int32)
set_option maxHeartbeats 4000000 in
set_option maxRecDepth 100000 in
theorem c_L_areCansSo (l : Launch) (dC : Nat → ClassId) (dI : Nat → Nat → Nat) (cI cF : ClassId) (a : Nat → Nat) (S : S_X5) (u : Int32) (h : m_L_areCansSo S = some u) : cRO l (dC, dI) cI cF yL_areCansSo wsL_areCansSo ({ frames := 5, cells := 0, slots := 0, locals := 111 } : Room) [.ref (a 0)] (wX5 a cI cF S) (some (.int u)) := by
  refine Met.ofW (cc := cL_areCansSo) (maxL := 12) (ret := (some .boolean)) (by decide) rfl ?_
  intro p e s m args below meth c s₁ B hml hv
  obtain ⟨hargs, hP, hK⟩ := hv
  subst hargs
  have hx := B.exec
  have hb := B.bytes
  have hr := B.returns
  have hts := atoms_spec (ws := wsL_areCansSo) B.pre
  have hown : s.vm.findClass RL = some m.cls := findClass_of_methodNamed B.named
  have hlocks := B.notSynchronized
  have w20 := hts (.methodLink RL 20 yX5_can) (List.mem_of_getElem? (i := 1) rfl)
  have w55 := hts (.methodLink RL 55 yX5_metre) (List.mem_of_getElem? (i := 66) rfl)
  have w58 := hts (.methodLink RL 58 yX5_count) (List.mem_of_getElem? (i := 70) rfl)
  have w61 := hts (.methodLink RL 61 yX5_wasteShare) (List.mem_of_getElem? (i := 95) rfl)
  have L319 : ∀ (y1 : Int32) (y2 : Int32), m_L_areCansSo_L319 S y1 y2 = some u → ∀ (ls : Array Slot), lv_has ls 12 [(0, .ref (a 0)), (1, .int y1), (2, .int y2)] → W p l e (headSpec wsL_areCansSo ({ frames := 5, cells := 0, slots := 0, locals := 111 } : Room)).room s m ([.ref (a 0)] : List Value).toArray below meth c s.heap [] 0 0 (MQ below (qRO (some (.int u))) ([.ref (a 0)] : List Value).toArray s 0 0 (fun _ => False)) (F0 m 319 ls []) := by
    intro  y1 y2 h ls hl
    rw [m_L_areCansSo_L319] at h
    refine lv_iload_n hx hb dL_areCansSo_319 rfl (lv_at hl 2 rfl) ?_
    refine lv_if_eq (tgt := 382) hx hb dL_areCansSo_320 (by decide) (fun c2 => ?_) (fun c2 => ?_)
    · have h := o_t h c2
      refine lv_iconst (v := (0 : Int32)) hx hb dL_areCansSo_382 (by decide) ?_
      have hu := Option.some.inj h
      exact W.zret (v := (0 : Int32)) hx hb hr rfl (fun t ht hW => ⟨congrArg (fun z => Outcome.returned (some (Value.int z))) hu, ht⟩) (fun q hq => absurd hq List.not_mem_nil) dL_areCansSo_383
    have h := o_f h c2
    refine lv_iload_n hx hb dL_areCansSo_323 rfl (lv_at hl 1 rfl) ?_
    refine lv_aload_n hx hb dL_areCansSo_324 rfl (lv_at hl 0 rfl) ?_
    refine lv_bipush (v := (8 : Int32)) hx hb dL_areCansSo_325 (by decide) ?_
    obtain ⟨v3, g4, h⟩ := o_b h
    have g4 := o_R_ g4
    refine k_ro (va_runV (As := [.int (8 : Int32)]) (rest := [.int y1]) ⟨hx, hb, hml, hown, hts⟩ (c_X5_count l dC dI cI cF a S (8 : Int32) v3 g4) (cwV 1 hts gL_areCansSo_X5_count rfl rfl rfl (by decide +kernel) ⟨Nat.le_of_ble_eq_true rfl, Nat.le_of_ble_eq_true rfl⟩) (k_preL (q0 := 0) (ci := 5) hK hP (LN_id (fX5 a cI cF S S)) rfl rfl rfl) rfl rfl hl.1 rfl (lv_room (Nat.le_of_ble_eq_true rfl)) dL_areCansSo_327 ⟨Nat.zero_le _, Nat.zero_le _⟩) (st1 := [.int v3, .int y1]) rfl ?_
    refine lv_icmp_ne (tgt := 382) hx hb dL_areCansSo_330 (by decide) (fun c5 => ?_) (fun c5 => ?_)
    · have h := o_f h c5
      refine lv_iconst (v := (0 : Int32)) hx hb dL_areCansSo_382 (by decide) ?_
      have hu := Option.some.inj h
      exact W.zret (v := (0 : Int32)) hx hb hr rfl (fun t ht hW => ⟨congrArg (fun z => Outcome.returned (some (Value.int z))) hu, ht⟩) (fun q hq => absurd hq List.not_mem_nil) dL_areCansSo_383
    have h := o_t h c5
    refine lv_aload_n hx hb dL_areCansSo_333 rfl (lv_at hl 0 rfl) ?_
    refine lv_bipush (v := (9 : Int32)) hx hb dL_areCansSo_334 (by decide) ?_
    obtain ⟨v6, g7, h⟩ := o_b h
    have g7 := o_R_ g7
    refine k_ro (va_runV (As := [.int (9 : Int32)]) (rest := []) ⟨hx, hb, hml, hown, hts⟩ (c_X5_count l dC dI cI cF a S (9 : Int32) v6 g7) (cwV 1 hts gL_areCansSo_X5_count rfl rfl rfl (by decide +kernel) ⟨Nat.le_of_ble_eq_true rfl, Nat.le_of_ble_eq_true rfl⟩) (k_preL (q0 := 0) (ci := 5) hK hP (LN_id (fX5 a cI cF S S)) rfl rfl rfl) rfl rfl hl.1 rfl (lv_room (Nat.le_of_ble_eq_true rfl)) dL_areCansSo_336 ⟨Nat.zero_le _, Nat.zero_le _⟩) (st1 := [.int v6]) rfl ?_
    refine lv_iload_n hx hb dL_areCansSo_339 rfl (lv_at hl 1 rfl) ?_
    refine lv_icmp_ne (tgt := 382) hx hb dL_areCansSo_340 (by decide) (fun c8 => ?_) (fun c8 => ?_)
    · have h := o_f h c8
      refine lv_iconst (v := (0 : Int32)) hx hb dL_areCansSo_382 (by decide) ?_
      have hu := Option.some.inj h
      exact W.zret (v := (0 : Int32)) hx hb hr rfl (fun t ht hW => ⟨congrArg (fun z => Outcome.returned (some (Value.int z))) hu, ht⟩) (fun q hq => absurd hq List.not_mem_nil) dL_areCansSo_383
    have h := o_t h c8
    refine lv_aload_n hx hb dL_areCansSo_343 rfl (lv_at hl 0 rfl) ?_
    refine lv_bipush (v := (7 : Int32)) hx hb dL_areCansSo_344 (by decide) ?_
    obtain ⟨v9, g10, h⟩ := o_b h
    have g10 := o_R_ g10
    refine k_ro (va_runV (As := [.int (7 : Int32)]) (rest := []) ⟨hx, hb, hml, hown, hts⟩ (c_X5_count l dC dI cI cF a S (7 : Int32) v9 g10) (cwV 1 hts gL_areCansSo_X5_count rfl rfl rfl (by decide +kernel) ⟨Nat.le_of_ble_eq_true rfl, Nat.le_of_ble_eq_true rfl⟩) (k_preL (q0 := 0) (ci := 5) hK hP (LN_id (fX5 a cI cF S S)) rfl rfl rfl) rfl rfl hl.1 rfl (lv_room (Nat.le_of_ble_eq_true rfl)) dL_areCansSo_346 ⟨Nat.zero_le _, Nat.zero_le _⟩) (st1 := [.int v9]) rfl ?_
    refine lv_aload_n hx hb dL_areCansSo_349 rfl (lv_at hl 0 rfl) ?_
    refine lv_bipush (v := (6 : Int32)) hx hb dL_areCansSo_350 (by decide) ?_
    obtain ⟨v11, g12, h⟩ := o_b h
    have g12 := o_R_ g12
    refine k_ro (va_runV (As := [.int (6 : Int32)]) (rest := [.int v9]) ⟨hx, hb, hml, hown, hts⟩ (c_X5_count l dC dI cI cF a S (6 : Int32) v11 g12) (cwV 1 hts gL_areCansSo_X5_count rfl rfl rfl (by decide +kernel) ⟨Nat.le_of_ble_eq_true rfl, Nat.le_of_ble_eq_true rfl⟩) (k_preL (q0 := 0) (ci := 5) hK hP (LN_id (fX5 a cI cF S S)) rfl rfl rfl) rfl rfl hl.1 rfl (lv_room (Nat.le_of_ble_eq_true rfl)) dL_areCansSo_352 ⟨Nat.zero_le _, Nat.zero_le _⟩) (st1 := [.int v11, .int v9]) rfl ?_
    refine lv_isub hx hb dL_areCansSo_355 ?_
    refine lv_iload_n hx hb dL_areCansSo_356 rfl (lv_at hl 1 rfl) ?_
    refine lv_icmp_ne (tgt := 382) hx hb dL_areCansSo_357 (by decide) (fun c13 => ?_) (fun c13 => ?_)
    · have h := o_f h c13
      refine lv_iconst (v := (0 : Int32)) hx hb dL_areCansSo_382 (by decide) ?_
      have hu := Option.some.inj h
      exact W.zret (v := (0 : Int32)) hx hb hr rfl (fun t ht hW => ⟨congrArg (fun z => Outcome.returned (some (Value.int z))) hu, ht⟩) (fun q hq => absurd hq List.not_mem_nil) dL_areCansSo_383
    have h := o_t h c13
    refine lv_aload_n hx hb dL_areCansSo_360 rfl (lv_at hl 0 rfl) ?_
    obtain ⟨v14, g15, h⟩ := o_b h
    refine k_ro (va_runV (As := []) (rest := []) ⟨hx, hb, hml, hown, hts⟩ (c_X5_wasteShare l dC dI cI cF a S v14 g15) (cwV 0 hts gL_areCansSo_X5_wasteShare rfl rfl rfl (by decide +kernel) ⟨Nat.le_of_ble_eq_true rfl, Nat.le_of_ble_eq_true rfl⟩) (k_preL (q0 := 0) (ci := 5) hK hP (LN_id (fX5 a cI cF S S)) rfl rfl rfl) rfl rfl hl.1 rfl (lv_room (Nat.le_of_ble_eq_true rfl)) dL_areCansSo_361 ⟨Nat.zero_le _, Nat.zero_le _⟩) (st1 := [.float v14]) rfl ?_
    refine lv_fconst0 hx hb dL_areCansSo_364 ?_
    refine lv_fcmp hx hb dL_areCansSo_365 ?_
    refine lv_if_lt (tgt := 382) hx hb dL_areCansSo_366 (by decide) (fun c16 => ?_) (fun c16 => ?_)
    · have h := o_t h c16
      refine lv_iconst (v := (0 : Int32)) hx hb dL_areCansSo_382 (by decide) ?_
      have hu := Option.some.inj h
      exact W.zret (v := (0 : Int32)) hx hb hr rfl (fun t ht hW => ⟨congrArg (fun z => Outcome.returned (some (Value.int z))) hu, ht⟩) (fun q hq => absurd hq List.not_mem_nil) dL_areCansSo_383
    have h := o_f h c16
    refine lv_aload_n hx hb dL_areCansSo_369 rfl (lv_at hl 0 rfl) ?_
    obtain ⟨v17, g18, h⟩ := o_b h
    refine k_ro (va_runV (As := []) (rest := []) ⟨hx, hb, hml, hown, hts⟩ (c_X5_wasteShare l dC dI cI cF a S v17 g18) (cwV 0 hts gL_areCansSo_X5_wasteShare rfl rfl rfl (by decide +kernel) ⟨Nat.le_of_ble_eq_true rfl, Nat.le_of_ble_eq_true rfl⟩) (k_preL (q0 := 0) (ci := 5) hK hP (LN_id (fX5 a cI cF S S)) rfl rfl rfl) rfl rfl hl.1 rfl (lv_room (Nat.le_of_ble_eq_true rfl)) dL_areCansSo_370 ⟨Nat.zero_le _, Nat.zero_le _⟩) (st1 := [.float v17]) rfl ?_
    refine lv_fconst1 hx hb dL_areCansSo_373 ?_
    refine lv_fcmp hx hb dL_areCansSo_374 ?_
    refine lv_if_gt (tgt := 382) hx hb dL_areCansSo_375 (by decide) (fun c19 => ?_) (fun c19 => ?_)
    · have h := o_t h c19
      refine lv_iconst (v := (0 : Int32)) hx hb dL_areCansSo_382 (by decide) ?_
      have hu := Option.some.inj h
      exact W.zret (v := (0 : Int32)) hx hb hr rfl (fun t ht hW => ⟨congrArg (fun z => Outcome.returned (some (Value.int z))) hu, ht⟩) (fun q hq => absurd hq List.not_mem_nil) dL_areCansSo_383
    have h := o_f h c19
    refine lv_iconst (v := (1 : Int32)) hx hb dL_areCansSo_378 (by decide) ?_
    refine lv_goto (tgt := 383) hx hb dL_areCansSo_379 (by decide) ?_
    have hu := Option.some.inj h
    exact W.zret (v := (1 : Int32)) hx hb hr rfl (fun t ht hW => ⟨congrArg (fun z => Outcome.returned (some (Value.int z))) hu, ht⟩) (fun q hq => absurd hq List.not_mem_nil) dL_areCansSo_383
  have L288 : ∀ (k6 : Int32 → Int32 → Int32 → Option (Int32)) (ih6 : ∀ (y1 : Int32) (y2 : Int32) (y3 : Int32), k6 y1 y2 y3 = some u → ∀ (ls : Array Slot), lv_has ls 12 [(0, .ref (a 0)), (1, .int y1), (2, .int y2), (3, .int y3)] → W p l e (headSpec wsL_areCansSo ({ frames := 5, cells := 0, slots := 0, locals := 111 } : Room)).room s m ([.ref (a 0)] : List Value).toArray below meth c s.heap [] 0 0 (MQ below (qRO (some (.int u))) ([.ref (a 0)] : List Value).toArray s 0 0 (fun _ => False)) (F0 m 6 ls [])), ∀ (y1 : Int32) (y3 : Int32), m_L_areCansSo_L288 S k6 y1 y3 = some u → ∀ (ls : Array Slot), lv_has ls 12 [(0, .ref (a 0)), (1, .int y1), (3, .int y3)] → W p l e (headSpec wsL_areCansSo ({ frames := 5, cells := 0, slots := 0, locals := 111 } : Room)).room s m ([.ref (a 0)] : List Value).toArray below meth c s.heap [] 0 0 (MQ below (qRO (some (.int u))) ([.ref (a 0)] : List Value).toArray s 0 0 (fun _ => False)) (F0 m 288 ls []) := by
    intro k6 ih6 y1 y3 h ls hl
    rw [m_L_areCansSo_L288] at h
    refine lv_aload_n hx hb dL_areCansSo_288 rfl (lv_at hl 0 rfl) ?_
    refine lv_iload_n hx hb dL_areCansSo_289 rfl (lv_at hl 2 rfl) ?_
    refine lv_bipush (v := (6 : Int32)) hx hb dL_areCansSo_290 (by decide) ?_
    obtain ⟨v69, g70, h⟩ := o_b h
    have g70 := o_R_ g70
    refine k_ro (va_runV (As := [.int y3, .int (6 : Int32)]) (rest := []) ⟨hx, hb, hml, hown, hts⟩ (c_X5_can l dC dI cI cF a S y3 (6 : Int32) v69 g70) (cwV 2 hts gL_areCansSo_X5_can rfl rfl rfl (by decide +kernel) ⟨Nat.le_of_ble_eq_true rfl, Nat.le_of_ble_eq_true rfl⟩) (k_preL (q0 := 0) (ci := 5) hK hP (LN_id (fX5 a cI cF S S)) rfl rfl rfl) rfl rfl hl.1 rfl (lv_room (Nat.le_of_ble_eq_true rfl)) dL_areCansSo_292 ⟨Nat.zero_le _, Nat.zero_le _⟩) (st1 := [.int v69]) rfl ?_
    refine lv_aload_n hx hb dL_areCansSo_295 rfl (lv_at hl 0 rfl) ?_
    refine lv_iconst (v := (1 : Int32)) hx hb dL_areCansSo_296 (by decide) ?_
    obtain ⟨v71, g72, h⟩ := o_b h
    have g72 := o_R_ g72
    refine k_ro (va_runV (As := [.int (1 : Int32)]) (rest := [.int v69]) ⟨hx, hb, hml, hown, hts⟩ (c_X5_count l dC dI cI cF a S (1 : Int32) v71 g72) (cwV 1 hts gL_areCansSo_X5_count rfl rfl rfl (by decide +kernel) ⟨Nat.le_of_ble_eq_true rfl, Nat.le_of_ble_eq_true rfl⟩) (k_preL (q0 := 0) (ci := 5) hK hP (LN_id (fX5 a cI cF S S)) rfl rfl rfl) rfl rfl hl.1 rfl (lv_room (Nat.le_of_ble_eq_true rfl)) dL_areCansSo_297 ⟨Nat.zero_le _, Nat.zero_le _⟩) (st1 := [.int v71, .int v69]) rfl ?_
    refine lv_iload_n hx hb dL_areCansSo_300 rfl (lv_at hl 2 rfl) ?_
    refine lv_ishr hx hb dL_areCansSo_301 ?_
    refine lv_iconst (v := (1 : Int32)) hx hb dL_areCansSo_302 (by decide) ?_
    refine lv_iand hx hb dL_areCansSo_303 ?_
    refine lv_icmp_ne (tgt := 311) hx hb dL_areCansSo_304 (by decide) (fun c73 => ?_) (fun c73 => ?_)
    · have h := o_f h c73
      refine lv_iconst (v := (0 : Int32)) hx hb dL_areCansSo_311 (by decide) ?_
      refine lv_istore_n (lv' := [(2, .int (0 : Int32)), (0, .ref (a 0)), (1, .int y1), (3, .int y3)]) hx hb dL_areCansSo_312 rfl hl (by decide) rfl (fun ls hl => ?_)
      obtain ⟨x3_74, e75, h⟩ := o_n h
      refine lv_iinc (v := x3_74) (lv' := [(3, .int x3_74), (2, .int (0 : Int32)), (0, .ref (a 0)), (1, .int y1)]) hx hb dL_areCansSo_313 hl (k := 3) rfl (by rw [e75]; rfl) (by decide) rfl (fun ls hl => ?_)
      refine lv_goto (tgt := 6) hx hb dL_areCansSo_316 (by decide) ?_
      exact ih6 _ _ _ h _ (lv_sub hl [2, 3, 1, 0] rfl)
    have h := o_t h c73
    refine lv_iconst (v := (1 : Int32)) hx hb dL_areCansSo_307 (by decide) ?_
    refine lv_goto (tgt := 312) hx hb dL_areCansSo_308 (by decide) ?_
    refine lv_istore_n (lv' := [(2, .int (1 : Int32)), (0, .ref (a 0)), (1, .int y1), (3, .int y3)]) hx hb dL_areCansSo_312 rfl hl (by decide) rfl (fun ls hl => ?_)
    obtain ⟨x3_76, e77, h⟩ := o_n h
    refine lv_iinc (v := x3_76) (lv' := [(3, .int x3_76), (2, .int (1 : Int32)), (0, .ref (a 0)), (1, .int y1)]) hx hb dL_areCansSo_313 hl (k := 3) rfl (by rw [e77]; rfl) (by decide) rfl (fun ls hl => ?_)
    refine lv_goto (tgt := 6) hx hb dL_areCansSo_316 (by decide) ?_
    exact ih6 _ _ _ h _ (lv_sub hl [2, 3, 1, 0] rfl)
  have L139 : ∀ (k6 : Int32 → Int32 → Int32 → Option (Int32)) (ih6 : ∀ (y1 : Int32) (y2 : Int32) (y3 : Int32), k6 y1 y2 y3 = some u → ∀ (ls : Array Slot), lv_has ls 12 [(0, .ref (a 0)), (1, .int y1), (2, .int y2), (3, .int y3)] → W p l e (headSpec wsL_areCansSo ({ frames := 5, cells := 0, slots := 0, locals := 111 } : Room)).room s m ([.ref (a 0)] : List Value).toArray below meth c s.heap [] 0 0 (MQ below (qRO (some (.int u))) ([.ref (a 0)] : List Value).toArray s 0 0 (fun _ => False)) (F0 m 6 ls [])), ∀ (y1 : Int32) (y2 : Int32) (y3 : Int32) (y4 : Int32) (y5 : Int32) (y6 : Int32) (y7 : Int32) (y8 : Int32), m_L_areCansSo_L139 S k6 y1 y2 y3 y4 y5 y6 y7 y8 = some u → ∀ (ls : Array Slot), lv_has ls 12 [(0, .ref (a 0)), (1, .int y1), (2, .int y2), (3, .int y3), (4, .int y4), (5, .int y5), (6, .int y6), (7, .int y7), (8, .int y8)] → W p l e (headSpec wsL_areCansSo ({ frames := 5, cells := 0, slots := 0, locals := 111 } : Room)).room s m ([.ref (a 0)] : List Value).toArray below meth c s.heap [] 0 0 (MQ below (qRO (some (.int u))) ([.ref (a 0)] : List Value).toArray s 0 0 (fun _ => False)) (F0 m 139 ls []) := by
    intro k6 ih6 y1 y2 y3 y4 y5 y6 y7 y8 h ls hl
    rw [m_L_areCansSo_L139] at h
    refine lv_iload_n hx hb dL_areCansSo_139 rfl (lv_at hl 1 rfl) ?_
    refine lv_iload hx hb dL_areCansSo_140 (lv_at hl 5 rfl) ?_
    refine lv_iadd hx hb dL_areCansSo_142 ?_
    obtain ⟨x1_23, e24, h⟩ := o_n h
    refine lv_nmi e24 ?_
    refine lv_istore_n (lv' := [(1, .int x1_23), (0, .ref (a 0)), (2, .int y2), (3, .int y3), (4, .int y4), (5, .int y5), (6, .int y6), (7, .int y7), (8, .int y8)]) hx hb dL_areCansSo_143 rfl hl (by decide) rfl (fun ls hl => ?_)
    refine lv_iload_n hx hb dL_areCansSo_144 rfl (lv_at hl 2 rfl) ?_
    refine lv_if_eq (tgt := 311) hx hb dL_areCansSo_145 (by decide) (fun c25 => ?_) (fun c25 => ?_)
    · have h := o_t h c25
      refine lv_iconst (v := (0 : Int32)) hx hb dL_areCansSo_311 (by decide) ?_
      refine lv_istore_n (lv' := [(2, .int (0 : Int32)), (1, .int x1_23), (0, .ref (a 0)), (3, .int y3), (4, .int y4), (5, .int y5), (6, .int y6), (7, .int y7), (8, .int y8)]) hx hb dL_areCansSo_312 rfl hl (by decide) rfl (fun ls hl => ?_)
      obtain ⟨x3_26, e27, h⟩ := o_n h
      refine lv_iinc (v := x3_26) (lv' := [(3, .int x3_26), (2, .int (0 : Int32)), (1, .int x1_23), (0, .ref (a 0)), (4, .int y4), (5, .int y5), (6, .int y6), (7, .int y7), (8, .int y8)]) hx hb dL_areCansSo_313 hl (k := 3) rfl (by rw [e27]; rfl) (by decide) rfl (fun ls hl => ?_)
      refine lv_goto (tgt := 6) hx hb dL_areCansSo_316 (by decide) ?_
      exact ih6 _ _ _ h _ (lv_sub hl [3, 2, 1, 0] rfl)
    have h := o_f h c25
    refine lv_iload hx hb dL_areCansSo_148 (lv_at hl 4 rfl) ?_
    refine lv_bipush (v := (40 : Int32)) hx hb dL_areCansSo_150 (by decide) ?_
    refine lv_icmp_gt (tgt := 311) hx hb dL_areCansSo_152 (by decide) (fun c28 => ?_) (fun c28 => ?_)
    · have h := o_t h c28
      refine lv_iconst (v := (0 : Int32)) hx hb dL_areCansSo_311 (by decide) ?_
      refine lv_istore_n (lv' := [(2, .int (0 : Int32)), (1, .int x1_23), (0, .ref (a 0)), (3, .int y3), (4, .int y4), (5, .int y5), (6, .int y6), (7, .int y7), (8, .int y8)]) hx hb dL_areCansSo_312 rfl hl (by decide) rfl (fun ls hl => ?_)
      obtain ⟨x3_29, e30, h⟩ := o_n h
      refine lv_iinc (v := x3_29) (lv' := [(3, .int x3_29), (2, .int (0 : Int32)), (1, .int x1_23), (0, .ref (a 0)), (4, .int y4), (5, .int y5), (6, .int y6), (7, .int y7), (8, .int y8)]) hx hb dL_areCansSo_313 hl (k := 3) rfl (by rw [e30]; rfl) (by decide) rfl (fun ls hl => ?_)
      refine lv_goto (tgt := 6) hx hb dL_areCansSo_316 (by decide) ?_
      exact ih6 _ _ _ h _ (lv_sub hl [3, 2, 1, 0] rfl)
    have h := o_f h c28
    refine lv_aload_n hx hb dL_areCansSo_155 rfl (lv_at hl 1 rfl) ?_
    refine lv_iload_n hx hb dL_areCansSo_156 rfl (lv_at hl 3 rfl) ?_
    refine lv_iload hx hb dL_areCansSo_157 (lv_at hl 4 rfl) ?_
    obtain ⟨v31, g32, h⟩ := o_b h
    have g32 := o_R_ g32
    refine k_ro (va_runV (As := [.int y3, .int y4]) (rest := []) ⟨hx, hb, hml, hown, hts⟩ (c_X5_metre l dC dI cI cF a S y3 y4 v31 g32) (cwV 2 hts gL_areCansSo_X5_metre rfl rfl rfl (by decide +kernel) ⟨Nat.le_of_ble_eq_true rfl, Nat.le_of_ble_eq_true rfl⟩) (k_preL (q0 := 0) (ci := 5) hK hP (LN_id (fX5 a cI cF S S)) rfl rfl rfl) rfl rfl hl.1 rfl (lv_room (Nat.le_of_ble_eq_true rfl)) dL_areCansSo_159 ⟨Nat.zero_le _, Nat.zero_le _⟩) (st1 := [.int v31]) rfl ?_
    refine lv_iconst (v := (-1 : Int32)) hx hb dL_areCansSo_162 (by decide) ?_
    refine lv_icmp_ne (tgt := 311) hx hb dL_areCansSo_163 (by decide) (fun c33 => ?_) (fun c33 => ?_)
    · have h := o_f h c33
      refine lv_iconst (v := (0 : Int32)) hx hb dL_areCansSo_311 (by decide) ?_
      refine lv_istore_n (lv' := [(2, .int (0 : Int32)), (1, .int x1_23), (0, .ref (a 0)), (3, .int y3), (4, .int y4), (5, .int y5), (6, .int y6), (7, .int y7), (8, .int y8)]) hx hb dL_areCansSo_312 rfl hl (by decide) rfl (fun ls hl => ?_)
      obtain ⟨x3_34, e35, h⟩ := o_n h
      refine lv_iinc (v := x3_34) (lv' := [(3, .int x3_34), (2, .int (0 : Int32)), (1, .int x1_23), (0, .ref (a 0)), (4, .int y4), (5, .int y5), (6, .int y6), (7, .int y7), (8, .int y8)]) hx hb dL_areCansSo_313 hl (k := 3) rfl (by rw [e35]; rfl) (by decide) rfl (fun ls hl => ?_)
      refine lv_goto (tgt := 6) hx hb dL_areCansSo_316 (by decide) ?_
      exact ih6 _ _ _ h _ (lv_sub hl [3, 2, 1, 0] rfl)
    have h := o_t h c33
    refine lv_aload_n hx hb dL_areCansSo_166 rfl (lv_at hl 1 rfl) ?_
    refine lv_iload_n hx hb dL_areCansSo_167 rfl (lv_at hl 3 rfl) ?_
    refine lv_iconst (v := (1 : Int32)) hx hb dL_areCansSo_168 (by decide) ?_
    obtain ⟨v36, g37, h⟩ := o_b h
    have g37 := o_R_ g37
    refine k_ro (va_runV (As := [.int y3, .int (1 : Int32)]) (rest := []) ⟨hx, hb, hml, hown, hts⟩ (c_X5_can l dC dI cI cF a S y3 (1 : Int32) v36 g37) (cwV 2 hts gL_areCansSo_X5_can rfl rfl rfl (by decide +kernel) ⟨Nat.le_of_ble_eq_true rfl, Nat.le_of_ble_eq_true rfl⟩) (k_preL (q0 := 0) (ci := 5) hK hP (LN_id (fX5 a cI cF S S)) rfl rfl rfl) rfl rfl hl.1 rfl (lv_room (Nat.le_of_ble_eq_true rfl)) dL_areCansSo_169 ⟨Nat.zero_le _, Nat.zero_le _⟩) (st1 := [.int v36]) rfl ?_
    refine lv_iload hx hb dL_areCansSo_172 (lv_at hl 5 rfl) ?_
    refine lv_icmp_ne (tgt := 311) hx hb dL_areCansSo_174 (by decide) (fun c38 => ?_) (fun c38 => ?_)
    · have h := o_f h c38
      refine lv_iconst (v := (0 : Int32)) hx hb dL_areCansSo_311 (by decide) ?_
      refine lv_istore_n (lv' := [(2, .int (0 : Int32)), (1, .int x1_23), (0, .ref (a 0)), (3, .int y3), (4, .int y4), (5, .int y5), (6, .int y6), (7, .int y7), (8, .int y8)]) hx hb dL_areCansSo_312 rfl hl (by decide) rfl (fun ls hl => ?_)
      obtain ⟨x3_39, e40, h⟩ := o_n h
      refine lv_iinc (v := x3_39) (lv' := [(3, .int x3_39), (2, .int (0 : Int32)), (1, .int x1_23), (0, .ref (a 0)), (4, .int y4), (5, .int y5), (6, .int y6), (7, .int y7), (8, .int y8)]) hx hb dL_areCansSo_313 hl (k := 3) rfl (by rw [e40]; rfl) (by decide) rfl (fun ls hl => ?_)
      refine lv_goto (tgt := 6) hx hb dL_areCansSo_316 (by decide) ?_
      exact ih6 _ _ _ h _ (lv_sub hl [3, 2, 1, 0] rfl)
    have h := o_t h c38
    refine lv_aload_n hx hb dL_areCansSo_177 rfl (lv_at hl 1 rfl) ?_
    refine lv_iload_n hx hb dL_areCansSo_178 rfl (lv_at hl 3 rfl) ?_
    refine lv_iconst (v := (5 : Int32)) hx hb dL_areCansSo_179 (by decide) ?_
    obtain ⟨v41, g42, h⟩ := o_b h
    have g42 := o_R_ g42
    refine k_ro (va_runV (As := [.int y3, .int (5 : Int32)]) (rest := []) ⟨hx, hb, hml, hown, hts⟩ (c_X5_can l dC dI cI cF a S y3 (5 : Int32) v41 g42) (cwV 2 hts gL_areCansSo_X5_can rfl rfl rfl (by decide +kernel) ⟨Nat.le_of_ble_eq_true rfl, Nat.le_of_ble_eq_true rfl⟩) (k_preL (q0 := 0) (ci := 5) hK hP (LN_id (fX5 a cI cF S S)) rfl rfl rfl) rfl rfl hl.1 rfl (lv_room (Nat.le_of_ble_eq_true rfl)) dL_areCansSo_180 ⟨Nat.zero_le _, Nat.zero_le _⟩) (st1 := [.int v41]) rfl ?_
    refine lv_iload hx hb dL_areCansSo_183 (lv_at hl 8 rfl) ?_
    refine lv_icmp_ne (tgt := 311) hx hb dL_areCansSo_185 (by decide) (fun c43 => ?_) (fun c43 => ?_)
    · have h := o_f h c43
      refine lv_iconst (v := (0 : Int32)) hx hb dL_areCansSo_311 (by decide) ?_
      refine lv_istore_n (lv' := [(2, .int (0 : Int32)), (1, .int x1_23), (0, .ref (a 0)), (3, .int y3), (4, .int y4), (5, .int y5), (6, .int y6), (7, .int y7), (8, .int y8)]) hx hb dL_areCansSo_312 rfl hl (by decide) rfl (fun ls hl => ?_)
      obtain ⟨x3_44, e45, h⟩ := o_n h
      refine lv_iinc (v := x3_44) (lv' := [(3, .int x3_44), (2, .int (0 : Int32)), (1, .int x1_23), (0, .ref (a 0)), (4, .int y4), (5, .int y5), (6, .int y6), (7, .int y7), (8, .int y8)]) hx hb dL_areCansSo_313 hl (k := 3) rfl (by rw [e45]; rfl) (by decide) rfl (fun ls hl => ?_)
      refine lv_goto (tgt := 6) hx hb dL_areCansSo_316 (by decide) ?_
      exact ih6 _ _ _ h _ (lv_sub hl [3, 2, 1, 0] rfl)
    have h := o_t h c43
    refine lv_iload hx hb dL_areCansSo_188 (lv_at hl 4 rfl) ?_
    refine lv_if_ne (tgt := 236) hx hb dL_areCansSo_190 (by decide) (fun c46 => ?_) (fun c46 => ?_)
    rotate_left
    · have h := o_t h c46
      refine lv_aload_n hx hb dL_areCansSo_193 rfl (lv_at hl 1 rfl) ?_
      refine lv_iload_n hx hb dL_areCansSo_194 rfl (lv_at hl 3 rfl) ?_
      refine lv_iconst (v := (2 : Int32)) hx hb dL_areCansSo_195 (by decide) ?_
      obtain ⟨v78, g79, h⟩ := o_b h
      have g79 := o_R_ g79
      refine k_ro (va_runV (As := [.int y3, .int (2 : Int32)]) (rest := []) ⟨hx, hb, hml, hown, hts⟩ (c_X5_can l dC dI cI cF a S y3 (2 : Int32) v78 g79) (cwV 2 hts gL_areCansSo_X5_can rfl rfl rfl (by decide +kernel) ⟨Nat.le_of_ble_eq_true rfl, Nat.le_of_ble_eq_true rfl⟩) (k_preL (q0 := 0) (ci := 5) hK hP (LN_id (fX5 a cI cF S S)) rfl rfl rfl) rfl rfl hl.1 rfl (lv_room (Nat.le_of_ble_eq_true rfl)) dL_areCansSo_196 ⟨Nat.zero_le _, Nat.zero_le _⟩) (st1 := [.int v78]) rfl ?_
      refine lv_iconst (v := (-1 : Int32)) hx hb dL_areCansSo_199 (by decide) ?_
      refine lv_icmp_ne (tgt := 311) hx hb dL_areCansSo_200 (by decide) (fun c80 => ?_) (fun c80 => ?_)
      · have h := o_f h c80
        refine lv_iconst (v := (0 : Int32)) hx hb dL_areCansSo_311 (by decide) ?_
        refine lv_istore_n (lv' := [(2, .int (0 : Int32)), (1, .int x1_23), (0, .ref (a 0)), (3, .int y3), (4, .int y4), (5, .int y5), (6, .int y6), (7, .int y7), (8, .int y8)]) hx hb dL_areCansSo_312 rfl hl (by decide) rfl (fun ls hl => ?_)
        obtain ⟨x3_81, e82, h⟩ := o_n h
        refine lv_iinc (v := x3_81) (lv' := [(3, .int x3_81), (2, .int (0 : Int32)), (1, .int x1_23), (0, .ref (a 0)), (4, .int y4), (5, .int y5), (6, .int y6), (7, .int y7), (8, .int y8)]) hx hb dL_areCansSo_313 hl (k := 3) rfl (by rw [e82]; rfl) (by decide) rfl (fun ls hl => ?_)
        refine lv_goto (tgt := 6) hx hb dL_areCansSo_316 (by decide) ?_
        exact ih6 _ _ _ h _ (lv_sub hl [3, 2, 1, 0] rfl)
      have h := o_t h c80
      refine lv_aload_n hx hb dL_areCansSo_203 rfl (lv_at hl 1 rfl) ?_
      refine lv_iload_n hx hb dL_areCansSo_204 rfl (lv_at hl 3 rfl) ?_
      refine lv_iconst (v := (3 : Int32)) hx hb dL_areCansSo_205 (by decide) ?_
      obtain ⟨v83, g84, h⟩ := o_b h
      have g84 := o_R_ g84
      refine k_ro (va_runV (As := [.int y3, .int (3 : Int32)]) (rest := []) ⟨hx, hb, hml, hown, hts⟩ (c_X5_can l dC dI cI cF a S y3 (3 : Int32) v83 g84) (cwV 2 hts gL_areCansSo_X5_can rfl rfl rfl (by decide +kernel) ⟨Nat.le_of_ble_eq_true rfl, Nat.le_of_ble_eq_true rfl⟩) (k_preL (q0 := 0) (ci := 5) hK hP (LN_id (fX5 a cI cF S S)) rfl rfl rfl) rfl rfl hl.1 rfl (lv_room (Nat.le_of_ble_eq_true rfl)) dL_areCansSo_206 ⟨Nat.zero_le _, Nat.zero_le _⟩) (st1 := [.int v83]) rfl ?_
      refine lv_iconst (v := (-1 : Int32)) hx hb dL_areCansSo_209 (by decide) ?_
      refine lv_icmp_ne (tgt := 311) hx hb dL_areCansSo_210 (by decide) (fun c85 => ?_) (fun c85 => ?_)
      · have h := o_f h c85
        refine lv_iconst (v := (0 : Int32)) hx hb dL_areCansSo_311 (by decide) ?_
        refine lv_istore_n (lv' := [(2, .int (0 : Int32)), (1, .int x1_23), (0, .ref (a 0)), (3, .int y3), (4, .int y4), (5, .int y5), (6, .int y6), (7, .int y7), (8, .int y8)]) hx hb dL_areCansSo_312 rfl hl (by decide) rfl (fun ls hl => ?_)
        obtain ⟨x3_86, e87, h⟩ := o_n h
        refine lv_iinc (v := x3_86) (lv' := [(3, .int x3_86), (2, .int (0 : Int32)), (1, .int x1_23), (0, .ref (a 0)), (4, .int y4), (5, .int y5), (6, .int y6), (7, .int y7), (8, .int y8)]) hx hb dL_areCansSo_313 hl (k := 3) rfl (by rw [e87]; rfl) (by decide) rfl (fun ls hl => ?_)
        refine lv_goto (tgt := 6) hx hb dL_areCansSo_316 (by decide) ?_
        exact ih6 _ _ _ h _ (lv_sub hl [3, 2, 1, 0] rfl)
      have h := o_t h c85
      refine lv_aload_n hx hb dL_areCansSo_213 rfl (lv_at hl 1 rfl) ?_
      refine lv_iload_n hx hb dL_areCansSo_214 rfl (lv_at hl 3 rfl) ?_
      refine lv_iconst (v := (4 : Int32)) hx hb dL_areCansSo_215 (by decide) ?_
      obtain ⟨v88, g89, h⟩ := o_b h
      have g89 := o_R_ g89
      refine k_ro (va_runV (As := [.int y3, .int (4 : Int32)]) (rest := []) ⟨hx, hb, hml, hown, hts⟩ (c_X5_can l dC dI cI cF a S y3 (4 : Int32) v88 g89) (cwV 2 hts gL_areCansSo_X5_can rfl rfl rfl (by decide +kernel) ⟨Nat.le_of_ble_eq_true rfl, Nat.le_of_ble_eq_true rfl⟩) (k_preL (q0 := 0) (ci := 5) hK hP (LN_id (fX5 a cI cF S S)) rfl rfl rfl) rfl rfl hl.1 rfl (lv_room (Nat.le_of_ble_eq_true rfl)) dL_areCansSo_216 ⟨Nat.zero_le _, Nat.zero_le _⟩) (st1 := [.int v88]) rfl ?_
      refine lv_if_ne (tgt := 311) hx hb dL_areCansSo_219 (by decide) (fun c90 => ?_) (fun c90 => ?_)
      · have h := o_f h c90
        refine lv_iconst (v := (0 : Int32)) hx hb dL_areCansSo_311 (by decide) ?_
        refine lv_istore_n (lv' := [(2, .int (0 : Int32)), (1, .int x1_23), (0, .ref (a 0)), (3, .int y3), (4, .int y4), (5, .int y5), (6, .int y6), (7, .int y7), (8, .int y8)]) hx hb dL_areCansSo_312 rfl hl (by decide) rfl (fun ls hl => ?_)
        obtain ⟨x3_91, e92, h⟩ := o_n h
        refine lv_iinc (v := x3_91) (lv' := [(3, .int x3_91), (2, .int (0 : Int32)), (1, .int x1_23), (0, .ref (a 0)), (4, .int y4), (5, .int y5), (6, .int y6), (7, .int y7), (8, .int y8)]) hx hb dL_areCansSo_313 hl (k := 3) rfl (by rw [e92]; rfl) (by decide) rfl (fun ls hl => ?_)
        refine lv_goto (tgt := 6) hx hb dL_areCansSo_316 (by decide) ?_
        exact ih6 _ _ _ h _ (lv_sub hl [3, 2, 1, 0] rfl)
      have h := o_t h c90
      refine lv_aload_n hx hb dL_areCansSo_222 rfl (lv_at hl 1 rfl) ?_
      refine lv_iload_n hx hb dL_areCansSo_223 rfl (lv_at hl 3 rfl) ?_
      refine lv_bipush (v := (7 : Int32)) hx hb dL_areCansSo_224 (by decide) ?_
      obtain ⟨v93, g94, h⟩ := o_b h
      have g94 := o_R_ g94
      refine k_ro (va_runV (As := [.int y3, .int (7 : Int32)]) (rest := []) ⟨hx, hb, hml, hown, hts⟩ (c_X5_can l dC dI cI cF a S y3 (7 : Int32) v93 g94) (cwV 2 hts gL_areCansSo_X5_can rfl rfl rfl (by decide +kernel) ⟨Nat.le_of_ble_eq_true rfl, Nat.le_of_ble_eq_true rfl⟩) (k_preL (q0 := 0) (ci := 5) hK hP (LN_id (fX5 a cI cF S S)) rfl rfl rfl) rfl rfl hl.1 rfl (lv_room (Nat.le_of_ble_eq_true rfl)) dL_areCansSo_226 ⟨Nat.zero_le _, Nat.zero_le _⟩) (st1 := [.int v93]) rfl ?_
      refine lv_iconst (v := (-1 : Int32)) hx hb dL_areCansSo_229 (by decide) ?_
      refine lv_icmp_ne (tgt := 311) hx hb dL_areCansSo_230 (by decide) (fun c95 => ?_) (fun c95 => ?_)
      rotate_left
      · have h := o_t h c95
        refine lv_goto (tgt := 288) hx hb dL_areCansSo_233 (by decide) ?_
        exact L288 _ ih6 _ _ h _ (lv_sub hl [1, 0, 3] rfl)
      have h := o_f h c95
      refine lv_iconst (v := (0 : Int32)) hx hb dL_areCansSo_311 (by decide) ?_
      refine lv_istore_n (lv' := [(2, .int (0 : Int32)), (1, .int x1_23), (0, .ref (a 0)), (3, .int y3), (4, .int y4), (5, .int y5), (6, .int y6), (7, .int y7), (8, .int y8)]) hx hb dL_areCansSo_312 rfl hl (by decide) rfl (fun ls hl => ?_)
      obtain ⟨x3_96, e97, h⟩ := o_n h
      refine lv_iinc (v := x3_96) (lv' := [(3, .int x3_96), (2, .int (0 : Int32)), (1, .int x1_23), (0, .ref (a 0)), (4, .int y4), (5, .int y5), (6, .int y6), (7, .int y7), (8, .int y8)]) hx hb dL_areCansSo_313 hl (k := 3) rfl (by rw [e97]; rfl) (by decide) rfl (fun ls hl => ?_)
      refine lv_goto (tgt := 6) hx hb dL_areCansSo_316 (by decide) ?_
      exact ih6 _ _ _ h _ (lv_sub hl [3, 2, 1, 0] rfl)
    have h := o_f h c46
    refine lv_aload_n hx hb dL_areCansSo_236 rfl (lv_at hl 1 rfl) ?_
    refine lv_iload_n hx hb dL_areCansSo_237 rfl (lv_at hl 3 rfl) ?_
    refine lv_iconst (v := (2 : Int32)) hx hb dL_areCansSo_238 (by decide) ?_
    obtain ⟨v47, g48, h⟩ := o_b h
    have g48 := o_R_ g48
    refine k_ro (va_runV (As := [.int y3, .int (2 : Int32)]) (rest := []) ⟨hx, hb, hml, hown, hts⟩ (c_X5_can l dC dI cI cF a S y3 (2 : Int32) v47 g48) (cwV 2 hts gL_areCansSo_X5_can rfl rfl rfl (by decide +kernel) ⟨Nat.le_of_ble_eq_true rfl, Nat.le_of_ble_eq_true rfl⟩) (k_preL (q0 := 0) (ci := 5) hK hP (LN_id (fX5 a cI cF S S)) rfl rfl rfl) rfl rfl hl.1 rfl (lv_room (Nat.le_of_ble_eq_true rfl)) dL_areCansSo_239 ⟨Nat.zero_le _, Nat.zero_le _⟩) (st1 := [.int v47]) rfl ?_
    refine lv_iload hx hb dL_areCansSo_242 (lv_at hl 6 rfl) ?_
    refine lv_icmp_ne (tgt := 311) hx hb dL_areCansSo_244 (by decide) (fun c49 => ?_) (fun c49 => ?_)
    · have h := o_f h c49
      refine lv_iconst (v := (0 : Int32)) hx hb dL_areCansSo_311 (by decide) ?_
      refine lv_istore_n (lv' := [(2, .int (0 : Int32)), (1, .int x1_23), (0, .ref (a 0)), (3, .int y3), (4, .int y4), (5, .int y5), (6, .int y6), (7, .int y7), (8, .int y8)]) hx hb dL_areCansSo_312 rfl hl (by decide) rfl (fun ls hl => ?_)
      obtain ⟨x3_50, e51, h⟩ := o_n h
      refine lv_iinc (v := x3_50) (lv' := [(3, .int x3_50), (2, .int (0 : Int32)), (1, .int x1_23), (0, .ref (a 0)), (4, .int y4), (5, .int y5), (6, .int y6), (7, .int y7), (8, .int y8)]) hx hb dL_areCansSo_313 hl (k := 3) rfl (by rw [e51]; rfl) (by decide) rfl (fun ls hl => ?_)
      refine lv_goto (tgt := 6) hx hb dL_areCansSo_316 (by decide) ?_
      exact ih6 _ _ _ h _ (lv_sub hl [3, 2, 1, 0] rfl)
    have h := o_t h c49
    refine lv_aload_n hx hb dL_areCansSo_247 rfl (lv_at hl 1 rfl) ?_
    refine lv_iload_n hx hb dL_areCansSo_248 rfl (lv_at hl 3 rfl) ?_
    refine lv_iconst (v := (3 : Int32)) hx hb dL_areCansSo_249 (by decide) ?_
    obtain ⟨v52, g53, h⟩ := o_b h
    have g53 := o_R_ g53
    refine k_ro (va_runV (As := [.int y3, .int (3 : Int32)]) (rest := []) ⟨hx, hb, hml, hown, hts⟩ (c_X5_can l dC dI cI cF a S y3 (3 : Int32) v52 g53) (cwV 2 hts gL_areCansSo_X5_can rfl rfl rfl (by decide +kernel) ⟨Nat.le_of_ble_eq_true rfl, Nat.le_of_ble_eq_true rfl⟩) (k_preL (q0 := 0) (ci := 5) hK hP (LN_id (fX5 a cI cF S S)) rfl rfl rfl) rfl rfl hl.1 rfl (lv_room (Nat.le_of_ble_eq_true rfl)) dL_areCansSo_250 ⟨Nat.zero_le _, Nat.zero_le _⟩) (st1 := [.int v52]) rfl ?_
    refine lv_iload hx hb dL_areCansSo_253 (lv_at hl 7 rfl) ?_
    refine lv_icmp_ne (tgt := 311) hx hb dL_areCansSo_255 (by decide) (fun c54 => ?_) (fun c54 => ?_)
    · have h := o_f h c54
      refine lv_iconst (v := (0 : Int32)) hx hb dL_areCansSo_311 (by decide) ?_
      refine lv_istore_n (lv' := [(2, .int (0 : Int32)), (1, .int x1_23), (0, .ref (a 0)), (3, .int y3), (4, .int y4), (5, .int y5), (6, .int y6), (7, .int y7), (8, .int y8)]) hx hb dL_areCansSo_312 rfl hl (by decide) rfl (fun ls hl => ?_)
      obtain ⟨x3_55, e56, h⟩ := o_n h
      refine lv_iinc (v := x3_55) (lv' := [(3, .int x3_55), (2, .int (0 : Int32)), (1, .int x1_23), (0, .ref (a 0)), (4, .int y4), (5, .int y5), (6, .int y6), (7, .int y7), (8, .int y8)]) hx hb dL_areCansSo_313 hl (k := 3) rfl (by rw [e56]; rfl) (by decide) rfl (fun ls hl => ?_)
      refine lv_goto (tgt := 6) hx hb dL_areCansSo_316 (by decide) ?_
      exact ih6 _ _ _ h _ (lv_sub hl [3, 2, 1, 0] rfl)
    have h := o_t h c54
    refine lv_aload_n hx hb dL_areCansSo_258 rfl (lv_at hl 1 rfl) ?_
    refine lv_iload_n hx hb dL_areCansSo_259 rfl (lv_at hl 3 rfl) ?_
    refine lv_iconst (v := (4 : Int32)) hx hb dL_areCansSo_260 (by decide) ?_
    obtain ⟨v57, g58, h⟩ := o_b h
    have g58 := o_R_ g58
    refine k_ro (va_runV (As := [.int y3, .int (4 : Int32)]) (rest := []) ⟨hx, hb, hml, hown, hts⟩ (c_X5_can l dC dI cI cF a S y3 (4 : Int32) v57 g58) (cwV 2 hts gL_areCansSo_X5_can rfl rfl rfl (by decide +kernel) ⟨Nat.le_of_ble_eq_true rfl, Nat.le_of_ble_eq_true rfl⟩) (k_preL (q0 := 0) (ci := 5) hK hP (LN_id (fX5 a cI cF S S)) rfl rfl rfl) rfl rfl hl.1 rfl (lv_room (Nat.le_of_ble_eq_true rfl)) dL_areCansSo_261 ⟨Nat.zero_le _, Nat.zero_le _⟩) (st1 := [.int v57]) rfl ?_
    refine lv_iload hx hb dL_areCansSo_264 (lv_at hl 7 rfl) ?_
    refine lv_iload hx hb dL_areCansSo_266 (lv_at hl 6 rfl) ?_
    refine lv_isub hx hb dL_areCansSo_268 ?_
    refine lv_icmp_ne (tgt := 311) hx hb dL_areCansSo_269 (by decide) (fun c59 => ?_) (fun c59 => ?_)
    · have h := o_f h c59
      refine lv_iconst (v := (0 : Int32)) hx hb dL_areCansSo_311 (by decide) ?_
      refine lv_istore_n (lv' := [(2, .int (0 : Int32)), (1, .int x1_23), (0, .ref (a 0)), (3, .int y3), (4, .int y4), (5, .int y5), (6, .int y6), (7, .int y7), (8, .int y8)]) hx hb dL_areCansSo_312 rfl hl (by decide) rfl (fun ls hl => ?_)
      obtain ⟨x3_60, e61, h⟩ := o_n h
      refine lv_iinc (v := x3_60) (lv' := [(3, .int x3_60), (2, .int (0 : Int32)), (1, .int x1_23), (0, .ref (a 0)), (4, .int y4), (5, .int y5), (6, .int y6), (7, .int y7), (8, .int y8)]) hx hb dL_areCansSo_313 hl (k := 3) rfl (by rw [e61]; rfl) (by decide) rfl (fun ls hl => ?_)
      refine lv_goto (tgt := 6) hx hb dL_areCansSo_316 (by decide) ?_
      exact ih6 _ _ _ h _ (lv_sub hl [3, 2, 1, 0] rfl)
    have h := o_t h c59
    refine lv_aload_n hx hb dL_areCansSo_272 rfl (lv_at hl 1 rfl) ?_
    refine lv_iload_n hx hb dL_areCansSo_273 rfl (lv_at hl 3 rfl) ?_
    refine lv_bipush (v := (7 : Int32)) hx hb dL_areCansSo_274 (by decide) ?_
    obtain ⟨v62, g63, h⟩ := o_b h
    have g63 := o_R_ g63
    refine k_ro (va_runV (As := [.int y3, .int (7 : Int32)]) (rest := []) ⟨hx, hb, hml, hown, hts⟩ (c_X5_can l dC dI cI cF a S y3 (7 : Int32) v62 g63) (cwV 2 hts gL_areCansSo_X5_can rfl rfl rfl (by decide +kernel) ⟨Nat.le_of_ble_eq_true rfl, Nat.le_of_ble_eq_true rfl⟩) (k_preL (q0 := 0) (ci := 5) hK hP (LN_id (fX5 a cI cF S S)) rfl rfl rfl) rfl rfl hl.1 rfl (lv_room (Nat.le_of_ble_eq_true rfl)) dL_areCansSo_276 ⟨Nat.zero_le _, Nat.zero_le _⟩) (st1 := [.int v62]) rfl ?_
    refine lv_aload_n hx hb dL_areCansSo_279 rfl (lv_at hl 1 rfl) ?_
    refine lv_iload_n hx hb dL_areCansSo_280 rfl (lv_at hl 3 rfl) ?_
    refine lv_iconst (v := (0 : Int32)) hx hb dL_areCansSo_281 (by decide) ?_
    obtain ⟨v64, g65, h⟩ := o_b h
    have g65 := o_R_ g65
    refine k_ro (va_runV (As := [.int y3, .int (0 : Int32)]) (rest := [.int v62]) ⟨hx, hb, hml, hown, hts⟩ (c_X5_metre l dC dI cI cF a S y3 (0 : Int32) v64 g65) (cwV 2 hts gL_areCansSo_X5_metre rfl rfl rfl (by decide +kernel) ⟨Nat.le_of_ble_eq_true rfl, Nat.le_of_ble_eq_true rfl⟩) (k_preL (q0 := 0) (ci := 5) hK hP (LN_id (fX5 a cI cF S S)) rfl rfl rfl) rfl rfl hl.1 rfl (lv_room (Nat.le_of_ble_eq_true rfl)) dL_areCansSo_282 ⟨Nat.zero_le _, Nat.zero_le _⟩) (st1 := [.int v64, .int v62]) rfl ?_
    refine lv_icmp_ne (tgt := 311) hx hb dL_areCansSo_285 (by decide) (fun c66 => ?_) (fun c66 => ?_)
    rotate_left
    · have h := o_t h c66
      exact L288 _ ih6 _ _ h _ (lv_sub hl [1, 0, 3] rfl)
    have h := o_f h c66
    refine lv_iconst (v := (0 : Int32)) hx hb dL_areCansSo_311 (by decide) ?_
    refine lv_istore_n (lv' := [(2, .int (0 : Int32)), (1, .int x1_23), (0, .ref (a 0)), (3, .int y3), (4, .int y4), (5, .int y5), (6, .int y6), (7, .int y7), (8, .int y8)]) hx hb dL_areCansSo_312 rfl hl (by decide) rfl (fun ls hl => ?_)
    obtain ⟨x3_67, e68, h⟩ := o_n h
    refine lv_iinc (v := x3_67) (lv' := [(3, .int x3_67), (2, .int (0 : Int32)), (1, .int x1_23), (0, .ref (a 0)), (4, .int y4), (5, .int y5), (6, .int y6), (7, .int y7), (8, .int y8)]) hx hb dL_areCansSo_313 hl (k := 3) rfl (by rw [e68]; rfl) (by decide) rfl (fun ls hl => ?_)
    refine lv_goto (tgt := 6) hx hb dL_areCansSo_316 (by decide) ?_
    exact ih6 _ _ _ h _ (lv_sub hl [3, 2, 1, 0] rfl)
  have L115 : ∀ (k6 : Int32 → Int32 → Int32 → Option (Int32)) (ih6 : ∀ (y1 : Int32) (y2 : Int32) (y3 : Int32), k6 y1 y2 y3 = some u → ∀ (ls : Array Slot), lv_has ls 12 [(0, .ref (a 0)), (1, .int y1), (2, .int y2), (3, .int y3)] → W p l e (headSpec wsL_areCansSo ({ frames := 5, cells := 0, slots := 0, locals := 111 } : Room)).room s m ([.ref (a 0)] : List Value).toArray below meth c s.heap [] 0 0 (MQ below (qRO (some (.int u))) ([.ref (a 0)] : List Value).toArray s 0 0 (fun _ => False)) (F0 m 6 ls [])) (k37 : Int32 → Int32 → Int32 → Int32 → Int32 → Int32 → Int32 → Int32 → Int32 → Option (Int32)) (ih37 : ∀ (y1 : Int32) (y2 : Int32) (y3 : Int32) (y4 : Int32) (y5 : Int32) (y6 : Int32) (y7 : Int32) (y8 : Int32) (y9 : Int32), k37 y1 y2 y3 y4 y5 y6 y7 y8 y9 = some u → ∀ (ls : Array Slot), lv_has ls 12 [(0, .ref (a 0)), (1, .int y1), (2, .int y2), (3, .int y3), (4, .int y4), (5, .int y5), (6, .int y6), (7, .int y7), (8, .int y8), (9, .int y9)] → W p l e (headSpec wsL_areCansSo ({ frames := 5, cells := 0, slots := 0, locals := 111 } : Room)).room s m ([.ref (a 0)] : List Value).toArray below meth c s.heap [] 0 0 (MQ below (qRO (some (.int u))) ([.ref (a 0)] : List Value).toArray s 0 0 (fun _ => False)) (F0 m 37 ls [])), ∀ (y1 : Int32) (y2 : Int32) (y3 : Int32) (y4 : Int32) (y5 : Int32) (y7 : Int32) (y8 : Int32) (y9 : Int32) (y10 : Int32) (t0 : Int32), m_L_areCansSo_L115 S k6 k37 y1 y2 y3 y4 y5 y7 y8 y9 y10 t0 = some u → ∀ (ls : Array Slot), lv_has ls 12 [(0, .ref (a 0)), (1, .int y1), (2, .int y2), (3, .int y3), (4, .int y4), (5, .int y5), (7, .int y7), (8, .int y8), (9, .int y9), (10, .int y10)] → W p l e (headSpec wsL_areCansSo ({ frames := 5, cells := 0, slots := 0, locals := 111 } : Room)).room s m ([.ref (a 0)] : List Value).toArray below meth c s.heap [] 0 0 (MQ below (qRO (some (.int u))) ([.ref (a 0)] : List Value).toArray s 0 0 (fun _ => False)) (F0 m 115 ls [.int t0]) := by
    intro k6 ih6 k37 ih37 y1 y2 y3 y4 y5 y7 y8 y9 y10 t0 h ls hl
    rw [m_L_areCansSo_L115] at h
    refine lv_istore (lv' := [(6, .int t0), (0, .ref (a 0)), (1, .int y1), (2, .int y2), (3, .int y3), (4, .int y4), (5, .int y5), (7, .int y7), (8, .int y8), (9, .int y9), (10, .int y10)]) hx hb dL_areCansSo_115 hl (by decide) rfl (fun ls hl => ?_)
    refine lv_iload hx hb dL_areCansSo_117 (lv_at hl 10 rfl) ?_
    refine lv_iload hx hb dL_areCansSo_119 (lv_at hl 7 rfl) ?_
    refine lv_icmp_le (tgt := 129) hx hb dL_areCansSo_121 (by decide) (fun c111 => ?_) (fun c111 => ?_)
    · have h := o_t h c111
      refine lv_iload hx hb dL_areCansSo_129 (lv_at hl 7 rfl) ?_
      refine lv_istore (lv' := [(7, .int y7), (6, .int t0), (0, .ref (a 0)), (1, .int y1), (2, .int y2), (3, .int y3), (4, .int y4), (5, .int y5), (8, .int y8), (9, .int y9), (10, .int y10)]) hx hb dL_areCansSo_131 hl (by decide) rfl (fun ls hl => ?_)
      obtain ⟨x9_112, e113, h⟩ := o_n h
      refine lv_iinc (v := x9_112) (lv' := [(9, .int x9_112), (7, .int y7), (6, .int t0), (0, .ref (a 0)), (1, .int y1), (2, .int y2), (3, .int y3), (4, .int y4), (5, .int y5), (8, .int y8), (10, .int y10)]) hx hb dL_areCansSo_133 hl (k := 9) rfl (by rw [e113]; rfl) (by decide) rfl (fun ls hl => ?_)
      refine lv_goto (tgt := 37) hx hb dL_areCansSo_136 (by decide) ?_
      exact ih37 _ _ _ _ _ _ _ _ _ h _ (lv_sub hl [3, 4, 5, 6, 7, 8, 2, 1, 9, 0] rfl)
    have h := o_f h c111
    refine lv_iload hx hb dL_areCansSo_124 (lv_at hl 10 rfl) ?_
    refine lv_goto (tgt := 131) hx hb dL_areCansSo_126 (by decide) ?_
    refine lv_istore (lv' := [(7, .int y10), (6, .int t0), (0, .ref (a 0)), (1, .int y1), (2, .int y2), (3, .int y3), (4, .int y4), (5, .int y5), (8, .int y8), (9, .int y9), (10, .int y10)]) hx hb dL_areCansSo_131 hl (by decide) rfl (fun ls hl => ?_)
    obtain ⟨x9_114, e115, h⟩ := o_n h
    refine lv_iinc (v := x9_114) (lv' := [(9, .int x9_114), (7, .int y10), (6, .int t0), (0, .ref (a 0)), (1, .int y1), (2, .int y2), (3, .int y3), (4, .int y4), (5, .int y5), (8, .int y8), (10, .int y10)]) hx hb dL_areCansSo_133 hl (k := 9) rfl (by rw [e115]; rfl) (by decide) rfl (fun ls hl => ?_)
    refine lv_goto (tgt := 37) hx hb dL_areCansSo_136 (by decide) ?_
    exact ih37 _ _ _ _ _ _ _ _ _ h _ (lv_sub hl [3, 4, 5, 6, 7, 8, 2, 1, 9, 0] rfl)
  have L91 : ∀ (k6 : Int32 → Int32 → Int32 → Option (Int32)) (ih6 : ∀ (y1 : Int32) (y2 : Int32) (y3 : Int32), k6 y1 y2 y3 = some u → ∀ (ls : Array Slot), lv_has ls 12 [(0, .ref (a 0)), (1, .int y1), (2, .int y2), (3, .int y3)] → W p l e (headSpec wsL_areCansSo ({ frames := 5, cells := 0, slots := 0, locals := 111 } : Room)).room s m ([.ref (a 0)] : List Value).toArray below meth c s.heap [] 0 0 (MQ below (qRO (some (.int u))) ([.ref (a 0)] : List Value).toArray s 0 0 (fun _ => False)) (F0 m 6 ls [])) (k37 : Int32 → Int32 → Int32 → Int32 → Int32 → Int32 → Int32 → Int32 → Int32 → Option (Int32)) (ih37 : ∀ (y1 : Int32) (y2 : Int32) (y3 : Int32) (y4 : Int32) (y5 : Int32) (y6 : Int32) (y7 : Int32) (y8 : Int32) (y9 : Int32), k37 y1 y2 y3 y4 y5 y6 y7 y8 y9 = some u → ∀ (ls : Array Slot), lv_has ls 12 [(0, .ref (a 0)), (1, .int y1), (2, .int y2), (3, .int y3), (4, .int y4), (5, .int y5), (6, .int y6), (7, .int y7), (8, .int y8), (9, .int y9)] → W p l e (headSpec wsL_areCansSo ({ frames := 5, cells := 0, slots := 0, locals := 111 } : Room)).room s m ([.ref (a 0)] : List Value).toArray below meth c s.heap [] 0 0 (MQ below (qRO (some (.int u))) ([.ref (a 0)] : List Value).toArray s 0 0 (fun _ => False)) (F0 m 37 ls [])), ∀ (y1 : Int32) (y2 : Int32) (y3 : Int32) (y4 : Int32) (y5 : Int32) (y6 : Int32) (y7 : Int32) (y9 : Int32) (y10 : Int32) (t0 : Int32) (t1 : Int32), m_L_areCansSo_L91 S k6 k37 y1 y2 y3 y4 y5 y6 y7 y9 y10 t0 t1 = some u → ∀ (ls : Array Slot), lv_has ls 12 [(0, .ref (a 0)), (1, .int y1), (2, .int y2), (3, .int y3), (4, .int y4), (5, .int y5), (6, .int y6), (7, .int y7), (9, .int y9), (10, .int y10)] → W p l e (headSpec wsL_areCansSo ({ frames := 5, cells := 0, slots := 0, locals := 111 } : Room)).room s m ([.ref (a 0)] : List Value).toArray below meth c s.heap [] 0 0 (MQ below (qRO (some (.int u))) ([.ref (a 0)] : List Value).toArray s 0 0 (fun _ => False)) (F0 m 91 ls [.int t1, .int t0]) := by
    intro k6 ih6 k37 ih37 y1 y2 y3 y4 y5 y6 y7 y9 y10 t0 t1 h ls hl
    rw [m_L_areCansSo_L91] at h
    refine lv_iadd hx hb dL_areCansSo_91 ?_
    obtain ⟨x8_106, e107, h⟩ := o_n h
    refine lv_nmi e107 ?_
    refine lv_istore (lv' := [(8, .int x8_106), (0, .ref (a 0)), (1, .int y1), (2, .int y2), (3, .int y3), (4, .int y4), (5, .int y5), (6, .int y6), (7, .int y7), (9, .int y9), (10, .int y10)]) hx hb dL_areCansSo_92 hl (by decide) rfl (fun ls hl => ?_)
    refine lv_iload hx hb dL_areCansSo_94 (lv_at hl 6 rfl) ?_
    refine lv_iload hx hb dL_areCansSo_96 (lv_at hl 10 rfl) ?_
    refine lv_iadd hx hb dL_areCansSo_98 ?_
    obtain ⟨x5_108, e109, h⟩ := o_n h
    refine lv_nmi e109 ?_
    refine lv_istore (lv' := [(5, .int x5_108), (8, .int x8_106), (0, .ref (a 0)), (1, .int y1), (2, .int y2), (3, .int y3), (4, .int y4), (6, .int y6), (7, .int y7), (9, .int y9), (10, .int y10)]) hx hb dL_areCansSo_99 hl (by decide) rfl (fun ls hl => ?_)
    refine lv_iload hx hb dL_areCansSo_101 (lv_at hl 10 rfl) ?_
    refine lv_iload hx hb dL_areCansSo_103 (lv_at hl 7 rfl) ?_
    refine lv_icmp_ge (tgt := 113) hx hb dL_areCansSo_105 (by decide) (fun c110 => ?_) (fun c110 => ?_)
    · have h := o_t h c110
      refine lv_iload hx hb dL_areCansSo_113 (lv_at hl 7 rfl) ?_
      exact L115 _ ih6 _ ih37 _ _ _ _ _ _ _ _ _ _ h _ (lv_sub hl [2, 3, 4, 5, 6, 0, 8, 1, 9, 10] rfl)
    have h := o_f h c110
    refine lv_iload hx hb dL_areCansSo_108 (lv_at hl 10 rfl) ?_
    refine lv_goto (tgt := 115) hx hb dL_areCansSo_110 (by decide) ?_
    exact L115 _ ih6 _ ih37 _ _ _ _ _ _ _ _ _ _ h _ (lv_sub hl [2, 3, 4, 5, 6, 0, 8, 1, 9, 10] rfl)
  have L37 : ∀ (k6 : Int32 → Int32 → Int32 → Option (Int32)) (ih6 : ∀ (y1 : Int32) (y2 : Int32) (y3 : Int32), k6 y1 y2 y3 = some u → ∀ (ls : Array Slot), lv_has ls 12 [(0, .ref (a 0)), (1, .int y1), (2, .int y2), (3, .int y3)] → W p l e (headSpec wsL_areCansSo ({ frames := 5, cells := 0, slots := 0, locals := 111 } : Room)).room s m ([.ref (a 0)] : List Value).toArray below meth c s.heap [] 0 0 (MQ below (qRO (some (.int u))) ([.ref (a 0)] : List Value).toArray s 0 0 (fun _ => False)) (F0 m 6 ls [])) (n : Nat), ∀ (y1 : Int32) (y2 : Int32) (y3 : Int32) (y4 : Int32) (y5 : Int32) (y6 : Int32) (y7 : Int32) (y8 : Int32) (y9 : Int32), m_L_areCansSo_L37 S k6 n y1 y2 y3 y4 y5 y6 y7 y8 y9 = some u → ∀ (ls : Array Slot), lv_has ls 12 [(0, .ref (a 0)), (1, .int y1), (2, .int y2), (3, .int y3), (4, .int y4), (5, .int y5), (6, .int y6), (7, .int y7), (8, .int y8), (9, .int y9)] → W p l e (headSpec wsL_areCansSo ({ frames := 5, cells := 0, slots := 0, locals := 111 } : Room)).room s m ([.ref (a 0)] : List Value).toArray below meth c s.heap [] 0 0 (MQ below (qRO (some (.int u))) ([.ref (a 0)] : List Value).toArray s 0 0 (fun _ => False)) (F0 m 37 ls []) := by
    intro k6 ih6 n
    induction n with
    | zero =>
      intro y1 y2 y3 y4 y5 y6 y7 y8 y9 h
      exact (o_0 h).elim
    | succ n ih37 =>
      intro y1 y2 y3 y4 y5 y6 y7 y8 y9 h ls hl
      rw [m_L_areCansSo_L37] at h
      refine lv_iload hx hb dL_areCansSo_37 (lv_at hl 9 rfl) ?_
      refine lv_iload hx hb dL_areCansSo_39 (lv_at hl 4 rfl) ?_
      refine lv_icmp_ge (tgt := 139) hx hb dL_areCansSo_41 (by decide) (fun c22 => ?_) (fun c22 => ?_)
      · have h := o_t h c22
        exact L139 _ ih6 _ _ _ _ _ _ _ _ h _ (lv_sub hl [0, 1, 2, 3, 4, 5, 6, 7, 8] rfl)
      have h := o_f h c22
      refine lv_aload_n hx hb dL_areCansSo_44 rfl (lv_at hl 0 rfl) ?_
      refine lv_iload_n hx hb dL_areCansSo_45 rfl (lv_at hl 3 rfl) ?_
      refine lv_iload hx hb dL_areCansSo_46 (lv_at hl 9 rfl) ?_
      obtain ⟨v98, g99, h⟩ := o_b h
      have g99 := o_R_ g99
      refine k_ro (va_runV (As := [.int y3, .int y9]) (rest := []) ⟨hx, hb, hml, hown, hts⟩ (c_X5_metre l dC dI cI cF a S y3 y9 v98 g99) (cwV 2 hts gL_areCansSo_X5_metre rfl rfl rfl (by decide +kernel) ⟨Nat.le_of_ble_eq_true rfl, Nat.le_of_ble_eq_true rfl⟩) (k_preL (q0 := 0) (ci := 5) hK hP (LN_id (fX5 a cI cF S S)) rfl rfl rfl) rfl rfl hl.1 rfl (lv_room (Nat.le_of_ble_eq_true rfl)) dL_areCansSo_48 ⟨Nat.zero_le _, Nat.zero_le _⟩) (st1 := [.int v98]) rfl ?_
      refine lv_istore (lv' := [(10, .int v98), (0, .ref (a 0)), (1, .int y1), (2, .int y2), (3, .int y3), (4, .int y4), (5, .int y5), (6, .int y6), (7, .int y7), (8, .int y8), (9, .int y9)]) hx hb dL_areCansSo_51 hl (by decide) rfl (fun ls hl => ?_)
      refine lv_iload hx hb dL_areCansSo_53 (lv_at hl 10 rfl) ?_
      refine lv_if_ne (tgt := 62) hx hb dL_areCansSo_55 (by decide) (fun c100 => ?_) (fun c100 => ?_)
      rotate_left
      · have h := o_t h c100
        refine lv_iconst (v := (0 : Int32)) hx hb dL_areCansSo_58 (by decide) ?_
        refine lv_goto (tgt := 74) hx hb dL_areCansSo_59 (by decide) ?_
        refine lv_istore (lv' := [(11, .int (0 : Int32)), (10, .int v98), (0, .ref (a 0)), (1, .int y1), (2, .int y2), (3, .int y3), (4, .int y4), (5, .int y5), (6, .int y6), (7, .int y7), (8, .int y8), (9, .int y9)]) hx hb dL_areCansSo_74 hl (by decide) rfl (fun ls hl => ?_)
        refine lv_iload hx hb dL_areCansSo_76 (lv_at hl 10 rfl) ?_
        refine lv_iload hx hb dL_areCansSo_78 (lv_at hl 0 rfl) ?_
        refine lv_if_ge (tgt := 89) hx hb dL_areCansSo_80 (by decide) (fun c116 => ?_) (fun c116 => ?_)
        · have h := o_t h c116
          refine lv_iload hx hb dL_areCansSo_89 (lv_at hl 0 rfl) ?_
          exact L91 _ ih6 _ ih37 _ _ _ _ _ _ _ _ _ _ _ h _ (lv_sub hl [2, 3, 4, 5, 6, 7, 8, 9, 11, 1] rfl)
        have h := o_f h c116
        refine lv_iload hx hb dL_areCansSo_83 (lv_at hl 0 rfl) ?_
        refine lv_ineg hx hb dL_areCansSo_85 ?_
        refine lv_goto (tgt := 91) hx hb dL_areCansSo_86 (by decide) ?_
        exact L91 _ ih6 _ ih37 _ _ _ _ _ _ _ _ _ _ _ h _ (lv_sub hl [2, 3, 4, 5, 6, 7, 8, 9, 11, 1] rfl)
      have h := o_f h c100
      refine lv_iload hx hb dL_areCansSo_62 (lv_at hl 0 rfl) ?_
      refine lv_aload_n hx hb dL_areCansSo_64 rfl (lv_at hl 1 rfl) ?_
      refine lv_iload_n hx hb dL_areCansSo_65 rfl (lv_at hl 4 rfl) ?_
      refine lv_iload hx hb dL_areCansSo_66 (lv_at hl 10 rfl) ?_
      refine lv_iconst (v := (1 : Int32)) hx hb dL_areCansSo_68 (by decide) ?_
      refine lv_isub hx hb dL_areCansSo_69 ?_
      obtain ⟨v101, g102, h⟩ := o_b h
      have g102 := o_R_ g102
      refine k_ro (va_runV (As := [.int y3, .int (y9 - (1 : Int32))]) (rest := [.int v98]) ⟨hx, hb, hml, hown, hts⟩ (c_X5_metre l dC dI cI cF a S y3 (y9 - (1 : Int32)) v101 g102) (cwV 2 hts gL_areCansSo_X5_metre rfl rfl rfl (by decide +kernel) ⟨Nat.le_of_ble_eq_true rfl, Nat.le_of_ble_eq_true rfl⟩) (k_preL (q0 := 0) (ci := 5) hK hP (LN_id (fX5 a cI cF S S)) rfl rfl rfl) rfl rfl hl.1 rfl (lv_room (Nat.le_of_ble_eq_true rfl)) dL_areCansSo_70 ⟨Nat.zero_le _, Nat.zero_le _⟩) (st1 := [.int v101, .int v98]) rfl ?_
      refine lv_isub hx hb dL_areCansSo_73 ?_
      obtain ⟨x11_103, e104, h⟩ := o_n h
      refine lv_nmi e104 ?_
      refine lv_istore (lv' := [(11, .int x11_103), (10, .int v98), (0, .ref (a 0)), (1, .int y1), (2, .int y2), (3, .int y3), (4, .int y4), (5, .int y5), (6, .int y6), (7, .int y7), (8, .int y8), (9, .int y9)]) hx hb dL_areCansSo_74 hl (by decide) rfl (fun ls hl => ?_)
      refine lv_iload hx hb dL_areCansSo_76 (lv_at hl 10 rfl) ?_
      refine lv_iload hx hb dL_areCansSo_78 (lv_at hl 0 rfl) ?_
      refine lv_if_ge (tgt := 89) hx hb dL_areCansSo_80 (by decide) (fun c105 => ?_) (fun c105 => ?_)
      · have h := o_t h c105
        refine lv_iload hx hb dL_areCansSo_89 (lv_at hl 0 rfl) ?_
        exact L91 _ ih6 _ ih37 _ _ _ _ _ _ _ _ _ _ _ h _ (lv_sub hl [2, 3, 4, 5, 6, 7, 8, 9, 11, 1] rfl)
      have h := o_f h c105
      refine lv_iload hx hb dL_areCansSo_83 (lv_at hl 0 rfl) ?_
      refine lv_ineg hx hb dL_areCansSo_85 ?_
      refine lv_goto (tgt := 91) hx hb dL_areCansSo_86 (by decide) ?_
      exact L91 _ ih6 _ ih37 _ _ _ _ _ _ _ _ _ _ _ h _ (lv_sub hl [2, 3, 4, 5, 6, 7, 8, 9, 11, 1] rfl)
  have L6 : ∀ (n : Nat), ∀ (y1 : Int32) (y2 : Int32) (y3 : Int32), m_L_areCansSo_L6 S n y1 y2 y3 = some u → ∀ (ls : Array Slot), lv_has ls 12 [(0, .ref (a 0)), (1, .int y1), (2, .int y2), (3, .int y3)] → W p l e (headSpec wsL_areCansSo ({ frames := 5, cells := 0, slots := 0, locals := 111 } : Room)).room s m ([.ref (a 0)] : List Value).toArray below meth c s.heap [] 0 0 (MQ below (qRO (some (.int u))) ([.ref (a 0)] : List Value).toArray s 0 0 (fun _ => False)) (F0 m 6 ls []) := by
    intro  n
    induction n with
    | zero =>
      intro y1 y2 y3 h
      exact (o_0 h).elim
    | succ n ih6 =>
      intro y1 y2 y3 h ls hl
      rw [m_L_areCansSo_L6] at h
      refine lv_iload_n hx hb dL_areCansSo_6 rfl (lv_at hl 3 rfl) ?_
      refine lv_bipush (v := (8 : Int32)) hx hb dL_areCansSo_7 (by decide) ?_
      refine lv_icmp_ge (tgt := 319) hx hb dL_areCansSo_9 (by decide) (fun c1 => ?_) (fun c1 => ?_)
      · have h := o_t h c1
        exact L319 _ _ h _ (lv_sub hl [0, 1, 2] rfl)
      have h := o_f h c1
      refine lv_aload_n hx hb dL_areCansSo_12 rfl (lv_at hl 0 rfl) ?_
      refine lv_iload_n hx hb dL_areCansSo_13 rfl (lv_at hl 3 rfl) ?_
      refine lv_iconst (v := (0 : Int32)) hx hb dL_areCansSo_14 (by decide) ?_
      obtain ⟨v20, g21, h⟩ := o_b h
      have g21 := o_R_ g21
      refine k_ro (va_runV (As := [.int y3, .int (0 : Int32)]) (rest := []) ⟨hx, hb, hml, hown, hts⟩ (c_X5_can l dC dI cI cF a S y3 (0 : Int32) v20 g21) (cwV 2 hts gL_areCansSo_X5_can rfl rfl rfl (by decide +kernel) ⟨Nat.le_of_ble_eq_true rfl, Nat.le_of_ble_eq_true rfl⟩) (k_preL (q0 := 0) (ci := 5) hK hP (LN_id (fX5 a cI cF S S)) rfl rfl rfl) rfl rfl hl.1 rfl (lv_room (Nat.le_of_ble_eq_true rfl)) dL_areCansSo_15 ⟨Nat.zero_le _, Nat.zero_le _⟩) (st1 := [.int v20]) rfl ?_
      refine lv_istore (lv' := [(4, .int v20), (0, .ref (a 0)), (1, .int y1), (2, .int y2), (3, .int y3)]) hx hb dL_areCansSo_18 hl (by decide) rfl (fun ls hl => ?_)
      refine lv_iconst (v := (0 : Int32)) hx hb dL_areCansSo_20 (by decide) ?_
      refine lv_istore (lv' := [(5, .int (0 : Int32)), (4, .int v20), (0, .ref (a 0)), (1, .int y1), (2, .int y2), (3, .int y3)]) hx hb dL_areCansSo_21 hl (by decide) rfl (fun ls hl => ?_)
      refine lv_sipush (v := (1000 : Int32)) hx hb dL_areCansSo_23 (by decide) ?_
      refine lv_istore (lv' := [(6, .int (1000 : Int32)), (5, .int (0 : Int32)), (4, .int v20), (0, .ref (a 0)), (1, .int y1), (2, .int y2), (3, .int y3)]) hx hb dL_areCansSo_26 hl (by decide) rfl (fun ls hl => ?_)
      refine lv_iconst (v := (-1 : Int32)) hx hb dL_areCansSo_28 (by decide) ?_
      refine lv_istore (lv' := [(7, .int (-1 : Int32)), (6, .int (1000 : Int32)), (5, .int (0 : Int32)), (4, .int v20), (0, .ref (a 0)), (1, .int y1), (2, .int y2), (3, .int y3)]) hx hb dL_areCansSo_29 hl (by decide) rfl (fun ls hl => ?_)
      refine lv_iconst (v := (0 : Int32)) hx hb dL_areCansSo_31 (by decide) ?_
      refine lv_istore (lv' := [(8, .int (0 : Int32)), (7, .int (-1 : Int32)), (6, .int (1000 : Int32)), (5, .int (0 : Int32)), (4, .int v20), (0, .ref (a 0)), (1, .int y1), (2, .int y2), (3, .int y3)]) hx hb dL_areCansSo_32 hl (by decide) rfl (fun ls hl => ?_)
      refine lv_iconst (v := (0 : Int32)) hx hb dL_areCansSo_34 (by decide) ?_
      refine lv_istore (lv' := [(9, .int (0 : Int32)), (8, .int (0 : Int32)), (7, .int (-1 : Int32)), (6, .int (1000 : Int32)), (5, .int (0 : Int32)), (4, .int v20), (0, .ref (a 0)), (1, .int y1), (2, .int y2), (3, .int y3)]) hx hb dL_areCansSo_35 hl (by decide) rfl (fun ls hl => ?_)
      exact L37 _ ih6 _ _ _ _ _ _ _ _ _ _ h _ (lv_sub hl [6, 7, 8, 9, 5, 4, 3, 2, 1, 0] rfl)
  have hl := lv_entry ([.ref (a 0)]) (n := 12) (Nat.le_of_ble_eq_true rfl)
  rw [lg_entry_eq]
  generalize (lg_sl ([.ref (a 0)]) ++ List.replicate (12 - (lg_sl ([.ref (a 0)])).length) Slot.unset).toArray = ls at hl ⊢
  have hl : lv_has ls 12 [(0, .ref (a 0))] := hl
  rw [m_L_areCansSo] at h
  refine lv_iconst (v := (0 : Int32)) hx hb dL_areCansSo_0 (by decide) ?_
  refine lv_istore_n (lv' := [(1, .int (0 : Int32)), (0, .ref (a 0))]) hx hb dL_areCansSo_1 rfl hl (by decide) rfl (fun ls hl => ?_)
  refine lv_iconst (v := (1 : Int32)) hx hb dL_areCansSo_2 (by decide) ?_
  refine lv_istore_n (lv' := [(2, .int (1 : Int32)), (1, .int (0 : Int32)), (0, .ref (a 0))]) hx hb dL_areCansSo_3 rfl hl (by decide) rfl (fun ls hl => ?_)
  refine lv_iconst (v := (0 : Int32)) hx hb dL_areCansSo_4 (by decide) ?_
  refine lv_istore_n (lv' := [(3, .int (0 : Int32)), (2, .int (1 : Int32)), (1, .int (0 : Int32)), (0, .ref (a 0))]) hx hb dL_areCansSo_5 rfl hl (by decide) rfl (fun ls hl => ?_)
  exact L6 _ _ _ _ h _ (lv_sub hl [3, 2, 1, 0] rfl)

