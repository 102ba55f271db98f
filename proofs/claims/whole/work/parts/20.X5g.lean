-- X5_digest
def m_X5_digest_L220 : Nat → Int64 → Int32 → Int32 → S_X5 → Option (Int64 × S_X5)
  | 0, _, _, _, _ => none
  | n + 1, y1, y3, y4, S => if y3 ≤ y4 then (some (y1, S)) else ((m_X4_codeAt (g_X5_text S) y4).bind fun v31 => ((m_X5_mix y1 v31.toInt64).bind fun v33 => (nmL (y4 + 1) fun x4_35 => ((m_X5_digest_L220 n) v33 y3 x4_35 S))))
def m_X5_digest_L198 (t0 : Int64) (t1 : Int64) (S : S_X5) : Option (Int64 × S_X5) := (m_X5_mix t0 t1).bind fun v24 => ((m_X4_length (g_X5_text S)).bind fun v26 => ((m_X5_mix v24 v26.toInt64).bind fun v28 => (m_X5_digest_L220 4000 v28 v26 (0 : Int32) S)))
def m_X5_digest_L172 (y1 : Int64) (S : S_X5) : Option (Int64 × S_X5) := (m_X5_wasteShare S).bind fun v17 => ((m_X5_bitsOfFloat v17).bind fun v19 => ((m_X5_mix y1 v19.toInt64).bind fun v21 => (if (g_X5_hasSnapshot S) = 0 then (m_X5_digest_L198 v21 (0 : Int64) S) else (m_X5_digest_L198 v21 (1 : Int64) S))))
def m_X5_digest_L149 : Nat → Int64 → Int32 → S_X5 → Option (Int64 × S_X5)
  | 0, _, _, _ => none
  | n + 1, y1, y3, S => if (6 : Int32) < y3 then (m_X5_digest_L172 y1 S) else ((o_R (m_X5_bestFeed S y3)).bind fun v37 => ((m_X5_mix y1 v37.toInt64).bind fun v39 => (nmL (y3 + 1) fun x3_41 => ((m_X5_digest_L149 n) v39 x3_41 S))))
def m_X5_digest_L135 (y1 : Int64) (S : S_X5) : Option (Int64 × S_X5) := (o_R (m_X5_bestLag S (10 : Int32))).bind fun v12 => ((m_X5_mix y1 v12.1.toInt64).bind fun v14 => (m_X5_digest_L149 4000 v14 (1 : Int32) v12.2))
def m_X5_digest_L111 : Nat → Int64 → Int32 → S_X5 → Option (Int64 × S_X5)
  | 0, _, _, _ => none
  | n + 1, y1, y3, S => if (5 : Int32) ≤ y3 then (m_X5_digest_L135 y1 S) else ((o_R (m_X5_ifRun S (10 : Int32) y3)).bind fun v43 => ((m_X5_mix y1 v43.1.toInt64).bind fun v45 => (nmL (y3 + 1) fun x3_47 => ((m_X5_digest_L111 n) v45 x3_47 v43.2))))
def m_X5_digest_L99 (y1 : Int64) (S : S_X5) : Option (Int64 × S_X5) := (m_X5_why S).bind fun v7 => ((m_X5_mix y1 v7.toInt64).bind fun v9 => (m_X5_digest_L111 4000 v9 (0 : Int32) S))
def m_X5_digest_L76 : Nat → Int64 → Int32 → S_X5 → Option (Int64 × S_X5)
  | 0, _, _, _ => none
  | n + 1, y1, y3, S => if (6 : Int32) < y3 then (m_X5_digest_L99 y1 S) else ((o_R (m_X5_feeler S y3)).bind fun v49 => ((m_X5_mix y1 v49.toInt64).bind fun v51 => (nmL (y3 + 1) fun x3_53 => ((m_X5_digest_L76 n) v51 x3_53 S))))
def m_X5_digest_L55 : Nat → Int64 → Int32 → S_X5 → Option (Int64 × S_X5)
  | 0, _, _, _ => none
  | n + 1, y1, y3, S => if (8 : Int32) ≤ y3 then (m_X5_digest_L76 4000 y1 (0 : Int32) S) else ((m_X5_mixCan S y1 y3).bind fun v55 => (nmL (y3 + 1) fun x3_57 => ((m_X5_digest_L55 n) v55 x3_57 S)))
def m_X5_digest_L31 : Nat → Int64 → Int32 → S_X5 → Option (Int64 × S_X5)
  | 0, _, _, _ => none
  | n + 1, y1, y3, S => if (5 : Int32) ≤ y3 then (m_X5_digest_L55 4000 y1 (0 : Int32) S) else ((o_R (m_X5_setting S y3)).bind fun v59 => ((m_X5_mix y1 v59.toInt64).bind fun v61 => (nmL (y3 + 1) fun x3_63 => ((m_X5_digest_L31 n) v61 x3_63 S))))
def m_X5_digest_L6 : Nat → Int64 → Int32 → S_X5 → Option (Int64 × S_X5)
  | 0, _, _, _ => none
  | n + 1, y1, y3, S => if (12 : Int32) ≤ y3 then (m_X5_digest_L31 4000 y1 (0 : Int32) S) else ((o_R (m_X5_count S y3)).bind fun v65 => ((m_X5_mix y1 v65.toInt64).bind fun v67 => (nmL (y3 + 1) fun x3_69 => ((m_X5_digest_L6 n) v67 x3_69 S))))
def m_X5_digest (S : S_X5) : Option (Int64 × S_X5) := nmL ((3697 : Int64)) fun x1_1 => (m_X5_digest_L6 4000 x1_1 (0 : Int32) S)
set_option maxHeartbeats 4000000 in
set_option maxRecDepth 100000 in
theorem c_X5_digest (l : Launch) (dC : Nat → ClassId) (dI : Nat → Nat → Nat) (cI cF : ClassId) (a : Nat → Nat) (S : S_X5) (u : Int64 × S_X5) (h : m_X5_digest S = some u) : cRW l (dC, dI) cI cF yX5_digest wsX5_digest ({ frames := 6, cells := 0, slots := 0, locals := 177 } : Room) [.ref (a 0)] (wX5 a cI cF S) (wX5 a cI cF u.2) (some (.long u.1)) := by
  intro sz
  refine Met.ofW (cc := cX5_digest) (maxL := 5) (ret := (some .long)) (by decide) rfl ?_
  intro p e s m args below meth c s₁ B hml hv
  obtain ⟨hargs, hsz, hP, hK, hD0⟩ := hv
  subst hargs
  have hx := B.exec
  have hb := B.bytes
  have hr := B.returns
  have hts := atoms_spec (ws := wsX5_digest) B.pre
  have hown : s.vm.findClass RX5 = some m.cls := findClass_of_methodNamed B.named
  have hlocks := B.notSynchronized
  have w166 := hts (.methodLink RX5 166 yX4_length) (List.mem_of_getElem? (i := 258) rfl)
  have w256 := hts (.constantLong RX5 256 (3697)) (List.mem_of_getElem? (i := 1) rfl)
  have w258 := hts (.methodLink RX5 258 yX5_count) (List.mem_of_getElem? (i := 4) rfl)
  have w261 := hts (.methodLink RX5 261 yX5_mix) (List.mem_of_getElem? (i := 48) rfl)
  have w265 := hts (.methodLink RX5 265 yX5_setting) (List.mem_of_getElem? (i := 52) rfl)
  have w268 := hts (.methodLink RX5 268 yX5_mixCan) (List.mem_of_getElem? (i := 67) rfl)
  have w272 := hts (.methodLink RX5 272 yX5_feeler) (List.mem_of_getElem? (i := 124) rfl)
  have w274 := hts (.methodLink RX5 274 yX5_why) (List.mem_of_getElem? (i := 136) rfl)
  have w277 := hts (.methodLink RX5 277 yX5_ifRun) (List.mem_of_getElem? (i := 166) rfl)
  have w280 := hts (.methodLink RX5 280 yX5_bestLag) (List.mem_of_getElem? (i := 228) rfl)
  have w283 := hts (.methodLink RX5 283 yX5_bestFeed) (List.mem_of_getElem? (i := 236) rfl)
  have w286 := hts (.methodLink RX5 286 yX5_wasteShare) (List.mem_of_getElem? (i := 250) rfl)
  have w290 := hts (.methodLink RX5 290 yX5_bitsOfFloat) (List.mem_of_getElem? (i := 254) rfl)
  have w294 := hts (.methodLink RX5 294 yX4_codeAt) (List.mem_of_getElem? (i := 264) rfl)
  have w32 := hts (.fieldLink RX5 32 "DrawnSlivers" "text" "LDrawnSlivers$SliverText;") (List.mem_of_getElem? (i := 3) rfl)
  have w36 := hts (.fieldLink RX5 36 "DrawnSlivers" "hasSnapshot" "Z") (List.mem_of_getElem? (i := 2) rfl)
  have huX5 : ∀ w ∈ u_ws RX5 TX5 6, w.before _ s = true := fun w h => hts w (List.mem_cons_of_mem _ (List.mem_append_left _ (List.mem_append_left _ (List.mem_append_left _ (List.mem_append_left _ (List.mem_append_left _ (List.mem_append_left _ (List.mem_append_left _ (List.mem_append_right _ (h))))))))))
  subst hsz
  have hD := hD0.self (sz := s.heap.size)
  generalize hAe : va_A (wX5 a cI cF S) s.heap.size = A at hD ⊢
  have hA : ∀ q : Nat, s.heap.size ≤ q → A q := fun q h => by rw [← hAe]; exact Or.inr h
  have hS : va_S A s.heap s.heap [] := va_S.rf
  have L220 : ∀ (n : Nat), ∀ (y1 : Int64) (y3 : Int32) (y4 : Int32) (S : S_X5), m_X5_digest_L220 n y1 y3 y4 S = some u → ∀ (H : Heap) (locs : List Loc), va_P (dC, dI) vwCl (wX5 a cI cF S) H → va_D A (wX5 a cI cF S) → va_S A s.heap H locs → ∀ (ls : Array Slot), lv_has ls 5 [(0, .ref (a 0)), (1, .long y1), (3, .int y3), (4, .int y4)] → W p l e (headSpec wsX5_digest ({ frames := 6, cells := 0, slots := 0, locals := 177 } : Room)).room s m ([.ref (a 0)] : List Value).toArray below meth c H locs 0 0 (MQ below (qRW (dC, dI) (wX5 a cI cF u.2) (some (.long u.1)) A) ([.ref (a 0)] : List Value).toArray s 0 0 A) (F0 m 220 ls []) := by
    intro  n
    induction n with
    | zero =>
      intro y1 y3 y4 S h
      exact (o_0 h).elim
    | succ n ih220 =>
      intro y1 y3 y4 S h H locs hP hD hS ls hl
      rw [m_X5_digest_L220] at h
      refine lv_iload hx hb dX5_digest_220 (lv_at hl 3 rfl) ?_
      refine lv_iload_n hx hb dX5_digest_222 rfl (lv_at hl 2 rfl) ?_
      refine lv_icmp_ge (tgt := 247) hx hb dX5_digest_223 (by decide) (fun c30 => ?_) (fun c30 => ?_)
      · have h := o_t h c30
        refine lv_lload_n hx hb dX5_digest_247 rfl (lv_at hl 1 rfl) ?_
        have hu := Option.some.inj h
        exact W.lret (v := y1) hx hb hr (fun t ht hW => ⟨⟨congrArg (fun z => Outcome.returned (some (Value.long z.1))) hu, by rw [ht, ← hu]; exact hP⟩, hS.F ht⟩) hS.2.2 dX5_digest_248
      have h := o_f h c30
      refine lv_lload_n hx hb dX5_digest_226 rfl (lv_at hl 1 rfl) ?_
      refine lv_aload_n hx hb dX5_digest_227 rfl (lv_at hl 0 rfl) ?_
      refine va_get (D := (dC, dI)) (ci := 5) (v := .ref (a 22)) (C := RX5) (T := TX5) (N := 6) hx hb huX5 (fun _ h9 => h9) hown hK hP 0 rfl rfl 4 (by decide) w32 (fun _ h9 => h9) rfl dX5_digest_228 ?_
      refine lv_iload hx hb dX5_digest_231 (lv_at hl 3 rfl) ?_
      obtain ⟨v31, g32, h⟩ := o_b h
      refine k_ro (va_runV (As := [.int y4]) (rest := [.long y1]) ⟨hx, hb, hml, hown, hts⟩ (c_X4_codeAt l dC dI cI cF (fun i => a (i + 22)) (g_X5_text S) y4 v31 g32) (cwV 1 hts gX5_digest_X4_codeAt rfl rfl rfl (by decide +kernel) ⟨Nat.le_of_ble_eq_true rfl, Nat.le_of_ble_eq_true rfl⟩) (k_preL (q0 := 0) (ci := 4) hK hP (LX5_text a cI cF S (g_X5_text S) (LN_id (fX4 (fun i => a (i + 22)) cI cF (g_X5_text S) (g_X5_text S)))) rfl rfl rfl) rfl rfl hl.1 rfl (lv_room (Nat.le_of_ble_eq_true rfl)) dX5_digest_233 ⟨Nat.zero_le _, Nat.zero_le _⟩) (st1 := [.int v31, .long y1]) rfl ?_
      refine lv_i2l hx hb dX5_digest_236 rfl ?_
      obtain ⟨v33, g34, h⟩ := o_b h
      refine k_ro (va_runS (As := [.long y1, .long v31.toInt64]) (rest := []) ⟨hx, hb, hml, hown, hts⟩ (c_X5_mix l dC dI cI cF y1 v31.toInt64 v33 g34) (va_cwS 2 hts gX5_digest_X5_mix rfl rfl rfl (by decide +kernel) ⟨Nat.le_of_ble_eq_true rfl, Nat.le_of_ble_eq_true rfl⟩) (k_prePU) rfl rfl hl.1 rfl (lv_room (Nat.le_of_ble_eq_true rfl)) dX5_digest_237 ⟨Nat.zero_le _, Nat.zero_le _⟩) (st1 := [.long v33]) rfl ?_
      refine lv_lstore_n (lv' := [(1, .long v33), (0, .ref (a 0)), (3, .int y3), (4, .int y4)]) hx hb dX5_digest_240 rfl hl (by decide) rfl (fun ls hl => ?_)
      obtain ⟨x4_35, e36, h⟩ := o_n h
      refine lv_iinc (v := x4_35) (lv' := [(4, .int x4_35), (1, .long v33), (0, .ref (a 0)), (3, .int y3)]) hx hb dX5_digest_241 hl (k := 3) rfl (by rw [e36]; rfl) (by decide) rfl (fun ls hl => ?_)
      refine lv_goto (tgt := 220) hx hb dX5_digest_244 (by decide) ?_
      exact ih220 _ _ _ _ h _ _ hP hD hS _ (lv_sub hl [2, 1, 3, 0] rfl)
  have L198 : ∀ (t0 : Int64) (t1 : Int64) (S : S_X5), m_X5_digest_L198 t0 t1 S = some u → ∀ (H : Heap) (locs : List Loc), va_P (dC, dI) vwCl (wX5 a cI cF S) H → va_D A (wX5 a cI cF S) → va_S A s.heap H locs → ∀ (ls : Array Slot), lv_has ls 5 [(0, .ref (a 0))] → W p l e (headSpec wsX5_digest ({ frames := 6, cells := 0, slots := 0, locals := 177 } : Room)).room s m ([.ref (a 0)] : List Value).toArray below meth c H locs 0 0 (MQ below (qRW (dC, dI) (wX5 a cI cF u.2) (some (.long u.1)) A) ([.ref (a 0)] : List Value).toArray s 0 0 A) (F0 m 198 ls [.long t1, .long t0]) := by
    intro  t0 t1 S h H locs hP hD hS ls hl
    rw [m_X5_digest_L198] at h
    obtain ⟨v24, g25, h⟩ := o_b h
    refine k_ro (va_runS (As := [.long t0, .long t1]) (rest := []) ⟨hx, hb, hml, hown, hts⟩ (c_X5_mix l dC dI cI cF t0 t1 v24 g25) (va_cwS 2 hts gX5_digest_X5_mix rfl rfl rfl (by decide +kernel) ⟨Nat.le_of_ble_eq_true rfl, Nat.le_of_ble_eq_true rfl⟩) (k_prePU) rfl rfl hl.1 rfl (lv_room (Nat.le_of_ble_eq_true rfl)) dX5_digest_198 ⟨Nat.zero_le _, Nat.zero_le _⟩) (st1 := [.long v24]) rfl ?_
    refine lv_lstore_n (lv' := [(1, .long v24), (0, .ref (a 0))]) hx hb dX5_digest_201 rfl hl (by decide) rfl (fun ls hl => ?_)
    refine lv_aload_n hx hb dX5_digest_202 rfl (lv_at hl 1 rfl) ?_
    refine va_get (D := (dC, dI)) (ci := 5) (v := .ref (a 22)) (C := RX5) (T := TX5) (N := 6) hx hb huX5 (fun _ h9 => h9) hown hK hP 0 rfl rfl 4 (by decide) w32 (fun _ h9 => h9) rfl dX5_digest_203 ?_
    obtain ⟨v26, g27, h⟩ := o_b h
    refine k_ro (va_runV (As := []) (rest := []) ⟨hx, hb, hml, hown, hts⟩ (c_X4_length l dC dI cI cF (fun i => a (i + 22)) (g_X5_text S) v26 g27) (cwV 0 hts gX5_digest_X4_length rfl rfl rfl (by decide +kernel) ⟨Nat.le_of_ble_eq_true rfl, Nat.le_of_ble_eq_true rfl⟩) (k_preL (q0 := 0) (ci := 4) hK hP (LX5_text a cI cF S (g_X5_text S) (LN_id (fX4 (fun i => a (i + 22)) cI cF (g_X5_text S) (g_X5_text S)))) rfl rfl rfl) rfl rfl hl.1 rfl (lv_room (Nat.le_of_ble_eq_true rfl)) dX5_digest_206 ⟨Nat.zero_le _, Nat.zero_le _⟩) (st1 := [.int v26]) rfl ?_
    refine lv_istore_n (lv' := [(3, .int v26), (1, .long v24), (0, .ref (a 0))]) hx hb dX5_digest_209 rfl hl (by decide) rfl (fun ls hl => ?_)
    refine lv_lload_n hx hb dX5_digest_210 rfl (lv_at hl 1 rfl) ?_
    refine lv_iload_n hx hb dX5_digest_211 rfl (lv_at hl 0 rfl) ?_
    refine lv_i2l hx hb dX5_digest_212 rfl ?_
    obtain ⟨v28, g29, h⟩ := o_b h
    refine k_ro (va_runS (As := [.long v24, .long v26.toInt64]) (rest := []) ⟨hx, hb, hml, hown, hts⟩ (c_X5_mix l dC dI cI cF v24 v26.toInt64 v28 g29) (va_cwS 2 hts gX5_digest_X5_mix rfl rfl rfl (by decide +kernel) ⟨Nat.le_of_ble_eq_true rfl, Nat.le_of_ble_eq_true rfl⟩) (k_prePU) rfl rfl hl.1 rfl (lv_room (Nat.le_of_ble_eq_true rfl)) dX5_digest_213 ⟨Nat.zero_le _, Nat.zero_le _⟩) (st1 := [.long v28]) rfl ?_
    refine lv_lstore_n (lv' := [(1, .long v28), (3, .int v26), (0, .ref (a 0))]) hx hb dX5_digest_216 rfl hl (by decide) rfl (fun ls hl => ?_)
    refine lv_iconst (v := (0 : Int32)) hx hb dX5_digest_217 (by decide) ?_
    refine lv_istore (lv' := [(4, .int (0 : Int32)), (1, .long v28), (3, .int v26), (0, .ref (a 0))]) hx hb dX5_digest_218 hl (by decide) rfl (fun ls hl => ?_)
    exact L220 _ _ _ _ _ h _ _ hP hD hS _ (lv_sub hl [3, 1, 2, 0] rfl)
  have L172 : ∀ (y1 : Int64) (S : S_X5), m_X5_digest_L172 y1 S = some u → ∀ (H : Heap) (locs : List Loc), va_P (dC, dI) vwCl (wX5 a cI cF S) H → va_D A (wX5 a cI cF S) → va_S A s.heap H locs → ∀ (ls : Array Slot), lv_has ls 5 [(0, .ref (a 0)), (1, .long y1)] → W p l e (headSpec wsX5_digest ({ frames := 6, cells := 0, slots := 0, locals := 177 } : Room)).room s m ([.ref (a 0)] : List Value).toArray below meth c H locs 0 0 (MQ below (qRW (dC, dI) (wX5 a cI cF u.2) (some (.long u.1)) A) ([.ref (a 0)] : List Value).toArray s 0 0 A) (F0 m 172 ls []) := by
    intro  y1 S h H locs hP hD hS ls hl
    rw [m_X5_digest_L172] at h
    refine lv_lload_n hx hb dX5_digest_172 rfl (lv_at hl 1 rfl) ?_
    refine lv_aload_n hx hb dX5_digest_173 rfl (lv_at hl 0 rfl) ?_
    obtain ⟨v17, g18, h⟩ := o_b h
    refine k_ro (va_runV (As := []) (rest := [.long y1]) ⟨hx, hb, hml, hown, hts⟩ (c_X5_wasteShare l dC dI cI cF a S v17 g18) (cwV 0 hts gX5_digest_X5_wasteShare rfl rfl rfl (by decide +kernel) ⟨Nat.le_of_ble_eq_true rfl, Nat.le_of_ble_eq_true rfl⟩) (k_preL (q0 := 0) (ci := 5) hK hP (LN_id (fX5 a cI cF S S)) rfl rfl rfl) rfl rfl hl.1 rfl (lv_room (Nat.le_of_ble_eq_true rfl)) dX5_digest_174 ⟨Nat.zero_le _, Nat.zero_le _⟩) (st1 := [.float v17, .long y1]) rfl ?_
    obtain ⟨v19, g20, h⟩ := o_b h
    refine k_ro (va_runS (As := [.float v17]) (rest := [.long y1]) ⟨hx, hb, hml, hown, hts⟩ (c_X5_bitsOfFloat l dC dI cI cF v17 v19 g20) (va_cwS 1 hts gX5_digest_X5_bitsOfFloat rfl rfl rfl (by decide +kernel) ⟨Nat.le_of_ble_eq_true rfl, Nat.le_of_ble_eq_true rfl⟩) (k_prePU) rfl rfl hl.1 rfl (lv_room (Nat.le_of_ble_eq_true rfl)) dX5_digest_177 ⟨Nat.zero_le _, Nat.zero_le _⟩) (st1 := [.int v19, .long y1]) rfl ?_
    refine lv_i2l hx hb dX5_digest_180 rfl ?_
    obtain ⟨v21, g22, h⟩ := o_b h
    refine k_ro (va_runS (As := [.long y1, .long v19.toInt64]) (rest := []) ⟨hx, hb, hml, hown, hts⟩ (c_X5_mix l dC dI cI cF y1 v19.toInt64 v21 g22) (va_cwS 2 hts gX5_digest_X5_mix rfl rfl rfl (by decide +kernel) ⟨Nat.le_of_ble_eq_true rfl, Nat.le_of_ble_eq_true rfl⟩) (k_prePU) rfl rfl hl.1 rfl (lv_room (Nat.le_of_ble_eq_true rfl)) dX5_digest_181 ⟨Nat.zero_le _, Nat.zero_le _⟩) (st1 := [.long v21]) rfl ?_
    refine lv_lstore_n (lv' := [(1, .long v21), (0, .ref (a 0))]) hx hb dX5_digest_184 rfl hl (by decide) rfl (fun ls hl => ?_)
    refine lv_lload_n hx hb dX5_digest_185 rfl (lv_at hl 0 rfl) ?_
    refine lv_aload_n hx hb dX5_digest_186 rfl (lv_at hl 1 rfl) ?_
    refine va_get (D := (dC, dI)) (ci := 5) (v := .int (g_X5_hasSnapshot S)) (C := RX5) (T := TX5) (N := 6) hx hb huX5 (fun _ h9 => h9) hown hK hP 0 rfl rfl 5 (by decide) w36 (fun _ h9 => h9) rfl dX5_digest_187 ?_
    refine lv_if_eq (tgt := 197) hx hb dX5_digest_190 (by decide) (fun c23 => ?_) (fun c23 => ?_)
    · have h := o_t h c23
      refine lv_lconst (v := 0) hx hb dX5_digest_197 (by decide) ?_
      exact L198 _ _ _ h _ _ hP hD hS _ (lv_sub hl [1] rfl)
    have h := o_f h c23
    refine lv_lconst (v := 1) hx hb dX5_digest_193 (by decide) ?_
    refine lv_goto (tgt := 198) hx hb dX5_digest_194 (by decide) ?_
    exact L198 _ _ _ h _ _ hP hD hS _ (lv_sub hl [1] rfl)
  have L149 : ∀ (n : Nat), ∀ (y1 : Int64) (y3 : Int32) (S : S_X5), m_X5_digest_L149 n y1 y3 S = some u → ∀ (H : Heap) (locs : List Loc), va_P (dC, dI) vwCl (wX5 a cI cF S) H → va_D A (wX5 a cI cF S) → va_S A s.heap H locs → ∀ (ls : Array Slot), lv_has ls 5 [(0, .ref (a 0)), (1, .long y1), (3, .int y3)] → W p l e (headSpec wsX5_digest ({ frames := 6, cells := 0, slots := 0, locals := 177 } : Room)).room s m ([.ref (a 0)] : List Value).toArray below meth c H locs 0 0 (MQ below (qRW (dC, dI) (wX5 a cI cF u.2) (some (.long u.1)) A) ([.ref (a 0)] : List Value).toArray s 0 0 A) (F0 m 149 ls []) := by
    intro  n
    induction n with
    | zero =>
      intro y1 y3 S h
      exact (o_0 h).elim
    | succ n ih149 =>
      intro y1 y3 S h H locs hP hD hS ls hl
      rw [m_X5_digest_L149] at h
      refine lv_iload_n hx hb dX5_digest_149 rfl (lv_at hl 2 rfl) ?_
      refine lv_bipush (v := (6 : Int32)) hx hb dX5_digest_150 (by decide) ?_
      refine lv_icmp_gt (tgt := 172) hx hb dX5_digest_152 (by decide) (fun c16 => ?_) (fun c16 => ?_)
      · have h := o_t h c16
        exact L172 _ _ h _ _ hP hD hS _ (lv_sub hl [0, 1] rfl)
      have h := o_f h c16
      refine lv_lload_n hx hb dX5_digest_155 rfl (lv_at hl 1 rfl) ?_
      refine lv_aload_n hx hb dX5_digest_156 rfl (lv_at hl 0 rfl) ?_
      refine lv_iload_n hx hb dX5_digest_157 rfl (lv_at hl 2 rfl) ?_
      obtain ⟨v37, g38, h⟩ := o_b h
      have g38 := o_R_ g38
      refine k_ro (va_runV (As := [.int y3]) (rest := [.long y1]) ⟨hx, hb, hml, hown, hts⟩ (c_X5_bestFeed l dC dI cI cF a S y3 v37 g38) (cwV 1 hts gX5_digest_X5_bestFeed rfl rfl rfl (by decide +kernel) ⟨Nat.le_of_ble_eq_true rfl, Nat.le_of_ble_eq_true rfl⟩) (k_preL (q0 := 0) (ci := 5) hK hP (LN_id (fX5 a cI cF S S)) rfl rfl rfl) rfl rfl hl.1 rfl (lv_room (Nat.le_of_ble_eq_true rfl)) dX5_digest_158 ⟨Nat.zero_le _, Nat.zero_le _⟩) (st1 := [.int v37, .long y1]) rfl ?_
      refine lv_i2l hx hb dX5_digest_161 rfl ?_
      obtain ⟨v39, g40, h⟩ := o_b h
      refine k_ro (va_runS (As := [.long y1, .long v37.toInt64]) (rest := []) ⟨hx, hb, hml, hown, hts⟩ (c_X5_mix l dC dI cI cF y1 v37.toInt64 v39 g40) (va_cwS 2 hts gX5_digest_X5_mix rfl rfl rfl (by decide +kernel) ⟨Nat.le_of_ble_eq_true rfl, Nat.le_of_ble_eq_true rfl⟩) (k_prePU) rfl rfl hl.1 rfl (lv_room (Nat.le_of_ble_eq_true rfl)) dX5_digest_162 ⟨Nat.zero_le _, Nat.zero_le _⟩) (st1 := [.long v39]) rfl ?_
      refine lv_lstore_n (lv' := [(1, .long v39), (0, .ref (a 0)), (3, .int y3)]) hx hb dX5_digest_165 rfl hl (by decide) rfl (fun ls hl => ?_)
      obtain ⟨x3_41, e42, h⟩ := o_n h
      refine lv_iinc (v := x3_41) (lv' := [(3, .int x3_41), (1, .long v39), (0, .ref (a 0))]) hx hb dX5_digest_166 hl (k := 2) rfl (by rw [e42]; rfl) (by decide) rfl (fun ls hl => ?_)
      refine lv_goto (tgt := 149) hx hb dX5_digest_169 (by decide) ?_
      exact ih149 _ _ _ h _ _ hP hD hS _ (lv_sub hl [2, 1, 0] rfl)
  have L135 : ∀ (y1 : Int64) (S : S_X5), m_X5_digest_L135 y1 S = some u → ∀ (H : Heap) (locs : List Loc), va_P (dC, dI) vwCl (wX5 a cI cF S) H → va_D A (wX5 a cI cF S) → va_S A s.heap H locs → ∀ (ls : Array Slot), lv_has ls 5 [(0, .ref (a 0)), (1, .long y1)] → W p l e (headSpec wsX5_digest ({ frames := 6, cells := 0, slots := 0, locals := 177 } : Room)).room s m ([.ref (a 0)] : List Value).toArray below meth c H locs 0 0 (MQ below (qRW (dC, dI) (wX5 a cI cF u.2) (some (.long u.1)) A) ([.ref (a 0)] : List Value).toArray s 0 0 A) (F0 m 135 ls []) := by
    intro  y1 S h H locs hP hD hS ls hl
    rw [m_X5_digest_L135] at h
    refine lv_lload_n hx hb dX5_digest_135 rfl (lv_at hl 1 rfl) ?_
    refine lv_aload_n hx hb dX5_digest_136 rfl (lv_at hl 0 rfl) ?_
    refine lv_bipush (v := (10 : Int32)) hx hb dX5_digest_137 (by decide) ?_
    obtain ⟨v12, g13, h⟩ := o_b h
    have g13 := o_R_ g13
    refine k_rwL (va_runV (As := [.int (10 : Int32)]) (rest := [.long y1]) ⟨hx, hb, hml, hown, hts⟩ (c_X5_bestLag l dC dI cI cF a S (10 : Int32) v12 g13 H.size) (cwV 1 hts gX5_digest_X5_bestLag rfl rfl rfl (by decide +kernel) ⟨Nat.le_of_ble_eq_true rfl, Nat.le_of_ble_eq_true rfl⟩) (k_preLw (q0 := 0) (ci := 5) hK hP hD (LN_id (fX5 a cI cF S v12.2)) rfl rfl rfl) rfl rfl hl.1 rfl (lv_room (Nat.le_of_ble_eq_true rfl)) dX5_digest_139 ⟨Nat.zero_le _, Nat.zero_le _⟩) (st1 := [.int v12.1, .long y1]) rfl hP hD hS hA (wn := wX5 a cI cF v12.2) (LN_id (fX5 a cI cF S v12.2)) (fun H locs hP hD hS => ?_)
    refine lv_i2l hx hb dX5_digest_142 rfl ?_
    obtain ⟨v14, g15, h⟩ := o_b h
    refine k_ro (va_runS (As := [.long y1, .long v12.1.toInt64]) (rest := []) ⟨hx, hb, hml, hown, hts⟩ (c_X5_mix l dC dI cI cF y1 v12.1.toInt64 v14 g15) (va_cwS 2 hts gX5_digest_X5_mix rfl rfl rfl (by decide +kernel) ⟨Nat.le_of_ble_eq_true rfl, Nat.le_of_ble_eq_true rfl⟩) (k_prePU) rfl rfl hl.1 rfl (lv_room (Nat.le_of_ble_eq_true rfl)) dX5_digest_143 ⟨Nat.zero_le _, Nat.zero_le _⟩) (st1 := [.long v14]) rfl ?_
    refine lv_lstore_n (lv' := [(1, .long v14), (0, .ref (a 0))]) hx hb dX5_digest_146 rfl hl (by decide) rfl (fun ls hl => ?_)
    refine lv_iconst (v := (1 : Int32)) hx hb dX5_digest_147 (by decide) ?_
    refine lv_istore_n (lv' := [(3, .int (1 : Int32)), (1, .long v14), (0, .ref (a 0))]) hx hb dX5_digest_148 rfl hl (by decide) rfl (fun ls hl => ?_)
    exact L149 _ _ _ _ h _ _ hP hD hS _ (lv_sub hl [2, 1, 0] rfl)
  have L111 : ∀ (n : Nat), ∀ (y1 : Int64) (y3 : Int32) (S : S_X5), m_X5_digest_L111 n y1 y3 S = some u → ∀ (H : Heap) (locs : List Loc), va_P (dC, dI) vwCl (wX5 a cI cF S) H → va_D A (wX5 a cI cF S) → va_S A s.heap H locs → ∀ (ls : Array Slot), lv_has ls 5 [(0, .ref (a 0)), (1, .long y1), (3, .int y3)] → W p l e (headSpec wsX5_digest ({ frames := 6, cells := 0, slots := 0, locals := 177 } : Room)).room s m ([.ref (a 0)] : List Value).toArray below meth c H locs 0 0 (MQ below (qRW (dC, dI) (wX5 a cI cF u.2) (some (.long u.1)) A) ([.ref (a 0)] : List Value).toArray s 0 0 A) (F0 m 111 ls []) := by
    intro  n
    induction n with
    | zero =>
      intro y1 y3 S h
      exact (o_0 h).elim
    | succ n ih111 =>
      intro y1 y3 S h H locs hP hD hS ls hl
      rw [m_X5_digest_L111] at h
      refine lv_iload_n hx hb dX5_digest_111 rfl (lv_at hl 2 rfl) ?_
      refine lv_iconst (v := (5 : Int32)) hx hb dX5_digest_112 (by decide) ?_
      refine lv_icmp_ge (tgt := 135) hx hb dX5_digest_113 (by decide) (fun c11 => ?_) (fun c11 => ?_)
      · have h := o_t h c11
        exact L135 _ _ h _ _ hP hD hS _ (lv_sub hl [0, 1] rfl)
      have h := o_f h c11
      refine lv_lload_n hx hb dX5_digest_116 rfl (lv_at hl 1 rfl) ?_
      refine lv_aload_n hx hb dX5_digest_117 rfl (lv_at hl 0 rfl) ?_
      refine lv_bipush (v := (10 : Int32)) hx hb dX5_digest_118 (by decide) ?_
      refine lv_iload_n hx hb dX5_digest_120 rfl (lv_at hl 2 rfl) ?_
      obtain ⟨v43, g44, h⟩ := o_b h
      have g44 := o_R_ g44
      refine k_rwL (va_runV (As := [.int (10 : Int32), .int y3]) (rest := [.long y1]) ⟨hx, hb, hml, hown, hts⟩ (c_X5_ifRun l dC dI cI cF a S (10 : Int32) y3 v43 g44 H.size) (cwV 2 hts gX5_digest_X5_ifRun rfl rfl rfl (by decide +kernel) ⟨Nat.le_of_ble_eq_true rfl, Nat.le_of_ble_eq_true rfl⟩) (k_preLw (q0 := 0) (ci := 5) hK hP hD (LN_id (fX5 a cI cF S v43.2)) rfl rfl rfl) rfl rfl hl.1 rfl (lv_room (Nat.le_of_ble_eq_true rfl)) dX5_digest_121 ⟨Nat.zero_le _, Nat.zero_le _⟩) (st1 := [.int v43.1, .long y1]) rfl hP hD hS hA (wn := wX5 a cI cF v43.2) (LN_id (fX5 a cI cF S v43.2)) (fun H locs hP hD hS => ?_)
      refine lv_i2l hx hb dX5_digest_124 rfl ?_
      obtain ⟨v45, g46, h⟩ := o_b h
      refine k_ro (va_runS (As := [.long y1, .long v43.1.toInt64]) (rest := []) ⟨hx, hb, hml, hown, hts⟩ (c_X5_mix l dC dI cI cF y1 v43.1.toInt64 v45 g46) (va_cwS 2 hts gX5_digest_X5_mix rfl rfl rfl (by decide +kernel) ⟨Nat.le_of_ble_eq_true rfl, Nat.le_of_ble_eq_true rfl⟩) (k_prePU) rfl rfl hl.1 rfl (lv_room (Nat.le_of_ble_eq_true rfl)) dX5_digest_125 ⟨Nat.zero_le _, Nat.zero_le _⟩) (st1 := [.long v45]) rfl ?_
      refine lv_lstore_n (lv' := [(1, .long v45), (0, .ref (a 0)), (3, .int y3)]) hx hb dX5_digest_128 rfl hl (by decide) rfl (fun ls hl => ?_)
      obtain ⟨x3_47, e48, h⟩ := o_n h
      refine lv_iinc (v := x3_47) (lv' := [(3, .int x3_47), (1, .long v45), (0, .ref (a 0))]) hx hb dX5_digest_129 hl (k := 2) rfl (by rw [e48]; rfl) (by decide) rfl (fun ls hl => ?_)
      refine lv_goto (tgt := 111) hx hb dX5_digest_132 (by decide) ?_
      exact ih111 _ _ _ h _ _ hP hD hS _ (lv_sub hl [2, 1, 0] rfl)
  have L99 : ∀ (y1 : Int64) (S : S_X5), m_X5_digest_L99 y1 S = some u → ∀ (H : Heap) (locs : List Loc), va_P (dC, dI) vwCl (wX5 a cI cF S) H → va_D A (wX5 a cI cF S) → va_S A s.heap H locs → ∀ (ls : Array Slot), lv_has ls 5 [(0, .ref (a 0)), (1, .long y1)] → W p l e (headSpec wsX5_digest ({ frames := 6, cells := 0, slots := 0, locals := 177 } : Room)).room s m ([.ref (a 0)] : List Value).toArray below meth c H locs 0 0 (MQ below (qRW (dC, dI) (wX5 a cI cF u.2) (some (.long u.1)) A) ([.ref (a 0)] : List Value).toArray s 0 0 A) (F0 m 99 ls []) := by
    intro  y1 S h H locs hP hD hS ls hl
    rw [m_X5_digest_L99] at h
    refine lv_lload_n hx hb dX5_digest_99 rfl (lv_at hl 1 rfl) ?_
    refine lv_aload_n hx hb dX5_digest_100 rfl (lv_at hl 0 rfl) ?_
    obtain ⟨v7, g8, h⟩ := o_b h
    refine k_ro (va_runV (As := []) (rest := [.long y1]) ⟨hx, hb, hml, hown, hts⟩ (c_X5_why l dC dI cI cF a S v7 g8) (cwV 0 hts gX5_digest_X5_why rfl rfl rfl (by decide +kernel) ⟨Nat.le_of_ble_eq_true rfl, Nat.le_of_ble_eq_true rfl⟩) (k_preL (q0 := 0) (ci := 5) hK hP (LN_id (fX5 a cI cF S S)) rfl rfl rfl) rfl rfl hl.1 rfl (lv_room (Nat.le_of_ble_eq_true rfl)) dX5_digest_101 ⟨Nat.zero_le _, Nat.zero_le _⟩) (st1 := [.int v7, .long y1]) rfl ?_
    refine lv_i2l hx hb dX5_digest_104 rfl ?_
    obtain ⟨v9, g10, h⟩ := o_b h
    refine k_ro (va_runS (As := [.long y1, .long v7.toInt64]) (rest := []) ⟨hx, hb, hml, hown, hts⟩ (c_X5_mix l dC dI cI cF y1 v7.toInt64 v9 g10) (va_cwS 2 hts gX5_digest_X5_mix rfl rfl rfl (by decide +kernel) ⟨Nat.le_of_ble_eq_true rfl, Nat.le_of_ble_eq_true rfl⟩) (k_prePU) rfl rfl hl.1 rfl (lv_room (Nat.le_of_ble_eq_true rfl)) dX5_digest_105 ⟨Nat.zero_le _, Nat.zero_le _⟩) (st1 := [.long v9]) rfl ?_
    refine lv_lstore_n (lv' := [(1, .long v9), (0, .ref (a 0))]) hx hb dX5_digest_108 rfl hl (by decide) rfl (fun ls hl => ?_)
    refine lv_iconst (v := (0 : Int32)) hx hb dX5_digest_109 (by decide) ?_
    refine lv_istore_n (lv' := [(3, .int (0 : Int32)), (1, .long v9), (0, .ref (a 0))]) hx hb dX5_digest_110 rfl hl (by decide) rfl (fun ls hl => ?_)
    exact L111 _ _ _ _ h _ _ hP hD hS _ (lv_sub hl [2, 1, 0] rfl)
  have L76 : ∀ (n : Nat), ∀ (y1 : Int64) (y3 : Int32) (S : S_X5), m_X5_digest_L76 n y1 y3 S = some u → ∀ (H : Heap) (locs : List Loc), va_P (dC, dI) vwCl (wX5 a cI cF S) H → va_D A (wX5 a cI cF S) → va_S A s.heap H locs → ∀ (ls : Array Slot), lv_has ls 5 [(0, .ref (a 0)), (1, .long y1), (3, .int y3)] → W p l e (headSpec wsX5_digest ({ frames := 6, cells := 0, slots := 0, locals := 177 } : Room)).room s m ([.ref (a 0)] : List Value).toArray below meth c H locs 0 0 (MQ below (qRW (dC, dI) (wX5 a cI cF u.2) (some (.long u.1)) A) ([.ref (a 0)] : List Value).toArray s 0 0 A) (F0 m 76 ls []) := by
    intro  n
    induction n with
    | zero =>
      intro y1 y3 S h
      exact (o_0 h).elim
    | succ n ih76 =>
      intro y1 y3 S h H locs hP hD hS ls hl
      rw [m_X5_digest_L76] at h
      refine lv_iload_n hx hb dX5_digest_76 rfl (lv_at hl 2 rfl) ?_
      refine lv_bipush (v := (6 : Int32)) hx hb dX5_digest_77 (by decide) ?_
      refine lv_icmp_gt (tgt := 99) hx hb dX5_digest_79 (by decide) (fun c6 => ?_) (fun c6 => ?_)
      · have h := o_t h c6
        exact L99 _ _ h _ _ hP hD hS _ (lv_sub hl [0, 1] rfl)
      have h := o_f h c6
      refine lv_lload_n hx hb dX5_digest_82 rfl (lv_at hl 1 rfl) ?_
      refine lv_aload_n hx hb dX5_digest_83 rfl (lv_at hl 0 rfl) ?_
      refine lv_iload_n hx hb dX5_digest_84 rfl (lv_at hl 2 rfl) ?_
      obtain ⟨v49, g50, h⟩ := o_b h
      have g50 := o_R_ g50
      refine k_ro (va_runV (As := [.int y3]) (rest := [.long y1]) ⟨hx, hb, hml, hown, hts⟩ (c_X5_feeler l dC dI cI cF a S y3 v49 g50) (cwV 1 hts gX5_digest_X5_feeler rfl rfl rfl (by decide +kernel) ⟨Nat.le_of_ble_eq_true rfl, Nat.le_of_ble_eq_true rfl⟩) (k_preL (q0 := 0) (ci := 5) hK hP (LN_id (fX5 a cI cF S S)) rfl rfl rfl) rfl rfl hl.1 rfl (lv_room (Nat.le_of_ble_eq_true rfl)) dX5_digest_85 ⟨Nat.zero_le _, Nat.zero_le _⟩) (st1 := [.int v49, .long y1]) rfl ?_
      refine lv_i2l hx hb dX5_digest_88 rfl ?_
      obtain ⟨v51, g52, h⟩ := o_b h
      refine k_ro (va_runS (As := [.long y1, .long v49.toInt64]) (rest := []) ⟨hx, hb, hml, hown, hts⟩ (c_X5_mix l dC dI cI cF y1 v49.toInt64 v51 g52) (va_cwS 2 hts gX5_digest_X5_mix rfl rfl rfl (by decide +kernel) ⟨Nat.le_of_ble_eq_true rfl, Nat.le_of_ble_eq_true rfl⟩) (k_prePU) rfl rfl hl.1 rfl (lv_room (Nat.le_of_ble_eq_true rfl)) dX5_digest_89 ⟨Nat.zero_le _, Nat.zero_le _⟩) (st1 := [.long v51]) rfl ?_
      refine lv_lstore_n (lv' := [(1, .long v51), (0, .ref (a 0)), (3, .int y3)]) hx hb dX5_digest_92 rfl hl (by decide) rfl (fun ls hl => ?_)
      obtain ⟨x3_53, e54, h⟩ := o_n h
      refine lv_iinc (v := x3_53) (lv' := [(3, .int x3_53), (1, .long v51), (0, .ref (a 0))]) hx hb dX5_digest_93 hl (k := 2) rfl (by rw [e54]; rfl) (by decide) rfl (fun ls hl => ?_)
      refine lv_goto (tgt := 76) hx hb dX5_digest_96 (by decide) ?_
      exact ih76 _ _ _ h _ _ hP hD hS _ (lv_sub hl [2, 1, 0] rfl)
  have L55 : ∀ (n : Nat), ∀ (y1 : Int64) (y3 : Int32) (S : S_X5), m_X5_digest_L55 n y1 y3 S = some u → ∀ (H : Heap) (locs : List Loc), va_P (dC, dI) vwCl (wX5 a cI cF S) H → va_D A (wX5 a cI cF S) → va_S A s.heap H locs → ∀ (ls : Array Slot), lv_has ls 5 [(0, .ref (a 0)), (1, .long y1), (3, .int y3)] → W p l e (headSpec wsX5_digest ({ frames := 6, cells := 0, slots := 0, locals := 177 } : Room)).room s m ([.ref (a 0)] : List Value).toArray below meth c H locs 0 0 (MQ below (qRW (dC, dI) (wX5 a cI cF u.2) (some (.long u.1)) A) ([.ref (a 0)] : List Value).toArray s 0 0 A) (F0 m 55 ls []) := by
    intro  n
    induction n with
    | zero =>
      intro y1 y3 S h
      exact (o_0 h).elim
    | succ n ih55 =>
      intro y1 y3 S h H locs hP hD hS ls hl
      rw [m_X5_digest_L55] at h
      refine lv_iload_n hx hb dX5_digest_55 rfl (lv_at hl 2 rfl) ?_
      refine lv_bipush (v := (8 : Int32)) hx hb dX5_digest_56 (by decide) ?_
      refine lv_icmp_ge (tgt := 74) hx hb dX5_digest_58 (by decide) (fun c5 => ?_) (fun c5 => ?_)
      · have h := o_t h c5
        refine lv_iconst (v := (0 : Int32)) hx hb dX5_digest_74 (by decide) ?_
        refine lv_istore_n (lv' := [(3, .int (0 : Int32)), (0, .ref (a 0)), (1, .long y1)]) hx hb dX5_digest_75 rfl hl (by decide) rfl (fun ls hl => ?_)
        exact L76 _ _ _ _ h _ _ hP hD hS _ (lv_sub hl [1, 2, 0] rfl)
      have h := o_f h c5
      refine lv_aload_n hx hb dX5_digest_61 rfl (lv_at hl 0 rfl) ?_
      refine lv_lload_n hx hb dX5_digest_62 rfl (lv_at hl 1 rfl) ?_
      refine lv_iload_n hx hb dX5_digest_63 rfl (lv_at hl 2 rfl) ?_
      obtain ⟨v55, g56, h⟩ := o_b h
      refine k_ro (va_runV (As := [.long y1, .int y3]) (rest := []) ⟨hx, hb, hml, hown, hts⟩ (c_X5_mixCan l dC dI cI cF a S y1 y3 v55 g56) (cwV 2 hts gX5_digest_X5_mixCan rfl rfl rfl (by decide +kernel) ⟨Nat.le_of_ble_eq_true rfl, Nat.le_of_ble_eq_true rfl⟩) (k_preL (q0 := 0) (ci := 5) hK hP (LN_id (fX5 a cI cF S S)) rfl rfl rfl) rfl rfl hl.1 rfl (lv_room (Nat.le_of_ble_eq_true rfl)) dX5_digest_64 ⟨Nat.zero_le _, Nat.zero_le _⟩) (st1 := [.long v55]) rfl ?_
      refine lv_lstore_n (lv' := [(1, .long v55), (0, .ref (a 0)), (3, .int y3)]) hx hb dX5_digest_67 rfl hl (by decide) rfl (fun ls hl => ?_)
      obtain ⟨x3_57, e58, h⟩ := o_n h
      refine lv_iinc (v := x3_57) (lv' := [(3, .int x3_57), (1, .long v55), (0, .ref (a 0))]) hx hb dX5_digest_68 hl (k := 2) rfl (by rw [e58]; rfl) (by decide) rfl (fun ls hl => ?_)
      refine lv_goto (tgt := 55) hx hb dX5_digest_71 (by decide) ?_
      exact ih55 _ _ _ h _ _ hP hD hS _ (lv_sub hl [2, 1, 0] rfl)
  have L31 : ∀ (n : Nat), ∀ (y1 : Int64) (y3 : Int32) (S : S_X5), m_X5_digest_L31 n y1 y3 S = some u → ∀ (H : Heap) (locs : List Loc), va_P (dC, dI) vwCl (wX5 a cI cF S) H → va_D A (wX5 a cI cF S) → va_S A s.heap H locs → ∀ (ls : Array Slot), lv_has ls 5 [(0, .ref (a 0)), (1, .long y1), (3, .int y3)] → W p l e (headSpec wsX5_digest ({ frames := 6, cells := 0, slots := 0, locals := 177 } : Room)).room s m ([.ref (a 0)] : List Value).toArray below meth c H locs 0 0 (MQ below (qRW (dC, dI) (wX5 a cI cF u.2) (some (.long u.1)) A) ([.ref (a 0)] : List Value).toArray s 0 0 A) (F0 m 31 ls []) := by
    intro  n
    induction n with
    | zero =>
      intro y1 y3 S h
      exact (o_0 h).elim
    | succ n ih31 =>
      intro y1 y3 S h H locs hP hD hS ls hl
      rw [m_X5_digest_L31] at h
      refine lv_iload_n hx hb dX5_digest_31 rfl (lv_at hl 2 rfl) ?_
      refine lv_iconst (v := (5 : Int32)) hx hb dX5_digest_32 (by decide) ?_
      refine lv_icmp_ge (tgt := 53) hx hb dX5_digest_33 (by decide) (fun c4 => ?_) (fun c4 => ?_)
      · have h := o_t h c4
        refine lv_iconst (v := (0 : Int32)) hx hb dX5_digest_53 (by decide) ?_
        refine lv_istore_n (lv' := [(3, .int (0 : Int32)), (0, .ref (a 0)), (1, .long y1)]) hx hb dX5_digest_54 rfl hl (by decide) rfl (fun ls hl => ?_)
        exact L55 _ _ _ _ h _ _ hP hD hS _ (lv_sub hl [1, 2, 0] rfl)
      have h := o_f h c4
      refine lv_lload_n hx hb dX5_digest_36 rfl (lv_at hl 1 rfl) ?_
      refine lv_aload_n hx hb dX5_digest_37 rfl (lv_at hl 0 rfl) ?_
      refine lv_iload_n hx hb dX5_digest_38 rfl (lv_at hl 2 rfl) ?_
      obtain ⟨v59, g60, h⟩ := o_b h
      have g60 := o_R_ g60
      refine k_ro (va_runV (As := [.int y3]) (rest := [.long y1]) ⟨hx, hb, hml, hown, hts⟩ (c_X5_setting l dC dI cI cF a S y3 v59 g60) (cwV 1 hts gX5_digest_X5_setting rfl rfl rfl (by decide +kernel) ⟨Nat.le_of_ble_eq_true rfl, Nat.le_of_ble_eq_true rfl⟩) (k_preL (q0 := 0) (ci := 5) hK hP (LN_id (fX5 a cI cF S S)) rfl rfl rfl) rfl rfl hl.1 rfl (lv_room (Nat.le_of_ble_eq_true rfl)) dX5_digest_39 ⟨Nat.zero_le _, Nat.zero_le _⟩) (st1 := [.int v59, .long y1]) rfl ?_
      refine lv_i2l hx hb dX5_digest_42 rfl ?_
      obtain ⟨v61, g62, h⟩ := o_b h
      refine k_ro (va_runS (As := [.long y1, .long v59.toInt64]) (rest := []) ⟨hx, hb, hml, hown, hts⟩ (c_X5_mix l dC dI cI cF y1 v59.toInt64 v61 g62) (va_cwS 2 hts gX5_digest_X5_mix rfl rfl rfl (by decide +kernel) ⟨Nat.le_of_ble_eq_true rfl, Nat.le_of_ble_eq_true rfl⟩) (k_prePU) rfl rfl hl.1 rfl (lv_room (Nat.le_of_ble_eq_true rfl)) dX5_digest_43 ⟨Nat.zero_le _, Nat.zero_le _⟩) (st1 := [.long v61]) rfl ?_
      refine lv_lstore_n (lv' := [(1, .long v61), (0, .ref (a 0)), (3, .int y3)]) hx hb dX5_digest_46 rfl hl (by decide) rfl (fun ls hl => ?_)
      obtain ⟨x3_63, e64, h⟩ := o_n h
      refine lv_iinc (v := x3_63) (lv' := [(3, .int x3_63), (1, .long v61), (0, .ref (a 0))]) hx hb dX5_digest_47 hl (k := 2) rfl (by rw [e64]; rfl) (by decide) rfl (fun ls hl => ?_)
      refine lv_goto (tgt := 31) hx hb dX5_digest_50 (by decide) ?_
      exact ih31 _ _ _ h _ _ hP hD hS _ (lv_sub hl [2, 1, 0] rfl)
  have L6 : ∀ (n : Nat), ∀ (y1 : Int64) (y3 : Int32) (S : S_X5), m_X5_digest_L6 n y1 y3 S = some u → ∀ (H : Heap) (locs : List Loc), va_P (dC, dI) vwCl (wX5 a cI cF S) H → va_D A (wX5 a cI cF S) → va_S A s.heap H locs → ∀ (ls : Array Slot), lv_has ls 5 [(0, .ref (a 0)), (1, .long y1), (3, .int y3)] → W p l e (headSpec wsX5_digest ({ frames := 6, cells := 0, slots := 0, locals := 177 } : Room)).room s m ([.ref (a 0)] : List Value).toArray below meth c H locs 0 0 (MQ below (qRW (dC, dI) (wX5 a cI cF u.2) (some (.long u.1)) A) ([.ref (a 0)] : List Value).toArray s 0 0 A) (F0 m 6 ls []) := by
    intro  n
    induction n with
    | zero =>
      intro y1 y3 S h
      exact (o_0 h).elim
    | succ n ih6 =>
      intro y1 y3 S h H locs hP hD hS ls hl
      rw [m_X5_digest_L6] at h
      refine lv_iload_n hx hb dX5_digest_6 rfl (lv_at hl 2 rfl) ?_
      refine lv_bipush (v := (12 : Int32)) hx hb dX5_digest_7 (by decide) ?_
      refine lv_icmp_ge (tgt := 29) hx hb dX5_digest_9 (by decide) (fun c3 => ?_) (fun c3 => ?_)
      · have h := o_t h c3
        refine lv_iconst (v := (0 : Int32)) hx hb dX5_digest_29 (by decide) ?_
        refine lv_istore_n (lv' := [(3, .int (0 : Int32)), (0, .ref (a 0)), (1, .long y1)]) hx hb dX5_digest_30 rfl hl (by decide) rfl (fun ls hl => ?_)
        exact L31 _ _ _ _ h _ _ hP hD hS _ (lv_sub hl [1, 2, 0] rfl)
      have h := o_f h c3
      refine lv_lload_n hx hb dX5_digest_12 rfl (lv_at hl 1 rfl) ?_
      refine lv_aload_n hx hb dX5_digest_13 rfl (lv_at hl 0 rfl) ?_
      refine lv_iload_n hx hb dX5_digest_14 rfl (lv_at hl 2 rfl) ?_
      obtain ⟨v65, g66, h⟩ := o_b h
      have g66 := o_R_ g66
      refine k_ro (va_runV (As := [.int y3]) (rest := [.long y1]) ⟨hx, hb, hml, hown, hts⟩ (c_X5_count l dC dI cI cF a S y3 v65 g66) (cwV 1 hts gX5_digest_X5_count rfl rfl rfl (by decide +kernel) ⟨Nat.le_of_ble_eq_true rfl, Nat.le_of_ble_eq_true rfl⟩) (k_preL (q0 := 0) (ci := 5) hK hP (LN_id (fX5 a cI cF S S)) rfl rfl rfl) rfl rfl hl.1 rfl (lv_room (Nat.le_of_ble_eq_true rfl)) dX5_digest_15 ⟨Nat.zero_le _, Nat.zero_le _⟩) (st1 := [.int v65, .long y1]) rfl ?_
      refine lv_i2l hx hb dX5_digest_18 rfl ?_
      obtain ⟨v67, g68, h⟩ := o_b h
      refine k_ro (va_runS (As := [.long y1, .long v65.toInt64]) (rest := []) ⟨hx, hb, hml, hown, hts⟩ (c_X5_mix l dC dI cI cF y1 v65.toInt64 v67 g68) (va_cwS 2 hts gX5_digest_X5_mix rfl rfl rfl (by decide +kernel) ⟨Nat.le_of_ble_eq_true rfl, Nat.le_of_ble_eq_true rfl⟩) (k_prePU) rfl rfl hl.1 rfl (lv_room (Nat.le_of_ble_eq_true rfl)) dX5_digest_19 ⟨Nat.zero_le _, Nat.zero_le _⟩) (st1 := [.long v67]) rfl ?_
      refine lv_lstore_n (lv' := [(1, .long v67), (0, .ref (a 0)), (3, .int y3)]) hx hb dX5_digest_22 rfl hl (by decide) rfl (fun ls hl => ?_)
      obtain ⟨x3_69, e70, h⟩ := o_n h
      refine lv_iinc (v := x3_69) (lv' := [(3, .int x3_69), (1, .long v67), (0, .ref (a 0))]) hx hb dX5_digest_23 hl (k := 2) rfl (by rw [e70]; rfl) (by decide) rfl (fun ls hl => ?_)
      refine lv_goto (tgt := 6) hx hb dX5_digest_26 (by decide) ?_
      exact ih6 _ _ _ h _ _ hP hD hS _ (lv_sub hl [2, 1, 0] rfl)
  have hl := lv_entry ([.ref (a 0)]) (n := 5) (Nat.le_of_ble_eq_true rfl)
  rw [lg_entry_eq]
  generalize (lg_sl ([.ref (a 0)]) ++ List.replicate (5 - (lg_sl ([.ref (a 0)])).length) Slot.unset).toArray = ls at hl ⊢
  have hl : lv_has ls 5 [(0, .ref (a 0))] := hl
  rw [m_X5_digest] at h
  refine lv_ldc2 hx hb hown w256 dX5_digest_0 ?_
  obtain ⟨x1_1, e2, h⟩ := o_n h
  refine lv_nml e2 ?_
  refine lv_lstore_n (lv' := [(1, .long x1_1), (0, .ref (a 0))]) hx hb dX5_digest_3 rfl hl (by decide) rfl (fun ls hl => ?_)
  refine lv_iconst (v := (0 : Int32)) hx hb dX5_digest_4 (by decide) ?_
  refine lv_istore_n (lv' := [(3, .int (0 : Int32)), (1, .long x1_1), (0, .ref (a 0))]) hx hb dX5_digest_5 rfl hl (by decide) rfl (fun ls hl => ?_)
  exact L6 _ _ _ _ h _ _ hP hD hS _ (lv_sub hl [2, 1, 0] rfl)

