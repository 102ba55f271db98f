def m_L_law_L121 (L : Nat) (xs : Nat → Int32) (k40 : Int32 → Int32 → S_X5 → Option (Int32)) (y2 : Int32) (y3 : Int32) (y4 : Int32) (S : S_X5) : Option (Int32) := if (y3 - y3 / (12 : Int32) * (12 : Int32)) = (5 : Int32) then ((m_L_low (y4 >>> ((4 : Int32) &&& 31)) (12 : Int32)).bind fun v21 => ((m_L_low (y4 >>> ((2 : Int32) &&& 31)) (5 : Int32)).bind fun v23 => ((m_L_areBestSo S ((1 : Int32) + v21) ((1 : Int32) + v23)).bind fun v25 => (if v25.1 = 0 then (some 0) else (nmL (y3 + 1) fun x3_28 => (k40 y2 x3_28 v25.2)))))) else (nmL (y3 + 1) fun x3_19 => (k40 y2 x3_19 S))
def m_L_law_L78 (L : Nat) (xs : Nat → Int32) (k40 : Int32 → Int32 → S_X5 → Option (Int32)) (y2 : Int32) (y3 : Int32) (y4 : Int32) (S : S_X5) : Option (Int32) := (m_L_isStepSo S).bind fun v14 => (if v14.1 = 0 then (some 0) else (if (y3 - y3 / (2 : Int32) * (2 : Int32)) = 0 then ((m_L_low (y4 >>> ((3 : Int32) &&& 31)) (8 : Int32)).bind fun v30 => ((m_L_low (y4 >>> ((6 : Int32) &&& 31)) (8 : Int32)).bind fun v32 => ((m_L_isRunSo v14.2 ((1 : Int32) + v30) ((1 : Int32) + v32)).bind fun v34 => (if v34.1 = 0 then (some 0) else (m_L_law_L121 L xs k40 y2 y3 y4 v34.2))))) else (m_L_law_L121 L xs k40 y2 y3 y4 v14.2)))
def m_L_law_L40 (L : Nat) (xs : Nat → Int32) : Nat → Int32 → Int32 → S_X5 → Option (Int32)
  | 0, _, _, _ => none
  | n + 1, y2, y3, S => if (48 : Int32) ≤ y3 then (if y2 = 0 then (some 1) else (some 0)) else ((m_L_cell L xs (y3 + (3 : Int32))).bind fun v8 => ((m_L_does S v8).bind fun v10 => (if v10.1 < 0 then (some 0) else (if (y3 - y3 / (3 : Int32) * (3 : Int32)) = (1 : Int32) then ((m_L_areCansSo v10.2).bind fun v37 => (if v37 = 0 then (some 0) else (m_L_law_L78 L xs (m_L_law_L40 L xs n) y2 y3 v8 v10.2))) else (m_L_law_L78 L xs (m_L_law_L40 L xs n) y2 y3 v8 v10.2)))))
def m_L_law_L10 (L : Nat) (xs : Nat → Int32) : Nat → Int32 → S_X5 → Option (Int32)
  | 0, _, _ => none
  | n + 1, y2, S => if (3 : Int32) ≤ y2 then ((o_R (m_X5_feed S (7 : Int32))).bind fun v2 => (nmL (v2.1) fun x2_4 => (m_L_law_L40 L xs 4000 x2_4 (0 : Int32) v2.2))) else ((m_L_cell L xs y2).bind fun v40 => ((m_L_fill S y2 v40).bind fun v42 => (nmL (y2 + 1) fun x2_44 => ((m_L_law_L10 L xs n) x2_44 v42))))
def m_L_law (L : Nat) (xs : Nat → Int32) (S : S_X5) : Option Int32 := m_L_law_L10 L xs 4000 (0 : Int32) S
set_option maxHeartbeats 4000000 in
set_option maxRecDepth 100000 in
theorem law_walk {p : Program} {l : Launch} {e : Env} {s : State} {m : MethodId} {below : List Frame} {meth : Method} {c : Code} {bq L : Nat} {xs : Nat → Int32} {dC : Nat → ClassId} {dI : Nat → Nat → Nat} {cI cF : ClassId} {a : Nat → Nat} (C0 : lw_At p s m meth c bq L xs) (hK : va_K (dC, dI) vwCl (tysU cI cF) s) (hE : xE (fun q => s.heap.size ≤ q) s.heap s) (ce sl : Nat) (hce : ce ≤ 1900) (hsl : sl ≤ 19000) (S : S_X5) (h : m_L_law L xs S = some 1) (H : Heap) (locs : List Loc) (hP : va_P (dC, dI) vwCl (wX5 a cI cF S) H) (hD : va_D (fun q => s.heap.size ≤ q) (wX5 a cI cF S)) (hS : va_S (fun q => s.heap.size ≤ q) s.heap H locs) (ls : Array Slot) (hl : lv_has ls 5 [(1, .ref (a 0)), (0, .ref bq)]) : W p l e room_1 s m #[Value.ref bq] below meth c H locs ce sl (lw_Z below #[Value.ref bq] s) (F0 m 8 ls []) := by
  obtain ⟨hx, hb, hr, hml, hown, hts0, hX, hbl, hlocks, hgv⟩ := C0
  have hts : ∀ w ∈ wsL_law, w.before #[Value.ref bq] s = true := fun w h => hts0 w (wsL_law_in w h)
  have hA : ∀ q : Nat, s.heap.size ≤ q → (fun q : Nat => s.heap.size ≤ q) q := fun _ h => h
  have hbA : ¬ (fun q : Nat => s.heap.size ≤ q) bq := Nat.not_le.mpr hbl
  have L121 : ∀ (k40 : Int32 → Int32 → S_X5 → Option (Int32)) (ih40 : ∀ (y2 : Int32) (y3 : Int32) (S : S_X5), k40 y2 y3 S = some 1 → ∀ (H : Heap) (locs : List Loc), va_P (dC, dI) vwCl (wX5 a cI cF S) H → va_D (fun q => s.heap.size ≤ q) (wX5 a cI cF S) → va_S (fun q => s.heap.size ≤ q) s.heap H locs → ∀ (ls : Array Slot), lv_has ls 5 [(0, .ref bq), (1, .ref (a 0)), (2, .int y2), (3, .int y3)] → W p l e room_1 s m #[Value.ref bq] below meth c H locs ce sl (lw_Z below #[Value.ref bq] s) (F0 m 40 ls [])), ∀ (y2 : Int32) (y3 : Int32) (y4 : Int32) (S : S_X5), m_L_law_L121 L xs k40 y2 y3 y4 S = some 1 → ∀ (H : Heap) (locs : List Loc), va_P (dC, dI) vwCl (wX5 a cI cF S) H → va_D (fun q => s.heap.size ≤ q) (wX5 a cI cF S) → va_S (fun q => s.heap.size ≤ q) s.heap H locs → ∀ (ls : Array Slot), lv_has ls 5 [(0, .ref bq), (1, .ref (a 0)), (2, .int y2), (3, .int y3), (4, .int y4)] → W p l e room_1 s m #[Value.ref bq] below meth c H locs ce sl (lw_Z below #[Value.ref bq] s) (F0 m 121 ls []) := by
    intro k40 ih40 y2 y3 y4 S h H locs hP hD hS ls hl
    rw [m_L_law_L121] at h
    refine lv_iload_n hx hb dL_law_121 rfl (lv_at hl 3 rfl) ?_
    refine lv_bipush (v := (12 : Int32)) hx hb dL_law_122 (by decide) ?_
    refine lv_irem hx hb dL_law_124 (by decide) ?_
    refine lv_iconst (v := (5 : Int32)) hx hb dL_law_125 (by decide) ?_
    refine lv_icmp_ne (tgt := 159) hx hb dL_law_126 (by decide) (fun c18 => ?_) (fun c18 => ?_)
    · have h := o_f h c18
      obtain ⟨x3_19, e20, h⟩ := o_n h
      refine lv_iinc (v := x3_19) (lv' := [(3, .int x3_19), (0, .ref bq), (1, .ref (a 0)), (2, .int y2), (4, .int y4)]) hx hb dL_law_159 hl (k := 3) rfl (by rw [e20]; rfl) (by decide) rfl (fun ls hl => ?_)
      refine lv_goto (tgt := 40) hx hb dL_law_162 (by decide) ?_
      exact ih40 _ _ _ h _ _ hP hD hS _ (lv_sub hl [1, 2, 3, 0] rfl)
    have h := o_t h c18
    refine lv_aload_n hx hb dL_law_129 rfl (lv_at hl 1 rfl) ?_
    refine lv_iconst (v := (1 : Int32)) hx hb dL_law_130 (by decide) ?_
    refine lv_iload hx hb dL_law_131 (lv_at hl 4 rfl) ?_
    refine lv_iconst (v := (4 : Int32)) hx hb dL_law_133 (by decide) ?_
    refine lv_ishr hx hb dL_law_134 ?_
    refine lv_bipush (v := (12 : Int32)) hx hb dL_law_135 (by decide) ?_
    obtain ⟨v21, g22, h⟩ := o_b h
    refine k_ro (va_runS (As := [.int (y4 >>> ((4 : Int32) &&& 31)), .int (12 : Int32)]) (rest := [.int (1 : Int32), .ref (a 0)]) ⟨hx, hb, hml, hown, hts⟩ (c_L_low l dC dI cI cF (y4 >>> ((4 : Int32) &&& 31)) (12 : Int32) v21 g22) (va_cwS 2 hts gL_law_L_low rfl rfl rfl (by decide +kernel) ⟨Nat.le_of_ble_eq_true rfl, Nat.le_of_ble_eq_true rfl⟩) k_prePU rfl rfl hl.1 rfl (lv_room (Nat.le_of_ble_eq_true rfl)) dL_law_137 ⟨Nat.le_trans (m := 2000) (by omega) (Nat.le_of_ble_eq_true rfl), Nat.le_trans (m := 20000) (by omega) (Nat.le_of_ble_eq_true rfl)⟩) (st1 := [.int v21, .int (1 : Int32), .ref (a 0)]) rfl ?_
    refine lv_iadd hx hb dL_law_140 ?_
    refine lv_iconst (v := (1 : Int32)) hx hb dL_law_141 (by decide) ?_
    refine lv_iload hx hb dL_law_142 (lv_at hl 4 rfl) ?_
    refine lv_iconst (v := (2 : Int32)) hx hb dL_law_144 (by decide) ?_
    refine lv_ishr hx hb dL_law_145 ?_
    refine lv_iconst (v := (5 : Int32)) hx hb dL_law_146 (by decide) ?_
    obtain ⟨v23, g24, h⟩ := o_b h
    refine k_ro (va_runS (As := [.int (y4 >>> ((2 : Int32) &&& 31)), .int (5 : Int32)]) (rest := [.int (1 : Int32), .int ((1 : Int32) + v21), .ref (a 0)]) ⟨hx, hb, hml, hown, hts⟩ (c_L_low l dC dI cI cF (y4 >>> ((2 : Int32) &&& 31)) (5 : Int32) v23 g24) (va_cwS 2 hts gL_law_L_low rfl rfl rfl (by decide +kernel) ⟨Nat.le_of_ble_eq_true rfl, Nat.le_of_ble_eq_true rfl⟩) k_prePU rfl rfl hl.1 rfl (lv_room (Nat.le_of_ble_eq_true rfl)) dL_law_147 ⟨Nat.le_trans (m := 2000) (by omega) (Nat.le_of_ble_eq_true rfl), Nat.le_trans (m := 20000) (by omega) (Nat.le_of_ble_eq_true rfl)⟩) (st1 := [.int v23, .int (1 : Int32), .int ((1 : Int32) + v21), .ref (a 0)]) rfl ?_
    refine lv_iadd hx hb dL_law_150 ?_
    obtain ⟨v25, g26, h⟩ := o_b h
    refine k_rwL (va_runS (As := [.ref (a 0), .int ((1 : Int32) + v21), .int ((1 : Int32) + v23)]) (rest := []) ⟨hx, hb, hml, hown, hts⟩ (c_L_areBestSo l dC dI cI cF a S ((1 : Int32) + v21) ((1 : Int32) + v23) v25 g26 H.size) (va_cwS 3 hts gL_law_L_areBestSo rfl rfl rfl (by decide +kernel) ⟨Nat.le_of_ble_eq_true rfl, Nat.le_of_ble_eq_true rfl⟩) (k_preSLwe hE hS hA hK hP hD (LN_id (fX5 a cI cF S v25.2))) rfl rfl hl.1 rfl (lv_room (Nat.le_of_ble_eq_true rfl)) dL_law_151 ⟨Nat.le_trans (m := 2000) (by omega) (Nat.le_of_ble_eq_true rfl), Nat.le_trans (m := 20000) (by omega) (Nat.le_of_ble_eq_true rfl)⟩) (st1 := [.int v25.1]) rfl hP hD hS hA (wn := wX5 a cI cF v25.2) (LN_id (fX5 a cI cF S v25.2)) (fun H locs hP hD hS => ?_)
    refine lv_if_ne (tgt := 159) hx hb dL_law_154 (by decide) (fun c27 => ?_) (fun c27 => ?_)
    rotate_left
    · have h := o_t h c27
      refine lv_iconst (v := (0 : Int32)) hx hb dL_law_157 (by decide) ?_
      exact absurd (Option.some.inj h) (by decide)
    have h := o_f h c27
    obtain ⟨x3_28, e29, h⟩ := o_n h
    refine lv_iinc (v := x3_28) (lv' := [(3, .int x3_28), (0, .ref bq), (1, .ref (a 0)), (2, .int y2), (4, .int y4)]) hx hb dL_law_159 hl (k := 3) rfl (by rw [e29]; rfl) (by decide) rfl (fun ls hl => ?_)
    refine lv_goto (tgt := 40) hx hb dL_law_162 (by decide) ?_
    exact ih40 _ _ _ h _ _ hP hD hS _ (lv_sub hl [1, 2, 3, 0] rfl)
  have L78 : ∀ (k40 : Int32 → Int32 → S_X5 → Option (Int32)) (ih40 : ∀ (y2 : Int32) (y3 : Int32) (S : S_X5), k40 y2 y3 S = some 1 → ∀ (H : Heap) (locs : List Loc), va_P (dC, dI) vwCl (wX5 a cI cF S) H → va_D (fun q => s.heap.size ≤ q) (wX5 a cI cF S) → va_S (fun q => s.heap.size ≤ q) s.heap H locs → ∀ (ls : Array Slot), lv_has ls 5 [(0, .ref bq), (1, .ref (a 0)), (2, .int y2), (3, .int y3)] → W p l e room_1 s m #[Value.ref bq] below meth c H locs ce sl (lw_Z below #[Value.ref bq] s) (F0 m 40 ls [])), ∀ (y2 : Int32) (y3 : Int32) (y4 : Int32) (S : S_X5), m_L_law_L78 L xs k40 y2 y3 y4 S = some 1 → ∀ (H : Heap) (locs : List Loc), va_P (dC, dI) vwCl (wX5 a cI cF S) H → va_D (fun q => s.heap.size ≤ q) (wX5 a cI cF S) → va_S (fun q => s.heap.size ≤ q) s.heap H locs → ∀ (ls : Array Slot), lv_has ls 5 [(0, .ref bq), (1, .ref (a 0)), (2, .int y2), (3, .int y3), (4, .int y4)] → W p l e room_1 s m #[Value.ref bq] below meth c H locs ce sl (lw_Z below #[Value.ref bq] s) (F0 m 78 ls []) := by
    intro k40 ih40 y2 y3 y4 S h H locs hP hD hS ls hl
    rw [m_L_law_L78] at h
    refine lv_aload_n hx hb dL_law_78 rfl (lv_at hl 1 rfl) ?_
    obtain ⟨v14, g15, h⟩ := o_b h
    refine k_rwL (va_runS (As := [.ref (a 0)]) (rest := []) ⟨hx, hb, hml, hown, hts⟩ (c_L_isStepSo l dC dI cI cF a S  v14 g15 H.size) (va_cwS 1 hts gL_law_L_isStepSo rfl rfl rfl (by decide +kernel) ⟨Nat.le_of_ble_eq_true rfl, Nat.le_of_ble_eq_true rfl⟩) (k_preSLw hK hP hD (LN_id (fX5 a cI cF S v14.2))) rfl rfl hl.1 rfl (lv_room (Nat.le_of_ble_eq_true rfl)) dL_law_79 ⟨Nat.le_trans (m := 2000) (by omega) (Nat.le_of_ble_eq_true rfl), Nat.le_trans (m := 20000) (by omega) (Nat.le_of_ble_eq_true rfl)⟩) (st1 := [.int v14.1]) rfl hP hD hS hA (wn := wX5 a cI cF v14.2) (LN_id (fX5 a cI cF S v14.2)) (fun H locs hP hD hS => ?_)
    refine lv_if_eq (tgt := 157) hx hb dL_law_82 (by decide) (fun c16 => ?_) (fun c16 => ?_)
    · have h := o_t h c16
      refine lv_iconst (v := (0 : Int32)) hx hb dL_law_157 (by decide) ?_
      exact absurd (Option.some.inj h) (by decide)
    have h := o_f h c16
    refine lv_iload_n hx hb dL_law_85 rfl (lv_at hl 3 rfl) ?_
    refine lv_iconst (v := (2 : Int32)) hx hb dL_law_86 (by decide) ?_
    refine lv_irem hx hb dL_law_87 (by decide) ?_
    refine lv_if_ne (tgt := 121) hx hb dL_law_88 (by decide) (fun c17 => ?_) (fun c17 => ?_)
    · have h := o_f h c17
      exact L121 _ ih40 _ _ _ _ h _ _ hP hD hS _ (lv_sub hl [0, 1, 2, 3, 4] rfl)
    have h := o_t h c17
    refine lv_aload_n hx hb dL_law_91 rfl (lv_at hl 1 rfl) ?_
    refine lv_iconst (v := (1 : Int32)) hx hb dL_law_92 (by decide) ?_
    refine lv_iload hx hb dL_law_93 (lv_at hl 4 rfl) ?_
    refine lv_iconst (v := (3 : Int32)) hx hb dL_law_95 (by decide) ?_
    refine lv_ishr hx hb dL_law_96 ?_
    refine lv_bipush (v := (8 : Int32)) hx hb dL_law_97 (by decide) ?_
    obtain ⟨v30, g31, h⟩ := o_b h
    refine k_ro (va_runS (As := [.int (y4 >>> ((3 : Int32) &&& 31)), .int (8 : Int32)]) (rest := [.int (1 : Int32), .ref (a 0)]) ⟨hx, hb, hml, hown, hts⟩ (c_L_low l dC dI cI cF (y4 >>> ((3 : Int32) &&& 31)) (8 : Int32) v30 g31) (va_cwS 2 hts gL_law_L_low rfl rfl rfl (by decide +kernel) ⟨Nat.le_of_ble_eq_true rfl, Nat.le_of_ble_eq_true rfl⟩) k_prePU rfl rfl hl.1 rfl (lv_room (Nat.le_of_ble_eq_true rfl)) dL_law_99 ⟨Nat.le_trans (m := 2000) (by omega) (Nat.le_of_ble_eq_true rfl), Nat.le_trans (m := 20000) (by omega) (Nat.le_of_ble_eq_true rfl)⟩) (st1 := [.int v30, .int (1 : Int32), .ref (a 0)]) rfl ?_
    refine lv_iadd hx hb dL_law_102 ?_
    refine lv_iconst (v := (1 : Int32)) hx hb dL_law_103 (by decide) ?_
    refine lv_iload hx hb dL_law_104 (lv_at hl 4 rfl) ?_
    refine lv_bipush (v := (6 : Int32)) hx hb dL_law_106 (by decide) ?_
    refine lv_ishr hx hb dL_law_108 ?_
    refine lv_bipush (v := (8 : Int32)) hx hb dL_law_109 (by decide) ?_
    obtain ⟨v32, g33, h⟩ := o_b h
    refine k_ro (va_runS (As := [.int (y4 >>> ((6 : Int32) &&& 31)), .int (8 : Int32)]) (rest := [.int (1 : Int32), .int ((1 : Int32) + v30), .ref (a 0)]) ⟨hx, hb, hml, hown, hts⟩ (c_L_low l dC dI cI cF (y4 >>> ((6 : Int32) &&& 31)) (8 : Int32) v32 g33) (va_cwS 2 hts gL_law_L_low rfl rfl rfl (by decide +kernel) ⟨Nat.le_of_ble_eq_true rfl, Nat.le_of_ble_eq_true rfl⟩) k_prePU rfl rfl hl.1 rfl (lv_room (Nat.le_of_ble_eq_true rfl)) dL_law_111 ⟨Nat.le_trans (m := 2000) (by omega) (Nat.le_of_ble_eq_true rfl), Nat.le_trans (m := 20000) (by omega) (Nat.le_of_ble_eq_true rfl)⟩) (st1 := [.int v32, .int (1 : Int32), .int ((1 : Int32) + v30), .ref (a 0)]) rfl ?_
    refine lv_iadd hx hb dL_law_114 ?_
    obtain ⟨v34, g35, h⟩ := o_b h
    refine k_rwL (va_runS (As := [.ref (a 0), .int ((1 : Int32) + v30), .int ((1 : Int32) + v32)]) (rest := []) ⟨hx, hb, hml, hown, hts⟩ (c_L_isRunSo l dC dI cI cF a v14.2 ((1 : Int32) + v30) ((1 : Int32) + v32) v34 g35 H.size) (va_cwS 3 hts gL_law_L_isRunSo rfl rfl rfl (by decide +kernel) ⟨Nat.le_of_ble_eq_true rfl, Nat.le_of_ble_eq_true rfl⟩) (k_preSLw hK hP hD (LN_id (fX5 a cI cF v14.2 v34.2))) rfl rfl hl.1 rfl (lv_room (Nat.le_of_ble_eq_true rfl)) dL_law_115 ⟨Nat.le_trans (m := 2000) (by omega) (Nat.le_of_ble_eq_true rfl), Nat.le_trans (m := 20000) (by omega) (Nat.le_of_ble_eq_true rfl)⟩) (st1 := [.int v34.1]) rfl hP hD hS hA (wn := wX5 a cI cF v34.2) (LN_id (fX5 a cI cF v14.2 v34.2)) (fun H locs hP hD hS => ?_)
    refine lv_if_eq (tgt := 157) hx hb dL_law_118 (by decide) (fun c36 => ?_) (fun c36 => ?_)
    rotate_left
    · have h := o_f h c36
      exact L121 _ ih40 _ _ _ _ h _ _ hP hD hS _ (lv_sub hl [0, 1, 2, 3, 4] rfl)
    have h := o_t h c36
    refine lv_iconst (v := (0 : Int32)) hx hb dL_law_157 (by decide) ?_
    exact absurd (Option.some.inj h) (by decide)
  have L40 : ∀ (n : Nat), ∀ (y2 : Int32) (y3 : Int32) (S : S_X5), m_L_law_L40 L xs n y2 y3 S = some 1 → ∀ (H : Heap) (locs : List Loc), va_P (dC, dI) vwCl (wX5 a cI cF S) H → va_D (fun q => s.heap.size ≤ q) (wX5 a cI cF S) → va_S (fun q => s.heap.size ≤ q) s.heap H locs → ∀ (ls : Array Slot), lv_has ls 5 [(0, .ref bq), (1, .ref (a 0)), (2, .int y2), (3, .int y3)] → W p l e room_1 s m #[Value.ref bq] below meth c H locs ce sl (lw_Z below #[Value.ref bq] s) (F0 m 40 ls []) := by
    intro  n
    induction n with
    | zero =>
      intro y2 y3 S h
      exact (o_0 h).elim
    | succ n ih40 =>
      intro y2 y3 S h H locs hP hD hS ls hl
      rw [m_L_law_L40] at h
      refine lv_iload_n hx hb dL_law_40 rfl (lv_at hl 3 rfl) ?_
      refine lv_bipush (v := (48 : Int32)) hx hb dL_law_41 (by decide) ?_
      refine lv_icmp_ge (tgt := 165) hx hb dL_law_43 (by decide) (fun c6 => ?_) (fun c6 => ?_)
      · have h := o_t h c6
        refine lv_iload_n hx hb dL_law_165 rfl (lv_at hl 2 rfl) ?_
        refine lv_if_ne (tgt := 173) hx hb dL_law_166 (by decide) (fun c7 => ?_) (fun c7 => ?_)
        · have h := o_f h c7
          refine lv_iconst (v := (0 : Int32)) hx hb dL_law_173 (by decide) ?_
          exact absurd (Option.some.inj h) (by decide)
        have h := o_t h c7
        refine lv_iconst (v := (1 : Int32)) hx hb dL_law_169 (by decide) ?_
        refine lv_goto (tgt := 174) hx hb dL_law_170 (by decide) ?_
        refine va_forget (fun q hq => hS.2.2 q hq) ?_
        refine W.widen (k := 600172) (n := 7300668) (by omega) (by omega) ?_
        exact lw_ret (d0 := s.drawn) (Drawn.sameBut.refl s.drawn lw_cs) hx hb hr hlocks dL_law_174
      have h := o_f h c6
      refine lv_aload_n hx hb dL_law_46 rfl (lv_at hl 0 rfl) ?_
      refine lv_iload_n hx hb dL_law_47 rfl (lv_at hl 3 rfl) ?_
      refine lv_iconst (v := (3 : Int32)) hx hb dL_law_48 (by decide) ?_
      refine lv_iadd hx hb dL_law_49 ?_
      obtain ⟨v8, g9, h⟩ := o_b h
      refine k_ro (va_runS (As := [.ref bq, .int (y3 + (3 : Int32))]) (rest := []) ⟨hx, hb, hml, hown, hts⟩ (c_L_cell l bq L xs (y3 + (3 : Int32)) v8 g9) (va_cwS 2 hts gL_law_L_cell rfl rfl rfl (by decide +kernel) ⟨Nat.le_of_ble_eq_true rfl, Nat.le_of_ble_eq_true rfl⟩) (k_preSX hX hbl hbA hS) rfl rfl hl.1 rfl (lv_room (Nat.le_of_ble_eq_true rfl)) dL_law_50 ⟨Nat.le_trans (m := 2000) (by omega) (Nat.le_of_ble_eq_true rfl), Nat.le_trans (m := 20000) (by omega) (Nat.le_of_ble_eq_true rfl)⟩) (st1 := [.int v8]) rfl ?_
      refine lv_istore (lv' := [(4, .int v8), (0, .ref bq), (1, .ref (a 0)), (2, .int y2), (3, .int y3)]) hx hb dL_law_53 hl (by decide) rfl (fun ls hl => ?_)
      refine lv_aload_n hx hb dL_law_55 rfl (lv_at hl 2 rfl) ?_
      refine lv_iload hx hb dL_law_56 (lv_at hl 0 rfl) ?_
      obtain ⟨v10, g11, h⟩ := o_b h
      refine k_rwL (va_runS (As := [.ref (a 0), .int v8]) (rest := []) ⟨hx, hb, hml, hown, hts⟩ (c_L_does l dC dI cI cF a S v8 v10 g11 H.size) (va_cwS 2 hts gL_law_L_does rfl rfl rfl (by decide +kernel) ⟨Nat.le_of_ble_eq_true rfl, Nat.le_of_ble_eq_true rfl⟩) (k_preSLwe hE hS hA hK hP hD (LN_id (fX5 a cI cF S v10.2))) rfl rfl hl.1 rfl (lv_room (Nat.le_of_ble_eq_true rfl)) dL_law_58 ⟨Nat.le_trans (m := 2000) (by omega) (Nat.le_of_ble_eq_true rfl), Nat.le_trans (m := 20000) (by omega) (Nat.le_of_ble_eq_true rfl)⟩) (st1 := [.int v10.1]) rfl hP hD hS hA (wn := wX5 a cI cF v10.2) (LN_id (fX5 a cI cF S v10.2)) (fun H locs hP hD hS => ?_)
      refine lv_if_lt (tgt := 157) hx hb dL_law_61 (by decide) (fun c12 => ?_) (fun c12 => ?_)
      · have h := o_t h c12
        refine lv_iconst (v := (0 : Int32)) hx hb dL_law_157 (by decide) ?_
        exact absurd (Option.some.inj h) (by decide)
      have h := o_f h c12
      refine lv_iload_n hx hb dL_law_64 rfl (lv_at hl 4 rfl) ?_
      refine lv_iconst (v := (3 : Int32)) hx hb dL_law_65 (by decide) ?_
      refine lv_irem hx hb dL_law_66 (by decide) ?_
      refine lv_iconst (v := (1 : Int32)) hx hb dL_law_67 (by decide) ?_
      refine lv_icmp_ne (tgt := 78) hx hb dL_law_68 (by decide) (fun c13 => ?_) (fun c13 => ?_)
      · have h := o_f h c13
        exact L78 _ ih40 _ _ _ _ h _ _ hP hD hS _ (lv_sub hl [1, 2, 3, 4, 0] rfl)
      have h := o_t h c13
      refine lv_aload_n hx hb dL_law_71 rfl (lv_at hl 2 rfl) ?_
      obtain ⟨v37, g38, h⟩ := o_b h
      refine k_ro (va_runS (As := [.ref (a 0)]) (rest := []) ⟨hx, hb, hml, hown, hts⟩ (c_L_areCansSo l dC dI cI cF a v10.2  v37 g38) (va_cwS 1 hts gL_law_L_areCansSo rfl rfl rfl (by decide +kernel) ⟨Nat.le_of_ble_eq_true rfl, Nat.le_of_ble_eq_true rfl⟩) (k_preS hK (LN.P (LN_id (fX5 a cI cF v10.2 v10.2)) hP)) rfl rfl hl.1 rfl (lv_room (Nat.le_of_ble_eq_true rfl)) dL_law_72 ⟨Nat.le_trans (m := 2000) (by omega) (Nat.le_of_ble_eq_true rfl), Nat.le_trans (m := 20000) (by omega) (Nat.le_of_ble_eq_true rfl)⟩) (st1 := [.int v37]) rfl ?_
      refine lv_if_eq (tgt := 157) hx hb dL_law_75 (by decide) (fun c39 => ?_) (fun c39 => ?_)
      rotate_left
      · have h := o_f h c39
        exact L78 _ ih40 _ _ _ _ h _ _ hP hD hS _ (lv_sub hl [1, 2, 3, 4, 0] rfl)
      have h := o_t h c39
      refine lv_iconst (v := (0 : Int32)) hx hb dL_law_157 (by decide) ?_
      exact absurd (Option.some.inj h) (by decide)
  have L10 : ∀ (n : Nat), ∀ (y2 : Int32) (S : S_X5), m_L_law_L10 L xs n y2 S = some 1 → ∀ (H : Heap) (locs : List Loc), va_P (dC, dI) vwCl (wX5 a cI cF S) H → va_D (fun q => s.heap.size ≤ q) (wX5 a cI cF S) → va_S (fun q => s.heap.size ≤ q) s.heap H locs → ∀ (ls : Array Slot), lv_has ls 5 [(0, .ref bq), (1, .ref (a 0)), (2, .int y2)] → W p l e room_1 s m #[Value.ref bq] below meth c H locs ce sl (lw_Z below #[Value.ref bq] s) (F0 m 10 ls []) := by
    intro  n
    induction n with
    | zero =>
      intro y2 S h
      exact (o_0 h).elim
    | succ n ih10 =>
      intro y2 S h H locs hP hD hS ls hl
      rw [m_L_law_L10] at h
      refine lv_iload_n hx hb dL_law_10 rfl (lv_at hl 2 rfl) ?_
      refine lv_iconst (v := (3 : Int32)) hx hb dL_law_11 (by decide) ?_
      refine lv_icmp_ge (tgt := 31) hx hb dL_law_12 (by decide) (fun c1 => ?_) (fun c1 => ?_)
      · have h := o_t h c1
        refine lv_aload_n hx hb dL_law_31 rfl (lv_at hl 1 rfl) ?_
        refine lv_bipush (v := (7 : Int32)) hx hb dL_law_32 (by decide) ?_
        obtain ⟨v2, g3, h⟩ := o_b h
        have g3 := o_R_ g3
        refine k_rwL (va_runV (As := [.int (7 : Int32)]) (rest := []) ⟨hx, hb, hml, hown, hts⟩ (c_X5_feed l dC dI cI cF a S (7 : Int32) v2 g3 H.size) (cwV 1 hts gL_law_X5_feed rfl rfl rfl (by decide +kernel) ⟨Nat.le_of_ble_eq_true rfl, Nat.le_of_ble_eq_true rfl⟩) (k_preLw (q0 := 0) (ci := 5) hK hP hD (LN_id (fX5 a cI cF S v2.2)) rfl rfl rfl) rfl rfl hl.1 rfl (lv_room (Nat.le_of_ble_eq_true rfl)) dL_law_34 ⟨Nat.le_trans (m := 2000) (by omega) (Nat.le_of_ble_eq_true rfl), Nat.le_trans (m := 20000) (by omega) (Nat.le_of_ble_eq_true rfl)⟩) (st1 := [.int v2.1]) rfl hP hD hS hA (wn := wX5 a cI cF v2.2) (LN_id (fX5 a cI cF S v2.2)) (fun H locs hP hD hS => ?_)
        obtain ⟨x2_4, e5, h⟩ := o_n h
        refine lv_nmi e5 ?_
        refine lv_istore_n (lv' := [(2, .int x2_4), (0, .ref bq), (1, .ref (a 0))]) hx hb dL_law_37 rfl hl (by decide) rfl (fun ls hl => ?_)
        refine lv_iconst (v := (0 : Int32)) hx hb dL_law_38 (by decide) ?_
        refine lv_istore_n (lv' := [(3, .int (0 : Int32)), (2, .int x2_4), (0, .ref bq), (1, .ref (a 0))]) hx hb dL_law_39 rfl hl (by decide) rfl (fun ls hl => ?_)
        exact L40 _ _ _ _ h _ _ hP hD hS _ (lv_sub hl [2, 3, 1, 0] rfl)
      have h := o_f h c1
      refine lv_aload_n hx hb dL_law_15 rfl (lv_at hl 1 rfl) ?_
      refine lv_iload_n hx hb dL_law_16 rfl (lv_at hl 2 rfl) ?_
      refine lv_aload_n hx hb dL_law_17 rfl (lv_at hl 0 rfl) ?_
      refine lv_iload_n hx hb dL_law_18 rfl (lv_at hl 2 rfl) ?_
      obtain ⟨v40, g41, h⟩ := o_b h
      refine k_ro (va_runS (As := [.ref bq, .int y2]) (rest := [.int y2, .ref (a 0)]) ⟨hx, hb, hml, hown, hts⟩ (c_L_cell l bq L xs y2 v40 g41) (va_cwS 2 hts gL_law_L_cell rfl rfl rfl (by decide +kernel) ⟨Nat.le_of_ble_eq_true rfl, Nat.le_of_ble_eq_true rfl⟩) (k_preSX hX hbl hbA hS) rfl rfl hl.1 rfl (lv_room (Nat.le_of_ble_eq_true rfl)) dL_law_19 ⟨Nat.le_trans (m := 2000) (by omega) (Nat.le_of_ble_eq_true rfl), Nat.le_trans (m := 20000) (by omega) (Nat.le_of_ble_eq_true rfl)⟩) (st1 := [.int v40, .int y2, .ref (a 0)]) rfl ?_
      obtain ⟨v42, g43, h⟩ := o_b h
      refine k_rwL (va_runS (As := [.ref (a 0), .int y2, .int v40]) (rest := []) ⟨hx, hb, hml, hown, hts⟩ (c_L_fill l dC dI cI cF a S y2 v40 v42 g43 H.size) (va_cwS 3 hts gL_law_L_fill rfl rfl rfl (by decide +kernel) ⟨Nat.le_of_ble_eq_true rfl, Nat.le_of_ble_eq_true rfl⟩) (k_preSLw hK hP hD (LN_id (fX5 a cI cF S v42))) rfl rfl hl.1 rfl (lv_room (Nat.le_of_ble_eq_true rfl)) dL_law_22 ⟨Nat.le_trans (m := 2000) (by omega) (Nat.le_of_ble_eq_true rfl), Nat.le_trans (m := 20000) (by omega) (Nat.le_of_ble_eq_true rfl)⟩) (st1 := []) rfl hP hD hS hA (wn := wX5 a cI cF v42) (LN_id (fX5 a cI cF S v42)) (fun H locs hP hD hS => ?_)
      obtain ⟨x2_44, e45, h⟩ := o_n h
      refine lv_iinc (v := x2_44) (lv' := [(2, .int x2_44), (0, .ref bq), (1, .ref (a 0))]) hx hb dL_law_25 hl (k := 2) rfl (by rw [e45]; rfl) (by decide) rfl (fun ls hl => ?_)
      refine lv_goto (tgt := 10) hx hb dL_law_28 (by decide) ?_
      exact ih10 _ _ h _ _ hP hD hS _ (lv_sub hl [1, 2, 0] rfl)
  rw [m_L_law] at h
  refine lv_iconst (v := (0 : Int32)) hx hb dL_law_8 (by decide) ?_
  refine lv_istore_n (lv' := [(2, .int (0 : Int32)), (1, .ref (a 0)), (0, .ref bq)]) hx hb dL_law_9 rfl hl (by decide) rfl (fun ls hl => ?_)
  exact L10 _ _ _ h _ _ hP hD hS _ (lv_sub hl [2, 1, 0] rfl)
