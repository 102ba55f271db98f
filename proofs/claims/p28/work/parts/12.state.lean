/-! states: of each class its components in the order of the fields (g_ reads, s_ writes one), and the cells that hold them -/
abbrev S_X0 : Type := (Nat → Int32) × (Nat → Int32)
abbrev g_X0_weights (S : S_X0) : (Nat → Int32) := S.1
abbrev g_X0_sizes (S : S_X0) : (Nat → Int32) := S.2
abbrev s_X0_weights (S : S_X0) (v : (Nat → Int32)) : S_X0 := (v, S.2)
abbrev s_X0_sizes (S : S_X0) (v : (Nat → Int32)) : S_X0 := (S.1, v)
abbrev oX0 (a : Nat → Nat) (S : S_X0) : Nat × va_E := (a 0, .inr (0, [.ref (a 1), .ref (a 2)]))
def wX0 (a : Nat → Nat) (cI cF : ClassId) (S : S_X0) : va_W := [oX0 a S] ++ [(a 1, .inl (cI, 320, .inl (g_X0_weights S)))] ++ [(a 2, .inl (cI, 8, .inl (g_X0_sizes S)))]
abbrev S_X1 : Type := (Nat → Int32) × Int32
abbrev g_X1_feeds (S : S_X1) : (Nat → Int32) := S.1
abbrev g_X1_remembered (S : S_X1) : Int32 := S.2
abbrev s_X1_feeds (S : S_X1) (v : (Nat → Int32)) : S_X1 := (v, S.2)
abbrev s_X1_remembered (S : S_X1) (v : Int32) : S_X1 := (S.1, v)
abbrev oX1 (a : Nat → Nat) (S : S_X1) : Nat × va_E := (a 0, .inr (1, [.ref (a 1), .int (g_X1_remembered S)]))
def wX1 (a : Nat → Nat) (cI cF : ClassId) (S : S_X1) : va_W := [oX1 a S] ++ [(a 1, .inl (cI, 7, .inl (g_X1_feeds S)))]
abbrev S_X2 : Type := S_X0 × S_X1 × (Nat → Int32) × Int32 × Int32 × Int32 × Int32 × Int32 × Int32 × Int32 × Int32 × Int32
abbrev g_X2_cans (S : S_X2) : S_X0 := S.1
abbrev g_X2_feeler (S : S_X2) : S_X1 := S.2.1
abbrev g_X2_settings (S : S_X2) : (Nat → Int32) := S.2.2.1
abbrev g_X2_fed (S : S_X2) : Int32 := S.2.2.2.1
abbrev g_X2_taker (S : S_X2) : Int32 := S.2.2.2.2.1
abbrev g_X2_stopped (S : S_X2) : Int32 := S.2.2.2.2.2.1
abbrev g_X2_steps (S : S_X2) : Int32 := S.2.2.2.2.2.2.1
abbrev g_X2_latestDraft (S : S_X2) : Int32 := S.2.2.2.2.2.2.2.1
abbrev g_X2_lapped (S : S_X2) : Int32 := S.2.2.2.2.2.2.2.2.1
abbrev g_X2_waste (S : S_X2) : Int32 := S.2.2.2.2.2.2.2.2.2.1
abbrev g_X2_filled (S : S_X2) : Int32 := S.2.2.2.2.2.2.2.2.2.2.1
abbrev g_X2_cameOut (S : S_X2) : Int32 := S.2.2.2.2.2.2.2.2.2.2.2
abbrev s_X2_cans (S : S_X2) (v : S_X0) : S_X2 := (v, S.2.1, S.2.2.1, S.2.2.2.1, S.2.2.2.2.1, S.2.2.2.2.2.1, S.2.2.2.2.2.2.1, S.2.2.2.2.2.2.2.1, S.2.2.2.2.2.2.2.2.1, S.2.2.2.2.2.2.2.2.2.1, S.2.2.2.2.2.2.2.2.2.2.1, S.2.2.2.2.2.2.2.2.2.2.2)
abbrev s_X2_feeler (S : S_X2) (v : S_X1) : S_X2 := (S.1, v, S.2.2.1, S.2.2.2.1, S.2.2.2.2.1, S.2.2.2.2.2.1, S.2.2.2.2.2.2.1, S.2.2.2.2.2.2.2.1, S.2.2.2.2.2.2.2.2.1, S.2.2.2.2.2.2.2.2.2.1, S.2.2.2.2.2.2.2.2.2.2.1, S.2.2.2.2.2.2.2.2.2.2.2)
abbrev s_X2_settings (S : S_X2) (v : (Nat → Int32)) : S_X2 := (S.1, S.2.1, v, S.2.2.2.1, S.2.2.2.2.1, S.2.2.2.2.2.1, S.2.2.2.2.2.2.1, S.2.2.2.2.2.2.2.1, S.2.2.2.2.2.2.2.2.1, S.2.2.2.2.2.2.2.2.2.1, S.2.2.2.2.2.2.2.2.2.2.1, S.2.2.2.2.2.2.2.2.2.2.2)
abbrev s_X2_fed (S : S_X2) (v : Int32) : S_X2 := (S.1, S.2.1, S.2.2.1, v, S.2.2.2.2.1, S.2.2.2.2.2.1, S.2.2.2.2.2.2.1, S.2.2.2.2.2.2.2.1, S.2.2.2.2.2.2.2.2.1, S.2.2.2.2.2.2.2.2.2.1, S.2.2.2.2.2.2.2.2.2.2.1, S.2.2.2.2.2.2.2.2.2.2.2)
abbrev s_X2_taker (S : S_X2) (v : Int32) : S_X2 := (S.1, S.2.1, S.2.2.1, S.2.2.2.1, v, S.2.2.2.2.2.1, S.2.2.2.2.2.2.1, S.2.2.2.2.2.2.2.1, S.2.2.2.2.2.2.2.2.1, S.2.2.2.2.2.2.2.2.2.1, S.2.2.2.2.2.2.2.2.2.2.1, S.2.2.2.2.2.2.2.2.2.2.2)
abbrev s_X2_stopped (S : S_X2) (v : Int32) : S_X2 := (S.1, S.2.1, S.2.2.1, S.2.2.2.1, S.2.2.2.2.1, v, S.2.2.2.2.2.2.1, S.2.2.2.2.2.2.2.1, S.2.2.2.2.2.2.2.2.1, S.2.2.2.2.2.2.2.2.2.1, S.2.2.2.2.2.2.2.2.2.2.1, S.2.2.2.2.2.2.2.2.2.2.2)
abbrev s_X2_steps (S : S_X2) (v : Int32) : S_X2 := (S.1, S.2.1, S.2.2.1, S.2.2.2.1, S.2.2.2.2.1, S.2.2.2.2.2.1, v, S.2.2.2.2.2.2.2.1, S.2.2.2.2.2.2.2.2.1, S.2.2.2.2.2.2.2.2.2.1, S.2.2.2.2.2.2.2.2.2.2.1, S.2.2.2.2.2.2.2.2.2.2.2)
abbrev s_X2_latestDraft (S : S_X2) (v : Int32) : S_X2 := (S.1, S.2.1, S.2.2.1, S.2.2.2.1, S.2.2.2.2.1, S.2.2.2.2.2.1, S.2.2.2.2.2.2.1, v, S.2.2.2.2.2.2.2.2.1, S.2.2.2.2.2.2.2.2.2.1, S.2.2.2.2.2.2.2.2.2.2.1, S.2.2.2.2.2.2.2.2.2.2.2)
abbrev s_X2_lapped (S : S_X2) (v : Int32) : S_X2 := (S.1, S.2.1, S.2.2.1, S.2.2.2.1, S.2.2.2.2.1, S.2.2.2.2.2.1, S.2.2.2.2.2.2.1, S.2.2.2.2.2.2.2.1, v, S.2.2.2.2.2.2.2.2.2.1, S.2.2.2.2.2.2.2.2.2.2.1, S.2.2.2.2.2.2.2.2.2.2.2)
abbrev s_X2_waste (S : S_X2) (v : Int32) : S_X2 := (S.1, S.2.1, S.2.2.1, S.2.2.2.1, S.2.2.2.2.1, S.2.2.2.2.2.1, S.2.2.2.2.2.2.1, S.2.2.2.2.2.2.2.1, S.2.2.2.2.2.2.2.2.1, v, S.2.2.2.2.2.2.2.2.2.2.1, S.2.2.2.2.2.2.2.2.2.2.2)
abbrev s_X2_filled (S : S_X2) (v : Int32) : S_X2 := (S.1, S.2.1, S.2.2.1, S.2.2.2.1, S.2.2.2.2.1, S.2.2.2.2.2.1, S.2.2.2.2.2.2.1, S.2.2.2.2.2.2.2.1, S.2.2.2.2.2.2.2.2.1, S.2.2.2.2.2.2.2.2.2.1, v, S.2.2.2.2.2.2.2.2.2.2.2)
abbrev s_X2_cameOut (S : S_X2) (v : Int32) : S_X2 := (S.1, S.2.1, S.2.2.1, S.2.2.2.1, S.2.2.2.2.1, S.2.2.2.2.2.1, S.2.2.2.2.2.2.1, S.2.2.2.2.2.2.2.1, S.2.2.2.2.2.2.2.2.1, S.2.2.2.2.2.2.2.2.2.1, S.2.2.2.2.2.2.2.2.2.2.1, v)
abbrev oX2 (a : Nat → Nat) (S : S_X2) : Nat × va_E := (a 0, .inr (2, [.ref (a 1), .ref (a 4), .ref (a 6), .int (g_X2_fed S), .int (g_X2_taker S), .int (g_X2_stopped S), .int (g_X2_steps S), .int (g_X2_latestDraft S), .int (g_X2_lapped S), .int (g_X2_waste S), .int (g_X2_filled S), .int (g_X2_cameOut S)]))
def wX2 (a : Nat → Nat) (cI cF : ClassId) (S : S_X2) : va_W := [oX2 a S] ++ wX0 (fun i => a (i + 1)) cI cF (g_X2_cans S) ++ wX1 (fun i => a (i + 4)) cI cF (g_X2_feeler S) ++ [(a 6, .inl (cI, 5, .inl (g_X2_settings S)))]
abbrev S_X3 : Type := (Nat → S_X2) × Int32 × Int32
abbrev g_X3_rows (S : S_X3) : (Nat → S_X2) := S.1
abbrev g_X3_oldest (S : S_X3) : Int32 := S.2.1
abbrev g_X3_saved (S : S_X3) : Int32 := S.2.2
abbrev s_X3_rows (S : S_X3) (v : (Nat → S_X2)) : S_X3 := (v, S.2.1, S.2.2)
abbrev s_X3_oldest (S : S_X3) (v : Int32) : S_X3 := (S.1, v, S.2.2)
abbrev s_X3_saved (S : S_X3) (v : Int32) : S_X3 := (S.1, S.2.1, v)
abbrev oX3 (a : Nat → Nat) (S : S_X3) : Nat × va_E := (a 0, .inr (3, [.ref (a 1), .int (g_X3_oldest S), .int (g_X3_saved S)]))
def wX3 (a : Nat → Nat) (cI cF : ClassId) (S : S_X3) : va_W := [oX3 a S] ++ [(a 1, .inl (cF, 6, .inr (.inr (.inr (.inr (fun i => some (a (2 + 7 * i))))))))] ++ wX2 (fun i => a (i + 2)) cI cF (g_X3_rows S 0) ++ wX2 (fun i => a (i + 9)) cI cF (g_X3_rows S 1) ++ wX2 (fun i => a (i + 16)) cI cF (g_X3_rows S 2) ++ wX2 (fun i => a (i + 23)) cI cF (g_X3_rows S 3) ++ wX2 (fun i => a (i + 30)) cI cF (g_X3_rows S 4) ++ wX2 (fun i => a (i + 37)) cI cF (g_X3_rows S 5)
abbrev S_X4 : Type := (Nat → Int32) × Int32 × (Nat → Int32) × (Nat → Int32) × Int32 × Int32 × Int32 × Int32 × Int32
abbrev g_X4_codes (S : S_X4) : (Nat → Int32) := S.1
abbrev g_X4_length (S : S_X4) : Int32 := S.2.1
abbrev g_X4_partWeights (S : S_X4) : (Nat → Int32) := S.2.2.1
abbrev g_X4_partTimes (S : S_X4) : (Nat → Int32) := S.2.2.2.1
abbrev g_X4_parts (S : S_X4) : Int32 := S.2.2.2.2.1
abbrev g_X4_inTimes (S : S_X4) : Int32 := S.2.2.2.2.2.1
abbrev g_X4_digits (S : S_X4) : Int32 := S.2.2.2.2.2.2.1
abbrev g_X4_value (S : S_X4) : Int32 := S.2.2.2.2.2.2.2.1
abbrev g_X4_weight (S : S_X4) : Int32 := S.2.2.2.2.2.2.2.2
abbrev s_X4_codes (S : S_X4) (v : (Nat → Int32)) : S_X4 := (v, S.2.1, S.2.2.1, S.2.2.2.1, S.2.2.2.2.1, S.2.2.2.2.2.1, S.2.2.2.2.2.2.1, S.2.2.2.2.2.2.2.1, S.2.2.2.2.2.2.2.2)
abbrev s_X4_length (S : S_X4) (v : Int32) : S_X4 := (S.1, v, S.2.2.1, S.2.2.2.1, S.2.2.2.2.1, S.2.2.2.2.2.1, S.2.2.2.2.2.2.1, S.2.2.2.2.2.2.2.1, S.2.2.2.2.2.2.2.2)
abbrev s_X4_partWeights (S : S_X4) (v : (Nat → Int32)) : S_X4 := (S.1, S.2.1, v, S.2.2.2.1, S.2.2.2.2.1, S.2.2.2.2.2.1, S.2.2.2.2.2.2.1, S.2.2.2.2.2.2.2.1, S.2.2.2.2.2.2.2.2)
abbrev s_X4_partTimes (S : S_X4) (v : (Nat → Int32)) : S_X4 := (S.1, S.2.1, S.2.2.1, v, S.2.2.2.2.1, S.2.2.2.2.2.1, S.2.2.2.2.2.2.1, S.2.2.2.2.2.2.2.1, S.2.2.2.2.2.2.2.2)
abbrev s_X4_parts (S : S_X4) (v : Int32) : S_X4 := (S.1, S.2.1, S.2.2.1, S.2.2.2.1, v, S.2.2.2.2.2.1, S.2.2.2.2.2.2.1, S.2.2.2.2.2.2.2.1, S.2.2.2.2.2.2.2.2)
abbrev s_X4_inTimes (S : S_X4) (v : Int32) : S_X4 := (S.1, S.2.1, S.2.2.1, S.2.2.2.1, S.2.2.2.2.1, v, S.2.2.2.2.2.2.1, S.2.2.2.2.2.2.2.1, S.2.2.2.2.2.2.2.2)
abbrev s_X4_digits (S : S_X4) (v : Int32) : S_X4 := (S.1, S.2.1, S.2.2.1, S.2.2.2.1, S.2.2.2.2.1, S.2.2.2.2.2.1, v, S.2.2.2.2.2.2.2.1, S.2.2.2.2.2.2.2.2)
abbrev s_X4_value (S : S_X4) (v : Int32) : S_X4 := (S.1, S.2.1, S.2.2.1, S.2.2.2.1, S.2.2.2.2.1, S.2.2.2.2.2.1, S.2.2.2.2.2.2.1, v, S.2.2.2.2.2.2.2.2)
abbrev s_X4_weight (S : S_X4) (v : Int32) : S_X4 := (S.1, S.2.1, S.2.2.1, S.2.2.2.1, S.2.2.2.2.1, S.2.2.2.2.2.1, S.2.2.2.2.2.2.1, S.2.2.2.2.2.2.2.1, v)
abbrev oX4 (a : Nat → Nat) (S : S_X4) : Nat × va_E := (a 0, .inr (4, [.ref (a 1), .int (g_X4_length S), .ref (a 2), .ref (a 3), .int (g_X4_parts S), .int (g_X4_inTimes S), .int (g_X4_digits S), .int (g_X4_value S), .int (g_X4_weight S)]))
def wX4 (a : Nat → Nat) (cI cF : ClassId) (S : S_X4) : va_W := [oX4 a S] ++ [(a 1, .inl (cI, 60, .inl (g_X4_codes S)))] ++ [(a 2, .inl (cI, 60, .inl (g_X4_partWeights S)))] ++ [(a 3, .inl (cI, 60, .inl (g_X4_partTimes S)))]
abbrev S_X5 : Type := S_X2 × S_X2 × S_X2 × S_X3 × S_X4 × Int32
abbrev g_X5_frame (S : S_X5) : S_X2 := S.1
abbrev g_X5_snapshot (S : S_X5) : S_X2 := S.2.1
abbrev g_X5_trial (S : S_X5) : S_X2 := S.2.2.1
abbrev g_X5_history (S : S_X5) : S_X3 := S.2.2.2.1
abbrev g_X5_text (S : S_X5) : S_X4 := S.2.2.2.2.1
abbrev g_X5_hasSnapshot (S : S_X5) : Int32 := S.2.2.2.2.2
abbrev s_X5_frame (S : S_X5) (v : S_X2) : S_X5 := (v, S.2.1, S.2.2.1, S.2.2.2.1, S.2.2.2.2.1, S.2.2.2.2.2)
abbrev s_X5_snapshot (S : S_X5) (v : S_X2) : S_X5 := (S.1, v, S.2.2.1, S.2.2.2.1, S.2.2.2.2.1, S.2.2.2.2.2)
abbrev s_X5_trial (S : S_X5) (v : S_X2) : S_X5 := (S.1, S.2.1, v, S.2.2.2.1, S.2.2.2.2.1, S.2.2.2.2.2)
abbrev s_X5_history (S : S_X5) (v : S_X3) : S_X5 := (S.1, S.2.1, S.2.2.1, v, S.2.2.2.2.1, S.2.2.2.2.2)
abbrev s_X5_text (S : S_X5) (v : S_X4) : S_X5 := (S.1, S.2.1, S.2.2.1, S.2.2.2.1, v, S.2.2.2.2.2)
abbrev s_X5_hasSnapshot (S : S_X5) (v : Int32) : S_X5 := (S.1, S.2.1, S.2.2.1, S.2.2.2.1, S.2.2.2.2.1, v)
abbrev oX5 (a : Nat → Nat) (S : S_X5) : Nat × va_E := (a 0, .inr (5, [.ref (a 1), .ref (a 8), .ref (a 15), .ref (a 26), .ref (a 22), .int (g_X5_hasSnapshot S)]))
def wX5 (a : Nat → Nat) (cI cF : ClassId) (S : S_X5) : va_W := [oX5 a S] ++ wX2 (fun i => a (i + 1)) cI cF (g_X5_frame S) ++ wX2 (fun i => a (i + 8)) cI cF (g_X5_snapshot S) ++ wX2 (fun i => a (i + 15)) cI cF (g_X5_trial S) ++ wX4 (fun i => a (i + 22)) cI cF (g_X5_text S) ++ wX3 (fun i => a (i + 26)) cI cF (g_X5_history S)
abbrev S_X6 : Type := Int32
abbrev g_X6_ (S : S_X6) : Int32 := S
abbrev s_X6_ (S : S_X6) (v : Int32) : S_X6 := (v)
abbrev oX6 (a : Nat → Nat) (S : S_X6) : Nat × va_E := (a 0, .inr (6, [.int (g_X6_ S)]))
def wX6 (a : Nat → Nat) (cI cF : ClassId) (S : S_X6) : va_W := [oX6 a S]
def svn0 : Nat → Int32 := fun j => match j with
  | 0 => 0
  | 1 => 1
  | 2 => 1
  | 3 => 0
  | _ => 10
def svn1 : Nat → Int32 := fun j => match j with
  | 0 => 6
  | 1 => 8
  | 2 => 99
  | 3 => 1
  | _ => 999
/-- what the two static rows need of the memory beside the world -/
def xE (A : Nat → Prop) (H : Heap) (U : State) : Prop :=
  ∃ t0 t1 : Nat, va_Z RX5 "LEAST_VALUE" "[I" (.ref t0) A U H ∧ va_T .int t0 5 (fun j => .int (svn0 j)) A U H ∧ va_Z RX5 "MOST_VALUE" "[I" (.ref t1) A U H ∧ va_T .int t1 5 (fun j => .int (svn1 j)) A U H
theorem xE.to {A A' : Nat → Prop} {H H1 : Heap} {u U : State} (hW : u.WarmedH U.vm) (hq : ∀ a : Nat, a < H.size → ¬ A a → H1[a]? = H[a]?) (hA : ∀ q, A' q → A q) (h : xE A H u) : xE A' H1 U := by
  obtain ⟨t0, t1, h4, h5, h6, h7⟩ := h
  exact ⟨t0, t1, ((h4.moved hW.alike).kept hq).narrow hA, ((h5.moved hW.alike).kept hq).narrow hA, ((h6.moved hW.alike).kept hq).narrow hA, ((h7.moved hW.alike).kept hq).narrow hA⟩
abbrev pRWe (D : va_G) (cI cF : ClassId) (w : va_W) (sz : Nat) : State → Prop := fun U => pRW D cI cF w sz U ∧ xE (va_A w sz) U.heap U
abbrev cRWe (l : Launch) (D : va_G) (cI cF : ClassId) (y : MethodName) (ws : List Cond) (rm : Room) (As : List Value) (w w' : va_W) (v : Option Value) : Prop :=
  ∀ sz : Nat, Met l y ws rm (va_Pc As (pRWe D cI cF w sz)) (qRW D w' v (va_A w sz)) 0 0 (va_A w sz)
abbrev cPUe (l : Launch) (y : MethodName) (ws : List Cond) (rm : Room) (As : List Value) (v : Option Value) : Prop :=
  Met l y ws rm (va_Pc As (fun U => xE (fun _ => False) U.heap U)) (qRO v) 0 0 (fun _ => False)
theorem xE.calling {A : Nat → Prop} {U : State} (g : JFrame) (mk : MethodId) (a : Array Value) (h : xE A U.heap U) : xE A (U.calling g mk a).heap (U.calling g mk a) :=
  xE.to (u := U) (U := U.calling g mk a) (State.WarmedH.refl U) (fun _ _ _ => rfl) (fun _ h => h) h
theorem k_preE {s : State} {H : Heap} {A : Nat → Prop} {locs : List Loc} {As : List Value} (hE : xE A s.heap s) (hS : va_S A s.heap H locs) : PreS s H (va_Pc As (fun U => xE (fun _ => False) U.heap U)) As :=
  ⟨fun _ _ g mk q => ⟨q.1, q.2.calling g mk _⟩, fun U hU hW => ⟨rfl, xE.to hW (fun a h1 h2 => by rw [hU]; exact hS.2.1 a h1 h2) (fun _ h => h.elim) hE⟩⟩
def o_R {ξ α : Type} (x : Option (ξ ⊕ α)) : Option α := x.bind fun r => match r with
  | .inl _ => none
  | .inr a => some a
theorem o_R_ {ξ α : Type} {x : Option (ξ ⊕ α)} {u : α} (h : o_R x = some u) : x = some (.inr u) := by
  cases x with
  | none => cases h
  | some r => cases r with
    | inl _ => cases h
    | inr a => exact congrArg (fun z => some (Sum.inr z)) (Option.some.inj h)

