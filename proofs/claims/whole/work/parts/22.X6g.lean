-- X6_bitsOf X6_shortBitsOf X6_digest
def m_X6_bitsOf_L61 (y2 : Int64) (y4 : UInt64) : Option (Int64) := if (FP.dsub y4 FP.dconst1) &&& 0x7fffffffffffffff ≤ 0x7ff0000000000000 then (if (FP.dmul (FP.dsub y4 FP.dconst1) (4841369599423283200 : UInt64)) &&& 0x7fffffffffffffff ≤ 0x7ff0000000000000 then (some ((y2 * (4503599627370496 : Int64)) + (FP.d2l (FP.dmul (FP.dsub y4 FP.dconst1) (4841369599423283200 : UInt64))))) else none) else none
def m_X6_bitsOf_L37 : Nat → Int64 → UInt64 → Option (Int64)
  | 0, _, _ => none
  | n + 1, y2, y4 => if (Op.cmpValue (FP.dcmp y4 (4611686018427387904 : UInt64)) (.l : CmpOp)) < 0 then (m_X6_bitsOf_L61 y2 y4) else (if (FP.ddiv y4 (4611686018427387904 : UInt64)) &&& 0x7fffffffffffffff ≤ 0x7ff0000000000000 then (nmL (FP.ddiv y4 (4611686018427387904 : UInt64)) fun x4_9 => (nmL (y2 + (1 : Int64)) fun x2_11 => ((m_X6_bitsOf_L37 n) x2_11 x4_9))) else none)
def m_X6_bitsOf_L15 : Nat → Int64 → UInt64 → Option (Int64)
  | 0, _, _ => none
  | n + 1, y2, y4 => if 0 ≤ (Op.cmpValue (FP.dcmp y4 FP.dconst1) (.g : CmpOp)) then (m_X6_bitsOf_L37 4000 y2 y4) else (if (FP.dmul y4 (4611686018427387904 : UInt64)) &&& 0x7fffffffffffffff ≤ 0x7ff0000000000000 then (nmL (FP.dmul y4 (4611686018427387904 : UInt64)) fun x4_14 => (nmL (y2 - (1 : Int64)) fun x2_16 => ((m_X6_bitsOf_L15 n) x2_16 x4_14))) else none)
def m_X6_bitsOf (x0 : UInt64) : Option (Int64) := if (Op.cmpValue (FP.dcmp x0 FP.dconst0) (.l : CmpOp)) = 0 then (some (0 : Int64)) else (nmL ((1023 : Int64)) fun x2_2 => (m_X6_bitsOf_L15 4000 x2_2 x0))
set_option maxHeartbeats 4000000 in
set_option maxRecDepth 100000 in
theorem c_X6_bitsOf (l : Launch) (dC : Nat → ClassId) (dI : Nat → Nat → Nat) (cI cF : ClassId) (x0 : UInt64) (u : Int64) (h : m_X6_bitsOf x0 = some u) : cPU l yX6_bitsOf wsX6_bitsOf ({ frames := 0, cells := 0, slots := 0, locals := 0 } : Room) [.double x0] (some (.long u)) := by
  refine Met.ofW (cc := cX6_bitsOf) (maxL := 6) (ret := (some .long)) (by decide) rfl ?_
  intro p e s m args below meth c s₁ B hml hv
  obtain ⟨hargs, -⟩ := hv
  subst hargs
  have hx := B.exec
  have hb := B.bytes
  have hr := B.returns
  have hts := atoms_spec (ws := wsX6_bitsOf) B.pre
  have hown : s.vm.findClass RX6 = some m.cls := findClass_of_methodNamed B.named
  have hlocks := B.notSynchronized
  have w166 := hts (.constantLong RX6 166 (1023)) (List.mem_of_getElem? (i := 1) rfl)
  have w168 := hts (.constantDouble RX6 168 (4611686018427387904)) (List.mem_of_getElem? (i := 2) rfl)
  have w170 := hts (.constantLong RX6 170 (4503599627370496)) (List.mem_of_getElem? (i := 3) rfl)
  have w172 := hts (.constantDouble RX6 172 (4841369599423283200)) (List.mem_of_getElem? (i := 4) rfl)
  have L61 : ∀ (y2 : Int64) (y4 : UInt64), m_X6_bitsOf_L61 y2 y4 = some u → ∀ (ls : Array Slot), lv_has ls 6 [(2, .long y2), (4, .double y4)] → W p l e (headSpec wsX6_bitsOf ({ frames := 0, cells := 0, slots := 0, locals := 0 } : Room)).room s m ([.double x0] : List Value).toArray below meth c s.heap [] 0 0 (MQ below (qRO (some (.long u))) ([.double x0] : List Value).toArray s 0 0 (fun _ => False)) (F0 m 61 ls []) := by
    intro  y2 y4 h ls hl
    rw [m_X6_bitsOf_L61] at h
    refine lv_lload_n hx hb dX6_bitsOf_61 rfl (lv_at hl 0 rfl) ?_
    refine lv_ldc2 hx hb hown w170 dX6_bitsOf_62 ?_
    refine lv_lmul hx hb dX6_bitsOf_65 ?_
    refine lv_dload hx hb dX6_bitsOf_66 (lv_at hl 1 rfl) ?_
    refine lv_dconst1 hx hb dX6_bitsOf_68 ?_
    obtain ⟨i6, h⟩ := o_ok h
    refine lv_dsub hx hb dX6_bitsOf_69 i6 ?_
    refine lv_ldc2d hx hb hown w172 dX6_bitsOf_70 ?_
    obtain ⟨i7, h⟩ := o_ok h
    refine lv_dmul hx hb dX6_bitsOf_73 i7 ?_
    refine lv_d2l hx hb dX6_bitsOf_74 ?_
    refine lv_ladd hx hb dX6_bitsOf_75 ?_
    have hu := Option.some.inj h
    exact W.lret (v := (y2 * (4503599627370496 : Int64)) + (FP.d2l (FP.dmul (FP.dsub y4 FP.dconst1) (4841369599423283200 : UInt64)))) hx hb hr (fun t ht hW => ⟨congrArg (fun z => Outcome.returned (some (Value.long z))) hu, ht⟩) (fun q hq => absurd hq List.not_mem_nil) dX6_bitsOf_76
  have L37 : ∀ (n : Nat), ∀ (y2 : Int64) (y4 : UInt64), m_X6_bitsOf_L37 n y2 y4 = some u → ∀ (ls : Array Slot), lv_has ls 6 [(2, .long y2), (4, .double y4)] → W p l e (headSpec wsX6_bitsOf ({ frames := 0, cells := 0, slots := 0, locals := 0 } : Room)).room s m ([.double x0] : List Value).toArray below meth c s.heap [] 0 0 (MQ below (qRO (some (.long u))) ([.double x0] : List Value).toArray s 0 0 (fun _ => False)) (F0 m 37 ls []) := by
    intro  n
    induction n with
    | zero =>
      intro y2 y4 h
      exact (o_0 h).elim
    | succ n ih37 =>
      intro y2 y4 h ls hl
      rw [m_X6_bitsOf_L37] at h
      refine lv_dload hx hb dX6_bitsOf_37 (lv_at hl 1 rfl) ?_
      refine lv_ldc2d hx hb hown w168 dX6_bitsOf_39 ?_
      refine lv_dcmp hx hb dX6_bitsOf_42 ?_
      refine lv_if_lt (tgt := 61) hx hb dX6_bitsOf_43 (by decide) (fun c5 => ?_) (fun c5 => ?_)
      · have h := o_t h c5
        exact L61 _ _ h _ (lv_sub hl [0, 1] rfl)
      have h := o_f h c5
      refine lv_dload hx hb dX6_bitsOf_46 (lv_at hl 1 rfl) ?_
      refine lv_ldc2d hx hb hown w168 dX6_bitsOf_48 ?_
      obtain ⟨i8, h⟩ := o_ok h
      refine lv_ddiv hx hb dX6_bitsOf_51 i8 ?_
      obtain ⟨x4_9, e10, h⟩ := o_n h
      refine lv_nmd e10 ?_
      refine lv_dstore (lv' := [(4, .double x4_9), (2, .long y2)]) hx hb dX6_bitsOf_52 hl (by decide) rfl (fun ls hl => ?_)
      refine lv_lload_n hx hb dX6_bitsOf_54 rfl (lv_at hl 1 rfl) ?_
      refine lv_lconst (v := 1) hx hb dX6_bitsOf_55 (by decide) ?_
      refine lv_ladd hx hb dX6_bitsOf_56 ?_
      obtain ⟨x2_11, e12, h⟩ := o_n h
      refine lv_nml e12 ?_
      refine lv_lstore_n (lv' := [(2, .long x2_11), (4, .double x4_9)]) hx hb dX6_bitsOf_57 rfl hl (by decide) rfl (fun ls hl => ?_)
      refine lv_goto (tgt := 37) hx hb dX6_bitsOf_58 (by decide) ?_
      exact ih37 _ _ h _ (lv_sub hl [0, 1] rfl)
  have L15 : ∀ (n : Nat), ∀ (y2 : Int64) (y4 : UInt64), m_X6_bitsOf_L15 n y2 y4 = some u → ∀ (ls : Array Slot), lv_has ls 6 [(2, .long y2), (4, .double y4)] → W p l e (headSpec wsX6_bitsOf ({ frames := 0, cells := 0, slots := 0, locals := 0 } : Room)).room s m ([.double x0] : List Value).toArray below meth c s.heap [] 0 0 (MQ below (qRO (some (.long u))) ([.double x0] : List Value).toArray s 0 0 (fun _ => False)) (F0 m 15 ls []) := by
    intro  n
    induction n with
    | zero =>
      intro y2 y4 h
      exact (o_0 h).elim
    | succ n ih15 =>
      intro y2 y4 h ls hl
      rw [m_X6_bitsOf_L15] at h
      refine lv_dload hx hb dX6_bitsOf_15 (lv_at hl 1 rfl) ?_
      refine lv_dconst1 hx hb dX6_bitsOf_17 ?_
      refine lv_dcmp hx hb dX6_bitsOf_18 ?_
      refine lv_if_ge (tgt := 37) hx hb dX6_bitsOf_19 (by decide) (fun c4 => ?_) (fun c4 => ?_)
      · have h := o_t h c4
        exact L37 _ _ _ h _ (lv_sub hl [0, 1] rfl)
      have h := o_f h c4
      refine lv_dload hx hb dX6_bitsOf_22 (lv_at hl 1 rfl) ?_
      refine lv_ldc2d hx hb hown w168 dX6_bitsOf_24 ?_
      obtain ⟨i13, h⟩ := o_ok h
      refine lv_dmul hx hb dX6_bitsOf_27 i13 ?_
      obtain ⟨x4_14, e15, h⟩ := o_n h
      refine lv_nmd e15 ?_
      refine lv_dstore (lv' := [(4, .double x4_14), (2, .long y2)]) hx hb dX6_bitsOf_28 hl (by decide) rfl (fun ls hl => ?_)
      refine lv_lload_n hx hb dX6_bitsOf_30 rfl (lv_at hl 1 rfl) ?_
      refine lv_lconst (v := 1) hx hb dX6_bitsOf_31 (by decide) ?_
      refine lv_lsub hx hb dX6_bitsOf_32 ?_
      obtain ⟨x2_16, e17, h⟩ := o_n h
      refine lv_nml e17 ?_
      refine lv_lstore_n (lv' := [(2, .long x2_16), (4, .double x4_14)]) hx hb dX6_bitsOf_33 rfl hl (by decide) rfl (fun ls hl => ?_)
      refine lv_goto (tgt := 15) hx hb dX6_bitsOf_34 (by decide) ?_
      exact ih15 _ _ h _ (lv_sub hl [0, 1] rfl)
  have hl := lv_entry ([.double x0]) (n := 6) (Nat.le_of_ble_eq_true rfl)
  rw [lg_entry_eq]
  generalize (lg_sl ([.double x0]) ++ List.replicate (6 - (lg_sl ([.double x0])).length) Slot.unset).toArray = ls at hl ⊢
  have hl : lv_has ls 6 [(0, .double x0)] := hl
  rw [m_X6_bitsOf] at h
  refine lv_dload_n hx hb dX6_bitsOf_0 rfl (lv_at hl 0 rfl) ?_
  refine lv_dconst0 hx hb dX6_bitsOf_1 ?_
  refine lv_dcmp hx hb dX6_bitsOf_2 ?_
  refine lv_if_ne (tgt := 8) hx hb dX6_bitsOf_3 (by decide) (fun c1 => ?_) (fun c1 => ?_)
  rotate_left
  · have h := o_t h c1
    refine lv_lconst (v := 0) hx hb dX6_bitsOf_6 (by decide) ?_
    have hu := Option.some.inj h
    exact W.lret (v := (0 : Int64)) hx hb hr (fun t ht hW => ⟨congrArg (fun z => Outcome.returned (some (Value.long z))) hu, ht⟩) (fun q hq => absurd hq List.not_mem_nil) dX6_bitsOf_7
  have h := o_f h c1
  refine lv_ldc2 hx hb hown w166 dX6_bitsOf_8 ?_
  obtain ⟨x2_2, e3, h⟩ := o_n h
  refine lv_nml e3 ?_
  refine lv_lstore_n (lv' := [(2, .long x2_2), (0, .double x0)]) hx hb dX6_bitsOf_11 rfl hl (by decide) rfl (fun ls hl => ?_)
  refine lv_dload_n hx hb dX6_bitsOf_12 rfl (lv_at hl 1 rfl) ?_
  refine lv_dstore (lv' := [(4, .double x0), (2, .long x2_2), (0, .double x0)]) hx hb dX6_bitsOf_13 hl (by decide) rfl (fun ls hl => ?_)
  exact L15 _ _ _ h _ (lv_sub hl [1, 0] rfl)

def m_X6_shortBitsOf_L45 (y1 : Int32) (y2 : UInt32) : Option (Int32) := if (FP.fsub y2 FP.fconst1) &&& 0x7fffffff ≤ 0x7f800000 then (if (FP.fmul (FP.fsub y2 FP.fconst1) (1258291200 : UInt32)) &&& 0x7fffffff ≤ 0x7f800000 then (some ((y1 * (8388608 : Int32)) + (FP.f2i (FP.fmul (FP.fsub y2 FP.fconst1) (1258291200 : UInt32))))) else none) else none
def m_X6_shortBitsOf_L29 : Nat → Int32 → UInt32 → Option (Int32)
  | 0, _, _ => none
  | n + 1, y1, y2 => if (Op.cmpValue (FP.fcmp y2 FP.fconst2) (.l : CmpOp)) < 0 then (m_X6_shortBitsOf_L45 y1 y2) else (if (FP.fdiv y2 FP.fconst2) &&& 0x7fffffff ≤ 0x7f800000 then (nmL (FP.fdiv y2 FP.fconst2) fun x2_7 => (nmL (y1 + 1) fun x1_9 => ((m_X6_shortBitsOf_L29 n) x1_9 x2_7))) else none)
def m_X6_shortBitsOf_L13 : Nat → Int32 → UInt32 → Option (Int32)
  | 0, _, _ => none
  | n + 1, y1, y2 => if 0 ≤ (Op.cmpValue (FP.fcmp y2 FP.fconst1) (.g : CmpOp)) then (m_X6_shortBitsOf_L29 4000 y1 y2) else (if (FP.fmul y2 FP.fconst2) &&& 0x7fffffff ≤ 0x7f800000 then (nmL (FP.fmul y2 FP.fconst2) fun x2_12 => (nmL (y1 + (-1)) fun x1_14 => ((m_X6_shortBitsOf_L13 n) x1_14 x2_12))) else none)
def m_X6_shortBitsOf (x0 : UInt32) : Option (Int32) := if (Op.cmpValue (FP.fcmp x0 FP.fconst0) (.l : CmpOp)) = 0 then (some (0 : Int32)) else (m_X6_shortBitsOf_L13 4000 (127 : Int32) x0)
set_option maxHeartbeats 4000000 in
set_option maxRecDepth 100000 in
theorem c_X6_shortBitsOf (l : Launch) (dC : Nat → ClassId) (dI : Nat → Nat → Nat) (cI cF : ClassId) (x0 : UInt32) (u : Int32) (h : m_X6_shortBitsOf x0 = some u) : cPU l yX6_shortBitsOf wsX6_shortBitsOf ({ frames := 0, cells := 0, slots := 0, locals := 0 } : Room) [.float x0] (some (.int u)) := by
  refine Met.ofW (cc := cX6_shortBitsOf) (maxL := 3) (ret := (some .int)) (by decide) rfl ?_
  intro p e s m args below meth c s₁ B hml hv
  obtain ⟨hargs, -⟩ := hv
  subst hargs
  have hx := B.exec
  have hb := B.bytes
  have hr := B.returns
  have hts := atoms_spec (ws := wsX6_shortBitsOf) B.pre
  have hown : s.vm.findClass RX6 = some m.cls := findClass_of_methodNamed B.named
  have hlocks := B.notSynchronized
  have w174 := hts (.constant RX6 174 (8388608)) (List.mem_of_getElem? (i := 1) rfl)
  have w175 := hts (.constantFloat RX6 175 (1258291200)) (List.mem_of_getElem? (i := 2) rfl)
  have L45 : ∀ (y1 : Int32) (y2 : UInt32), m_X6_shortBitsOf_L45 y1 y2 = some u → ∀ (ls : Array Slot), lv_has ls 3 [(1, .int y1), (2, .float y2)] → W p l e (headSpec wsX6_shortBitsOf ({ frames := 0, cells := 0, slots := 0, locals := 0 } : Room)).room s m ([.float x0] : List Value).toArray below meth c s.heap [] 0 0 (MQ below (qRO (some (.int u))) ([.float x0] : List Value).toArray s 0 0 (fun _ => False)) (F0 m 45 ls []) := by
    intro  y1 y2 h ls hl
    rw [m_X6_shortBitsOf_L45] at h
    refine lv_iload_n hx hb dX6_shortBitsOf_45 rfl (lv_at hl 0 rfl) ?_
    refine lv_ldc hx hb hown w174 dX6_shortBitsOf_46 ?_
    refine lv_imul hx hb dX6_shortBitsOf_48 ?_
    refine lv_fload_n hx hb dX6_shortBitsOf_49 rfl (lv_at hl 1 rfl) ?_
    refine lv_fconst1 hx hb dX6_shortBitsOf_50 ?_
    obtain ⟨i4, h⟩ := o_ok h
    refine lv_fsub hx hb dX6_shortBitsOf_51 i4 ?_
    refine lv_ldcf hx hb hown w175 dX6_shortBitsOf_52 ?_
    obtain ⟨i5, h⟩ := o_ok h
    refine lv_fmul hx hb dX6_shortBitsOf_54 i5 ?_
    refine lv_f2i hx hb dX6_shortBitsOf_55 ?_
    refine lv_iadd hx hb dX6_shortBitsOf_56 ?_
    have hu := Option.some.inj h
    exact W.iret (v := (y1 * (8388608 : Int32)) + (FP.f2i (FP.fmul (FP.fsub y2 FP.fconst1) (1258291200 : UInt32)))) hx hb hr (fun t ht hW => ⟨congrArg (fun z => Outcome.returned (some (Value.int z))) hu, ht⟩) (fun q hq => absurd hq List.not_mem_nil) dX6_shortBitsOf_57
  have L29 : ∀ (n : Nat), ∀ (y1 : Int32) (y2 : UInt32), m_X6_shortBitsOf_L29 n y1 y2 = some u → ∀ (ls : Array Slot), lv_has ls 3 [(1, .int y1), (2, .float y2)] → W p l e (headSpec wsX6_shortBitsOf ({ frames := 0, cells := 0, slots := 0, locals := 0 } : Room)).room s m ([.float x0] : List Value).toArray below meth c s.heap [] 0 0 (MQ below (qRO (some (.int u))) ([.float x0] : List Value).toArray s 0 0 (fun _ => False)) (F0 m 29 ls []) := by
    intro  n
    induction n with
    | zero =>
      intro y1 y2 h
      exact (o_0 h).elim
    | succ n ih29 =>
      intro y1 y2 h ls hl
      rw [m_X6_shortBitsOf_L29] at h
      refine lv_fload_n hx hb dX6_shortBitsOf_29 rfl (lv_at hl 1 rfl) ?_
      refine lv_fconst2 hx hb dX6_shortBitsOf_30 ?_
      refine lv_fcmp hx hb dX6_shortBitsOf_31 ?_
      refine lv_if_lt (tgt := 45) hx hb dX6_shortBitsOf_32 (by decide) (fun c3 => ?_) (fun c3 => ?_)
      · have h := o_t h c3
        exact L45 _ _ h _ (lv_sub hl [0, 1] rfl)
      have h := o_f h c3
      refine lv_fload_n hx hb dX6_shortBitsOf_35 rfl (lv_at hl 1 rfl) ?_
      refine lv_fconst2 hx hb dX6_shortBitsOf_36 ?_
      obtain ⟨i6, h⟩ := o_ok h
      refine lv_fdiv hx hb dX6_shortBitsOf_37 i6 ?_
      obtain ⟨x2_7, e8, h⟩ := o_n h
      refine lv_nmf e8 ?_
      refine lv_fstore_n (lv' := [(2, .float x2_7), (1, .int y1)]) hx hb dX6_shortBitsOf_38 rfl hl (by decide) rfl (fun ls hl => ?_)
      obtain ⟨x1_9, e10, h⟩ := o_n h
      refine lv_iinc (v := x1_9) (lv' := [(1, .int x1_9), (2, .float x2_7)]) hx hb dX6_shortBitsOf_39 hl (k := 1) rfl (by rw [e10]; rfl) (by decide) rfl (fun ls hl => ?_)
      refine lv_goto (tgt := 29) hx hb dX6_shortBitsOf_42 (by decide) ?_
      exact ih29 _ _ h _ (lv_sub hl [0, 1] rfl)
  have L13 : ∀ (n : Nat), ∀ (y1 : Int32) (y2 : UInt32), m_X6_shortBitsOf_L13 n y1 y2 = some u → ∀ (ls : Array Slot), lv_has ls 3 [(1, .int y1), (2, .float y2)] → W p l e (headSpec wsX6_shortBitsOf ({ frames := 0, cells := 0, slots := 0, locals := 0 } : Room)).room s m ([.float x0] : List Value).toArray below meth c s.heap [] 0 0 (MQ below (qRO (some (.int u))) ([.float x0] : List Value).toArray s 0 0 (fun _ => False)) (F0 m 13 ls []) := by
    intro  n
    induction n with
    | zero =>
      intro y1 y2 h
      exact (o_0 h).elim
    | succ n ih13 =>
      intro y1 y2 h ls hl
      rw [m_X6_shortBitsOf_L13] at h
      refine lv_fload_n hx hb dX6_shortBitsOf_13 rfl (lv_at hl 1 rfl) ?_
      refine lv_fconst1 hx hb dX6_shortBitsOf_14 ?_
      refine lv_fcmp hx hb dX6_shortBitsOf_15 ?_
      refine lv_if_ge (tgt := 29) hx hb dX6_shortBitsOf_16 (by decide) (fun c2 => ?_) (fun c2 => ?_)
      · have h := o_t h c2
        exact L29 _ _ _ h _ (lv_sub hl [0, 1] rfl)
      have h := o_f h c2
      refine lv_fload_n hx hb dX6_shortBitsOf_19 rfl (lv_at hl 1 rfl) ?_
      refine lv_fconst2 hx hb dX6_shortBitsOf_20 ?_
      obtain ⟨i11, h⟩ := o_ok h
      refine lv_fmul hx hb dX6_shortBitsOf_21 i11 ?_
      obtain ⟨x2_12, e13, h⟩ := o_n h
      refine lv_nmf e13 ?_
      refine lv_fstore_n (lv' := [(2, .float x2_12), (1, .int y1)]) hx hb dX6_shortBitsOf_22 rfl hl (by decide) rfl (fun ls hl => ?_)
      obtain ⟨x1_14, e15, h⟩ := o_n h
      refine lv_iinc (v := x1_14) (lv' := [(1, .int x1_14), (2, .float x2_12)]) hx hb dX6_shortBitsOf_23 hl (k := 1) rfl (by rw [e15]; rfl) (by decide) rfl (fun ls hl => ?_)
      refine lv_goto (tgt := 13) hx hb dX6_shortBitsOf_26 (by decide) ?_
      exact ih13 _ _ h _ (lv_sub hl [0, 1] rfl)
  have hl := lv_entry ([.float x0]) (n := 3) (Nat.le_of_ble_eq_true rfl)
  rw [lg_entry_eq]
  generalize (lg_sl ([.float x0]) ++ List.replicate (3 - (lg_sl ([.float x0])).length) Slot.unset).toArray = ls at hl ⊢
  have hl : lv_has ls 3 [(0, .float x0)] := hl
  rw [m_X6_shortBitsOf] at h
  refine lv_fload_n hx hb dX6_shortBitsOf_0 rfl (lv_at hl 0 rfl) ?_
  refine lv_fconst0 hx hb dX6_shortBitsOf_1 ?_
  refine lv_fcmp hx hb dX6_shortBitsOf_2 ?_
  refine lv_if_ne (tgt := 8) hx hb dX6_shortBitsOf_3 (by decide) (fun c1 => ?_) (fun c1 => ?_)
  rotate_left
  · have h := o_t h c1
    refine lv_iconst (v := (0 : Int32)) hx hb dX6_shortBitsOf_6 (by decide) ?_
    have hu := Option.some.inj h
    exact W.iret (v := (0 : Int32)) hx hb hr (fun t ht hW => ⟨congrArg (fun z => Outcome.returned (some (Value.int z))) hu, ht⟩) (fun q hq => absurd hq List.not_mem_nil) dX6_shortBitsOf_7
  have h := o_f h c1
  refine lv_bipush (v := (127 : Int32)) hx hb dX6_shortBitsOf_8 (by decide) ?_
  refine lv_istore_n (lv' := [(1, .int (127 : Int32)), (0, .float x0)]) hx hb dX6_shortBitsOf_10 rfl hl (by decide) rfl (fun ls hl => ?_)
  refine lv_fload_n hx hb dX6_shortBitsOf_11 rfl (lv_at hl 1 rfl) ?_
  refine lv_fstore_n (lv' := [(2, .float x0), (1, .int (127 : Int32)), (0, .float x0)]) hx hb dX6_shortBitsOf_12 rfl hl (by decide) rfl (fun ls hl => ?_)
  exact L13 _ _ _ h _ (lv_sub hl [1, 0] rfl)

def m_X6_digest_L318 : Nat → Int64 → Int32 → S_X6 → Option (Int64 × S_X6)
  | 0, _, _, _ => none
  | n + 1, y1, y3, S => if (g_X6_length S) ≤ y3 then (some (y1, S)) else (if y3 < 0 ∨ 60 ≤ y3.toNatClampNeg then none else (nmL (((31 : Int64) * y1) + (((g_X6_text S) y3.toNatClampNeg).toInt64)) fun x1_30 => (nmL (y3 + 1) fun x3_32 => ((m_X6_digest_L318 n) x1_30 x3_32 S))))
def m_X6_digest_L301 (t0 : Int64) (t1 : Int32) (S : S_X6) : Option (Int64 × S_X6) := nmL (t0 + t1.toInt64) fun x1_24 => (nmL (((31 : Int64) * x1_24) + ((g_X6_length S).toInt64)) fun x1_26 => (m_X6_digest_L318 4000 x1_26 (0 : Int32) S))
def m_X6_digest_L269 (y1 : Int64) (S : S_X6) : Option (Int64 × S_X6) := (m_X6_wasted S).bind fun v17 => ((m_X6_shortBitsOf v17).bind fun v19 => (nmL (((31 : Int64) * y1) + v19.toInt64) fun x1_21 => (if (g_X6_isKept S) = 0 then (m_X6_digest_L301 ((31 : Int64) * x1_21) (0 : Int32) S) else (m_X6_digest_L301 ((31 : Int64) * x1_21) (1 : Int32) S))))
def m_X6_digest_L244 : Nat → Int64 → Int32 → S_X6 → Option (Int64 × S_X6)
  | 0, _, _, _ => none
  | n + 1, y1, y3, S => if (7 : Int32) ≤ y3 then (m_X6_digest_L269 y1 S) else ((m_X6_cansFor S y3).bind fun v34 => (nmL (((31 : Int64) * y1) + v34.toInt64) fun x1_36 => (nmL (y3 + 1) fun x3_38 => ((m_X6_digest_L244 n) x1_36 x3_38 S))))
def m_X6_digest_L228 (y1 : Int64) (S : S_X6) : Option (Int64 × S_X6) := (m_X6_lagFor S (10 : Int32)).bind fun v12 => (nmL (((31 : Int64) * y1) + v12.1.toInt64) fun x1_14 => (m_X6_digest_L244 4000 x1_14 (1 : Int32) v12.2))
def m_X6_digest_L202 : Nat → Int64 → Int32 → S_X6 → Option (Int64 × S_X6)
  | 0, _, _, _ => none
  | n + 1, y1, y3, S => if (5 : Int32) ≤ y3 then (m_X6_digest_L228 y1 S) else ((m_X6_tried S (10 : Int32) y3).bind fun v40 => (nmL (((31 : Int64) * y1) + v40.1.toInt64) fun x1_42 => (nmL (y3 + 1) fun x3_44 => ((m_X6_digest_L202 n) x1_42 x3_44 v40.2))))
def m_X6_digest_L188 (y1 : Int64) (S : S_X6) : Option (Int64 × S_X6) := (m_X6_reason S).bind fun v7 => (nmL (((31 : Int64) * y1) + v7.toInt64) fun x1_9 => (m_X6_digest_L202 4000 x1_9 (0 : Int32) S))
def m_X6_digest_L163 : Nat → Int64 → Int32 → S_X6 → Option (Int64 × S_X6)
  | 0, _, _, _ => none
  | n + 1, y1, y3, S => if (7 : Int32) ≤ y3 then (m_X6_digest_L188 y1 S) else ((m_X6_remembered S y3).bind fun v46 => (nmL (((31 : Int64) * y1) + v46.toInt64) fun x1_48 => (nmL (y3 + 1) fun x3_50 => ((m_X6_digest_L163 n) x1_48 x3_50 S))))
def m_X6_digest_L140 (k69 : Int64 → Int32 → S_X6 → Option (Int64 × S_X6)) (y1 : Int64) (y3 : Int32) (S : S_X6) : Option (Int64 × S_X6) := (m_X6_meanOf S y3).bind fun v56 => ((m_X6_bitsOf v56).bind fun v58 => (nmL (((31 : Int64) * y1) + v58) fun x1_60 => (nmL (y3 + 1) fun x3_62 => (k69 x1_60 x3_62 S))))
def m_X6_digest_L109 (k69 : Int64 → Int32 → S_X6 → Option (Int64 × S_X6)) : Nat → Int64 → Int32 → Int32 → S_X6 → Option (Int64 × S_X6)
  | 0, _, _, _, _ => none
  | n + 1, y1, y3, y4, S => (m_X6_metres S y3).bind fun v53 => (if v53 ≤ y4 then (m_X6_digest_L140 k69 y1 y3 S) else ((m_X6_weight S y3 y4).bind fun v64 => (nmL (((31 : Int64) * y1) + v64.toInt64) fun x1_66 => (nmL (y4 + 1) fun x4_68 => ((m_X6_digest_L109 k69 n) x1_66 y3 x4_68 S)))))
def m_X6_digest_L78 (k69 : Int64 → Int32 → S_X6 → Option (Int64 × S_X6)) : Nat → Int64 → Int32 → Int32 → S_X6 → Option (Int64 × S_X6)
  | 0, _, _, _, _ => none
  | n + 1, y1, y3, y4, S => if (8 : Int32) ≤ y4 then (m_X6_digest_L109 k69 4000 y1 y3 (0 : Int32) S) else ((m_X6_canNumber S y3 y4).bind fun v70 => (nmL (((31 : Int64) * y1) + v70.toInt64) fun x1_72 => (nmL (y4 + 1) fun x4_74 => ((m_X6_digest_L78 k69 n) x1_72 y3 x4_74 S))))
def m_X6_digest_L69 : Nat → Int64 → Int32 → S_X6 → Option (Int64 × S_X6)
  | 0, _, _, _ => none
  | n + 1, y1, y3, S => if (8 : Int32) ≤ y3 then (m_X6_digest_L163 4000 y1 (0 : Int32) S) else (m_X6_digest_L78 (m_X6_digest_L69 n) 4000 y1 y3 (0 : Int32) S)
def m_X6_digest_L38 : Nat → Int64 → Int32 → S_X6 → Option (Int64 × S_X6)
  | 0, _, _, _ => none
  | n + 1, y1, y3, S => if (5 : Int32) ≤ y3 then (m_X6_digest_L69 4000 y1 (0 : Int32) S) else (if ((340 : Int32) + y3) < 0 ∨ 350 ≤ ((340 : Int32) + y3).toNatClampNeg then none else (nmL (((31 : Int64) * y1) + (((g_X6_s S) ((340 : Int32) + y3).toNatClampNeg).toInt64)) fun x1_77 => (nmL (y3 + 1) fun x3_79 => ((m_X6_digest_L38 n) x1_77 x3_79 S))))
def m_X6_digest_L11 : Nat → Int64 → Int32 → S_X6 → Option (Int64 × S_X6)
  | 0, _, _, _ => none
  | n + 1, y1, y3, S => if (12 : Int32) ≤ y3 then (m_X6_digest_L38 4000 y1 (0 : Int32) S) else ((m_X6_counted S y3).bind fun v81 => (nmL (((31 : Int64) * y1) + v81.toInt64) fun x1_83 => (nmL (y3 + 1) fun x3_85 => ((m_X6_digest_L11 n) x1_83 x3_85 S))))
def m_X6_digest (S : S_X6) : Option (Int64 × S_X6) := nmL ((3697 : Int64)) fun x1_1 => (m_X6_digest_L11 4000 x1_1 (0 : Int32) (s_X6_thrown S (0 : Int32)))
set_option maxHeartbeats 4000000 in
set_option maxRecDepth 100000 in
theorem c_X6_digest (l : Launch) (dC : Nat → ClassId) (dI : Nat → Nat → Nat) (cI cF : ClassId) (a : Nat → Nat) (S : S_X6) (u : Int64 × S_X6) (h : m_X6_digest S = some u) : cRW l (dC, dI) cI cF yX6_digest wsX6_digest ({ frames := 6, cells := 0, slots := 0, locals := 143 } : Room) [.ref (a 0)] (wX6 a cI cF S) (wX6 a cI cF u.2) (some (.long u.1)) := by
  intro sz
  refine Met.ofW (cc := cX6_digest) (maxL := 5) (ret := (some .long)) (by decide) rfl ?_
  intro p e s m args below meth c s₁ B hml hv
  obtain ⟨hargs, hsz, hP, hK, hD0⟩ := hv
  subst hargs
  have hx := B.exec
  have hb := B.bytes
  have hr := B.returns
  have hts := atoms_spec (ws := wsX6_digest) B.pre
  have hown : s.vm.findClass RX6 = some m.cls := findClass_of_methodNamed B.named
  have hlocks := B.notSynchronized
  have w116 := hts (.fieldLink RX6 116 "DrawnSliversModel" "isKept" "Z") (List.mem_of_getElem? (i := 5) rfl)
  have w128 := hts (.methodLink RX6 128 yX6_canNumber) (List.mem_of_getElem? (i := 30) rfl)
  have w131 := hts (.methodLink RX6 131 yX6_remembered) (List.mem_of_getElem? (i := 61) rfl)
  have w137 := hts (.methodLink RX6 137 yX6_counted) (List.mem_of_getElem? (i := 8) rfl)
  have w146 := hts (.methodLink RX6 146 yX6_tried) (List.mem_of_getElem? (i := 81) rfl)
  have w149 := hts (.methodLink RX6 149 yX6_lagFor) (List.mem_of_getElem? (i := 110) rfl)
  have w155 := hts (.methodLink RX6 155 yX6_cansFor) (List.mem_of_getElem? (i := 114) rfl)
  have w158 := hts (.methodLink RX6 158 yX6_meanOf) (List.mem_of_getElem? (i := 50) rfl)
  have w162 := hts (.methodLink RX6 162 yX6_wasted) (List.mem_of_getElem? (i := 122) rfl)
  have w176 := hts (.constantLong RX6 176 (3697)) (List.mem_of_getElem? (i := 2) rfl)
  have w178 := hts (.constantLong RX6 178 (31)) (List.mem_of_getElem? (i := 3) rfl)
  have w180 := hts (.methodLink RX6 180 yX6_bitsOf) (List.mem_of_getElem? (i := 54) rfl)
  have w184 := hts (.methodLink RX6 184 yX6_shortBitsOf) (List.mem_of_getElem? (i := 126) rfl)
  have w22 := hts (.fieldLink RX6 22 "DrawnSliversModel" "text" "[I") (List.mem_of_getElem? (i := 7) rfl)
  have w25 := hts (.fieldLink RX6 25 "DrawnSliversModel" "thrown" "I") (List.mem_of_getElem? (i := 1) rfl)
  have w36 := hts (.methodLink RX6 36 yX6_metres) (List.mem_of_getElem? (i := 22) rfl)
  have w40 := hts (.methodLink RX6 40 yX6_weight) (List.mem_of_getElem? (i := 26) rfl)
  have w66 := hts (.methodLink RX6 66 yX6_reason) (List.mem_of_getElem? (i := 65) rfl)
  have w7 := hts (.fieldLink RX6 7 "DrawnSliversModel" "s" "[I") (List.mem_of_getElem? (i := 4) rfl)
  have w75 := hts (.fieldLink RX6 75 "DrawnSliversModel" "length" "I") (List.mem_of_getElem? (i := 6) rfl)
  have huX6 : ∀ w ∈ u_ws RX6 TX6 11, w.before _ s = true := fun w h => hts w (List.mem_cons_of_mem _ (List.mem_append_right _ (h)))
  subst hsz
  have hD := hD0.self (sz := s.heap.size)
  generalize hAe : va_A (wX6 a cI cF S) s.heap.size = A at hD ⊢
  have hA : ∀ q : Nat, s.heap.size ≤ q → A q := fun q h => by rw [← hAe]; exact Or.inr h
  have hS : va_S A s.heap s.heap [] := va_S.rf
  have L318 : ∀ (n : Nat), ∀ (y1 : Int64) (y3 : Int32) (S : S_X6), m_X6_digest_L318 n y1 y3 S = some u → ∀ (H : Heap) (locs : List Loc), va_P (dC, dI) vwCl (wX6 a cI cF S) H → va_D A (wX6 a cI cF S) → va_S A s.heap H locs → ∀ (ls : Array Slot), lv_has ls 5 [(0, .ref (a 0)), (1, .long y1), (3, .int y3)] → W p l e (headSpec wsX6_digest ({ frames := 6, cells := 0, slots := 0, locals := 143 } : Room)).room s m ([.ref (a 0)] : List Value).toArray below meth c H locs 0 0 (MQ below (qRW (dC, dI) (wX6 a cI cF u.2) (some (.long u.1)) A) ([.ref (a 0)] : List Value).toArray s 0 0 A) (F0 m 318 ls []) := by
    intro  n
    induction n with
    | zero =>
      intro y1 y3 S h
      exact (o_0 h).elim
    | succ n ih318 =>
      intro y1 y3 S h H locs hP hD hS ls hl
      rw [m_X6_digest_L318] at h
      refine lv_iload_n hx hb dX6_digest_318 rfl (lv_at hl 2 rfl) ?_
      refine lv_aload_n hx hb dX6_digest_319 rfl (lv_at hl 0 rfl) ?_
      refine va_get (D := (dC, dI)) (ci := 6) (v := .int (g_X6_length S)) (C := RX6) (T := TX6) (N := 11) hx hb huX6 (fun _ h9 => h9) hown hK hP 0 rfl rfl 7 (by decide) w75 (fun _ h9 => h9) rfl dX6_digest_320 ?_
      refine lv_icmp_ge (tgt := 346) hx hb dX6_digest_323 (by decide) (fun c28 => ?_) (fun c28 => ?_)
      · have h := o_t h c28
        refine lv_lload_n hx hb dX6_digest_346 rfl (lv_at hl 1 rfl) ?_
        have hu := Option.some.inj h
        exact W.lret (v := y1) hx hb hr (fun t ht hW => ⟨⟨congrArg (fun z => Outcome.returned (some (Value.long z.1))) hu, by rw [ht, ← hu]; exact hP⟩, hS.F ht⟩) hS.2.2 dX6_digest_347
      have h := o_f h c28
      refine lv_ldc2 hx hb hown w178 dX6_digest_326 ?_
      refine lv_lload_n hx hb dX6_digest_329 rfl (lv_at hl 1 rfl) ?_
      refine lv_lmul hx hb dX6_digest_330 ?_
      refine lv_aload_n hx hb dX6_digest_331 rfl (lv_at hl 0 rfl) ?_
      refine va_get (D := (dC, dI)) (ci := 6) (v := .ref (a 5)) (C := RX6) (T := TX6) (N := 11) hx hb huX6 (fun _ h9 => h9) hown hK hP 0 rfl rfl 6 (by decide) w22 (fun _ h9 => h9) rfl dX6_digest_332 ?_
      refine lv_iload_n hx hb dX6_digest_335 rfl (lv_at hl 2 rfl) ?_
      obtain ⟨i29, h⟩ := o_in h
      refine va_iald hx hb hK hP 5 0 rfl rfl i29 dX6_digest_336 ?_
      refine lv_i2l hx hb dX6_digest_337 rfl ?_
      refine lv_ladd hx hb dX6_digest_338 ?_
      obtain ⟨x1_30, e31, h⟩ := o_n h
      refine lv_nml e31 ?_
      refine lv_lstore_n (lv' := [(1, .long x1_30), (0, .ref (a 0)), (3, .int y3)]) hx hb dX6_digest_339 rfl hl (by decide) rfl (fun ls hl => ?_)
      obtain ⟨x3_32, e33, h⟩ := o_n h
      refine lv_iinc (v := x3_32) (lv' := [(3, .int x3_32), (1, .long x1_30), (0, .ref (a 0))]) hx hb dX6_digest_340 hl (k := 2) rfl (by rw [e33]; rfl) (by decide) rfl (fun ls hl => ?_)
      refine lv_goto (tgt := 318) hx hb dX6_digest_343 (by decide) ?_
      exact ih318 _ _ _ h _ _ hP hD hS _ (lv_sub hl [2, 1, 0] rfl)
  have L301 : ∀ (t0 : Int64) (t1 : Int32) (S : S_X6), m_X6_digest_L301 t0 t1 S = some u → ∀ (H : Heap) (locs : List Loc), va_P (dC, dI) vwCl (wX6 a cI cF S) H → va_D A (wX6 a cI cF S) → va_S A s.heap H locs → ∀ (ls : Array Slot), lv_has ls 5 [(0, .ref (a 0))] → W p l e (headSpec wsX6_digest ({ frames := 6, cells := 0, slots := 0, locals := 143 } : Room)).room s m ([.ref (a 0)] : List Value).toArray below meth c H locs 0 0 (MQ below (qRW (dC, dI) (wX6 a cI cF u.2) (some (.long u.1)) A) ([.ref (a 0)] : List Value).toArray s 0 0 A) (F0 m 301 ls [.int t1, .long t0]) := by
    intro  t0 t1 S h H locs hP hD hS ls hl
    rw [m_X6_digest_L301] at h
    refine lv_i2l hx hb dX6_digest_301 rfl ?_
    refine lv_ladd hx hb dX6_digest_302 ?_
    obtain ⟨x1_24, e25, h⟩ := o_n h
    refine lv_nml e25 ?_
    refine lv_lstore_n (lv' := [(1, .long x1_24), (0, .ref (a 0))]) hx hb dX6_digest_303 rfl hl (by decide) rfl (fun ls hl => ?_)
    refine lv_ldc2 hx hb hown w178 dX6_digest_304 ?_
    refine lv_lload_n hx hb dX6_digest_307 rfl (lv_at hl 0 rfl) ?_
    refine lv_lmul hx hb dX6_digest_308 ?_
    refine lv_aload_n hx hb dX6_digest_309 rfl (lv_at hl 1 rfl) ?_
    refine va_get (D := (dC, dI)) (ci := 6) (v := .int (g_X6_length S)) (C := RX6) (T := TX6) (N := 11) hx hb huX6 (fun _ h9 => h9) hown hK hP 0 rfl rfl 7 (by decide) w75 (fun _ h9 => h9) rfl dX6_digest_310 ?_
    refine lv_i2l hx hb dX6_digest_313 rfl ?_
    refine lv_ladd hx hb dX6_digest_314 ?_
    obtain ⟨x1_26, e27, h⟩ := o_n h
    refine lv_nml e27 ?_
    refine lv_lstore_n (lv' := [(1, .long x1_26), (0, .ref (a 0))]) hx hb dX6_digest_315 rfl hl (by decide) rfl (fun ls hl => ?_)
    refine lv_iconst (v := (0 : Int32)) hx hb dX6_digest_316 (by decide) ?_
    refine lv_istore_n (lv' := [(3, .int (0 : Int32)), (1, .long x1_26), (0, .ref (a 0))]) hx hb dX6_digest_317 rfl hl (by decide) rfl (fun ls hl => ?_)
    exact L318 _ _ _ _ h _ _ hP hD hS _ (lv_sub hl [2, 1, 0] rfl)
  have L269 : ∀ (y1 : Int64) (S : S_X6), m_X6_digest_L269 y1 S = some u → ∀ (H : Heap) (locs : List Loc), va_P (dC, dI) vwCl (wX6 a cI cF S) H → va_D A (wX6 a cI cF S) → va_S A s.heap H locs → ∀ (ls : Array Slot), lv_has ls 5 [(0, .ref (a 0)), (1, .long y1)] → W p l e (headSpec wsX6_digest ({ frames := 6, cells := 0, slots := 0, locals := 143 } : Room)).room s m ([.ref (a 0)] : List Value).toArray below meth c H locs 0 0 (MQ below (qRW (dC, dI) (wX6 a cI cF u.2) (some (.long u.1)) A) ([.ref (a 0)] : List Value).toArray s 0 0 A) (F0 m 269 ls []) := by
    intro  y1 S h H locs hP hD hS ls hl
    rw [m_X6_digest_L269] at h
    refine lv_ldc2 hx hb hown w178 dX6_digest_269 ?_
    refine lv_lload_n hx hb dX6_digest_272 rfl (lv_at hl 1 rfl) ?_
    refine lv_lmul hx hb dX6_digest_273 ?_
    refine lv_aload_n hx hb dX6_digest_274 rfl (lv_at hl 0 rfl) ?_
    obtain ⟨v17, g18, h⟩ := o_b h
    refine k_ro (va_runV (As := []) (rest := [.long ((31 : Int64) * y1)]) ⟨hx, hb, hml, hown, hts⟩ (c_X6_wasted l dC dI cI cF a S v17 g18) (cwV 0 hts gX6_digest_X6_wasted rfl rfl rfl (by decide +kernel) ⟨Nat.le_of_ble_eq_true rfl, Nat.le_of_ble_eq_true rfl⟩) (k_preV (q0 := 0) (ci := 6) hK (hP.sub (ws' := wX6 a cI cF S) [0, 1, 2, 3, 4, 5] rfl) rfl rfl rfl) rfl rfl hl.1 rfl (lv_room (Nat.le_of_ble_eq_true rfl)) dX6_digest_275 ⟨Nat.zero_le _, Nat.zero_le _⟩) (st1 := [.float v17, .long ((31 : Int64) * y1)]) rfl ?_
    obtain ⟨v19, g20, h⟩ := o_b h
    refine k_ro (va_runS (As := [.float v17]) (rest := [.long ((31 : Int64) * y1)]) ⟨hx, hb, hml, hown, hts⟩ (c_X6_shortBitsOf l dC dI cI cF v17 v19 g20) (va_cwS 1 hts gX6_digest_X6_shortBitsOf rfl rfl rfl (by decide +kernel) ⟨Nat.le_of_ble_eq_true rfl, Nat.le_of_ble_eq_true rfl⟩) (k_prePU) rfl rfl hl.1 rfl (lv_room (Nat.le_of_ble_eq_true rfl)) dX6_digest_278 ⟨Nat.zero_le _, Nat.zero_le _⟩) (st1 := [.int v19, .long ((31 : Int64) * y1)]) rfl ?_
    refine lv_i2l hx hb dX6_digest_281 rfl ?_
    refine lv_ladd hx hb dX6_digest_282 ?_
    obtain ⟨x1_21, e22, h⟩ := o_n h
    refine lv_nml e22 ?_
    refine lv_lstore_n (lv' := [(1, .long x1_21), (0, .ref (a 0))]) hx hb dX6_digest_283 rfl hl (by decide) rfl (fun ls hl => ?_)
    refine lv_ldc2 hx hb hown w178 dX6_digest_284 ?_
    refine lv_lload_n hx hb dX6_digest_287 rfl (lv_at hl 0 rfl) ?_
    refine lv_lmul hx hb dX6_digest_288 ?_
    refine lv_aload_n hx hb dX6_digest_289 rfl (lv_at hl 1 rfl) ?_
    refine va_get (D := (dC, dI)) (ci := 6) (v := .int (g_X6_isKept S)) (C := RX6) (T := TX6) (N := 11) hx hb huX6 (fun _ h9 => h9) hown hK hP 0 rfl rfl 5 (by decide) w116 (fun _ h9 => h9) rfl dX6_digest_290 ?_
    refine lv_if_eq (tgt := 300) hx hb dX6_digest_293 (by decide) (fun c23 => ?_) (fun c23 => ?_)
    · have h := o_t h c23
      refine lv_iconst (v := (0 : Int32)) hx hb dX6_digest_300 (by decide) ?_
      exact L301 _ _ _ h _ _ hP hD hS _ (lv_sub hl [1] rfl)
    have h := o_f h c23
    refine lv_iconst (v := (1 : Int32)) hx hb dX6_digest_296 (by decide) ?_
    refine lv_goto (tgt := 301) hx hb dX6_digest_297 (by decide) ?_
    exact L301 _ _ _ h _ _ hP hD hS _ (lv_sub hl [1] rfl)
  have L244 : ∀ (n : Nat), ∀ (y1 : Int64) (y3 : Int32) (S : S_X6), m_X6_digest_L244 n y1 y3 S = some u → ∀ (H : Heap) (locs : List Loc), va_P (dC, dI) vwCl (wX6 a cI cF S) H → va_D A (wX6 a cI cF S) → va_S A s.heap H locs → ∀ (ls : Array Slot), lv_has ls 5 [(0, .ref (a 0)), (1, .long y1), (3, .int y3)] → W p l e (headSpec wsX6_digest ({ frames := 6, cells := 0, slots := 0, locals := 143 } : Room)).room s m ([.ref (a 0)] : List Value).toArray below meth c H locs 0 0 (MQ below (qRW (dC, dI) (wX6 a cI cF u.2) (some (.long u.1)) A) ([.ref (a 0)] : List Value).toArray s 0 0 A) (F0 m 244 ls []) := by
    intro  n
    induction n with
    | zero =>
      intro y1 y3 S h
      exact (o_0 h).elim
    | succ n ih244 =>
      intro y1 y3 S h H locs hP hD hS ls hl
      rw [m_X6_digest_L244] at h
      refine lv_iload_n hx hb dX6_digest_244 rfl (lv_at hl 2 rfl) ?_
      refine lv_bipush (v := (7 : Int32)) hx hb dX6_digest_245 (by decide) ?_
      refine lv_icmp_ge (tgt := 269) hx hb dX6_digest_247 (by decide) (fun c16 => ?_) (fun c16 => ?_)
      · have h := o_t h c16
        exact L269 _ _ h _ _ hP hD hS _ (lv_sub hl [0, 1] rfl)
      have h := o_f h c16
      refine lv_ldc2 hx hb hown w178 dX6_digest_250 ?_
      refine lv_lload_n hx hb dX6_digest_253 rfl (lv_at hl 1 rfl) ?_
      refine lv_lmul hx hb dX6_digest_254 ?_
      refine lv_aload_n hx hb dX6_digest_255 rfl (lv_at hl 0 rfl) ?_
      refine lv_iload_n hx hb dX6_digest_256 rfl (lv_at hl 2 rfl) ?_
      obtain ⟨v34, g35, h⟩ := o_b h
      refine k_ro (va_runV (As := [.int y3]) (rest := [.long ((31 : Int64) * y1)]) ⟨hx, hb, hml, hown, hts⟩ (c_X6_cansFor l dC dI cI cF a S y3 v34 g35) (cwV 1 hts gX6_digest_X6_cansFor rfl rfl rfl (by decide +kernel) ⟨Nat.le_of_ble_eq_true rfl, Nat.le_of_ble_eq_true rfl⟩) (k_preV (q0 := 0) (ci := 6) hK (hP.sub (ws' := wX6 a cI cF S) [0, 1, 2, 3, 4, 5] rfl) rfl rfl rfl) rfl rfl hl.1 rfl (lv_room (Nat.le_of_ble_eq_true rfl)) dX6_digest_257 ⟨Nat.zero_le _, Nat.zero_le _⟩) (st1 := [.int v34, .long ((31 : Int64) * y1)]) rfl ?_
      refine lv_i2l hx hb dX6_digest_260 rfl ?_
      refine lv_ladd hx hb dX6_digest_261 ?_
      obtain ⟨x1_36, e37, h⟩ := o_n h
      refine lv_nml e37 ?_
      refine lv_lstore_n (lv' := [(1, .long x1_36), (0, .ref (a 0)), (3, .int y3)]) hx hb dX6_digest_262 rfl hl (by decide) rfl (fun ls hl => ?_)
      obtain ⟨x3_38, e39, h⟩ := o_n h
      refine lv_iinc (v := x3_38) (lv' := [(3, .int x3_38), (1, .long x1_36), (0, .ref (a 0))]) hx hb dX6_digest_263 hl (k := 2) rfl (by rw [e39]; rfl) (by decide) rfl (fun ls hl => ?_)
      refine lv_goto (tgt := 244) hx hb dX6_digest_266 (by decide) ?_
      exact ih244 _ _ _ h _ _ hP hD hS _ (lv_sub hl [2, 1, 0] rfl)
  have L228 : ∀ (y1 : Int64) (S : S_X6), m_X6_digest_L228 y1 S = some u → ∀ (H : Heap) (locs : List Loc), va_P (dC, dI) vwCl (wX6 a cI cF S) H → va_D A (wX6 a cI cF S) → va_S A s.heap H locs → ∀ (ls : Array Slot), lv_has ls 5 [(0, .ref (a 0)), (1, .long y1)] → W p l e (headSpec wsX6_digest ({ frames := 6, cells := 0, slots := 0, locals := 143 } : Room)).room s m ([.ref (a 0)] : List Value).toArray below meth c H locs 0 0 (MQ below (qRW (dC, dI) (wX6 a cI cF u.2) (some (.long u.1)) A) ([.ref (a 0)] : List Value).toArray s 0 0 A) (F0 m 228 ls []) := by
    intro  y1 S h H locs hP hD hS ls hl
    rw [m_X6_digest_L228] at h
    refine lv_ldc2 hx hb hown w178 dX6_digest_228 ?_
    refine lv_lload_n hx hb dX6_digest_231 rfl (lv_at hl 1 rfl) ?_
    refine lv_lmul hx hb dX6_digest_232 ?_
    refine lv_aload_n hx hb dX6_digest_233 rfl (lv_at hl 0 rfl) ?_
    refine lv_bipush (v := (10 : Int32)) hx hb dX6_digest_234 (by decide) ?_
    obtain ⟨v12, g13, h⟩ := o_b h
    refine k_rw (va_runV (As := [.int (10 : Int32)]) (rest := [.long ((31 : Int64) * y1)]) ⟨hx, hb, hml, hown, hts⟩ (c_X6_lagFor l dC dI cI cF a S (10 : Int32) v12 g13 H.size) (cwV 1 hts gX6_digest_X6_lagFor rfl rfl rfl (by decide +kernel) ⟨Nat.le_of_ble_eq_true rfl, Nat.le_of_ble_eq_true rfl⟩) (k_preVw (q0 := 0) (ci := 6) hK hP hD [0, 1, 2, 3, 4, 5] rfl rfl rfl rfl rfl) rfl rfl hl.1 rfl (lv_room (Nat.le_of_ble_eq_true rfl)) dX6_digest_236 ⟨Nat.zero_le _, Nat.zero_le _⟩) (st1 := [.int v12.1, .long ((31 : Int64) * y1)]) rfl hP hD hS hA [0, 1, 2, 3, 4, 5] rfl rfl (wn := wX6 a cI cF v12.2) rfl rfl rfl (fun H locs hP hD hS => ?_)
    refine lv_i2l hx hb dX6_digest_239 rfl ?_
    refine lv_ladd hx hb dX6_digest_240 ?_
    obtain ⟨x1_14, e15, h⟩ := o_n h
    refine lv_nml e15 ?_
    refine lv_lstore_n (lv' := [(1, .long x1_14), (0, .ref (a 0))]) hx hb dX6_digest_241 rfl hl (by decide) rfl (fun ls hl => ?_)
    refine lv_iconst (v := (1 : Int32)) hx hb dX6_digest_242 (by decide) ?_
    refine lv_istore_n (lv' := [(3, .int (1 : Int32)), (1, .long x1_14), (0, .ref (a 0))]) hx hb dX6_digest_243 rfl hl (by decide) rfl (fun ls hl => ?_)
    exact L244 _ _ _ _ h _ _ hP hD hS _ (lv_sub hl [2, 1, 0] rfl)
  have L202 : ∀ (n : Nat), ∀ (y1 : Int64) (y3 : Int32) (S : S_X6), m_X6_digest_L202 n y1 y3 S = some u → ∀ (H : Heap) (locs : List Loc), va_P (dC, dI) vwCl (wX6 a cI cF S) H → va_D A (wX6 a cI cF S) → va_S A s.heap H locs → ∀ (ls : Array Slot), lv_has ls 5 [(0, .ref (a 0)), (1, .long y1), (3, .int y3)] → W p l e (headSpec wsX6_digest ({ frames := 6, cells := 0, slots := 0, locals := 143 } : Room)).room s m ([.ref (a 0)] : List Value).toArray below meth c H locs 0 0 (MQ below (qRW (dC, dI) (wX6 a cI cF u.2) (some (.long u.1)) A) ([.ref (a 0)] : List Value).toArray s 0 0 A) (F0 m 202 ls []) := by
    intro  n
    induction n with
    | zero =>
      intro y1 y3 S h
      exact (o_0 h).elim
    | succ n ih202 =>
      intro y1 y3 S h H locs hP hD hS ls hl
      rw [m_X6_digest_L202] at h
      refine lv_iload_n hx hb dX6_digest_202 rfl (lv_at hl 2 rfl) ?_
      refine lv_iconst (v := (5 : Int32)) hx hb dX6_digest_203 (by decide) ?_
      refine lv_icmp_ge (tgt := 228) hx hb dX6_digest_204 (by decide) (fun c11 => ?_) (fun c11 => ?_)
      · have h := o_t h c11
        exact L228 _ _ h _ _ hP hD hS _ (lv_sub hl [0, 1] rfl)
      have h := o_f h c11
      refine lv_ldc2 hx hb hown w178 dX6_digest_207 ?_
      refine lv_lload_n hx hb dX6_digest_210 rfl (lv_at hl 1 rfl) ?_
      refine lv_lmul hx hb dX6_digest_211 ?_
      refine lv_aload_n hx hb dX6_digest_212 rfl (lv_at hl 0 rfl) ?_
      refine lv_bipush (v := (10 : Int32)) hx hb dX6_digest_213 (by decide) ?_
      refine lv_iload_n hx hb dX6_digest_215 rfl (lv_at hl 2 rfl) ?_
      obtain ⟨v40, g41, h⟩ := o_b h
      refine k_rw (va_runV (As := [.int (10 : Int32), .int y3]) (rest := [.long ((31 : Int64) * y1)]) ⟨hx, hb, hml, hown, hts⟩ (c_X6_tried l dC dI cI cF a S (10 : Int32) y3 v40 g41 H.size) (cwV 2 hts gX6_digest_X6_tried rfl rfl rfl (by decide +kernel) ⟨Nat.le_of_ble_eq_true rfl, Nat.le_of_ble_eq_true rfl⟩) (k_preVw (q0 := 0) (ci := 6) hK hP hD [0, 1, 2, 3, 4, 5] rfl rfl rfl rfl rfl) rfl rfl hl.1 rfl (lv_room (Nat.le_of_ble_eq_true rfl)) dX6_digest_216 ⟨Nat.zero_le _, Nat.zero_le _⟩) (st1 := [.int v40.1, .long ((31 : Int64) * y1)]) rfl hP hD hS hA [0, 1, 2, 3, 4, 5] rfl rfl (wn := wX6 a cI cF v40.2) rfl rfl rfl (fun H locs hP hD hS => ?_)
      refine lv_i2l hx hb dX6_digest_219 rfl ?_
      refine lv_ladd hx hb dX6_digest_220 ?_
      obtain ⟨x1_42, e43, h⟩ := o_n h
      refine lv_nml e43 ?_
      refine lv_lstore_n (lv' := [(1, .long x1_42), (0, .ref (a 0)), (3, .int y3)]) hx hb dX6_digest_221 rfl hl (by decide) rfl (fun ls hl => ?_)
      obtain ⟨x3_44, e45, h⟩ := o_n h
      refine lv_iinc (v := x3_44) (lv' := [(3, .int x3_44), (1, .long x1_42), (0, .ref (a 0))]) hx hb dX6_digest_222 hl (k := 2) rfl (by rw [e45]; rfl) (by decide) rfl (fun ls hl => ?_)
      refine lv_goto (tgt := 202) hx hb dX6_digest_225 (by decide) ?_
      exact ih202 _ _ _ h _ _ hP hD hS _ (lv_sub hl [2, 1, 0] rfl)
  have L188 : ∀ (y1 : Int64) (S : S_X6), m_X6_digest_L188 y1 S = some u → ∀ (H : Heap) (locs : List Loc), va_P (dC, dI) vwCl (wX6 a cI cF S) H → va_D A (wX6 a cI cF S) → va_S A s.heap H locs → ∀ (ls : Array Slot), lv_has ls 5 [(0, .ref (a 0)), (1, .long y1)] → W p l e (headSpec wsX6_digest ({ frames := 6, cells := 0, slots := 0, locals := 143 } : Room)).room s m ([.ref (a 0)] : List Value).toArray below meth c H locs 0 0 (MQ below (qRW (dC, dI) (wX6 a cI cF u.2) (some (.long u.1)) A) ([.ref (a 0)] : List Value).toArray s 0 0 A) (F0 m 188 ls []) := by
    intro  y1 S h H locs hP hD hS ls hl
    rw [m_X6_digest_L188] at h
    refine lv_ldc2 hx hb hown w178 dX6_digest_188 ?_
    refine lv_lload_n hx hb dX6_digest_191 rfl (lv_at hl 1 rfl) ?_
    refine lv_lmul hx hb dX6_digest_192 ?_
    refine lv_aload_n hx hb dX6_digest_193 rfl (lv_at hl 0 rfl) ?_
    obtain ⟨v7, g8, h⟩ := o_b h
    refine k_ro (va_runV (As := []) (rest := [.long ((31 : Int64) * y1)]) ⟨hx, hb, hml, hown, hts⟩ (c_X6_reason l dC dI cI cF a S v7 g8) (cwV 0 hts gX6_digest_X6_reason rfl rfl rfl (by decide +kernel) ⟨Nat.le_of_ble_eq_true rfl, Nat.le_of_ble_eq_true rfl⟩) (k_preV (q0 := 0) (ci := 6) hK (hP.sub (ws' := wX6 a cI cF S) [0, 1, 2, 3, 4, 5] rfl) rfl rfl rfl) rfl rfl hl.1 rfl (lv_room (Nat.le_of_ble_eq_true rfl)) dX6_digest_194 ⟨Nat.zero_le _, Nat.zero_le _⟩) (st1 := [.int v7, .long ((31 : Int64) * y1)]) rfl ?_
    refine lv_i2l hx hb dX6_digest_197 rfl ?_
    refine lv_ladd hx hb dX6_digest_198 ?_
    obtain ⟨x1_9, e10, h⟩ := o_n h
    refine lv_nml e10 ?_
    refine lv_lstore_n (lv' := [(1, .long x1_9), (0, .ref (a 0))]) hx hb dX6_digest_199 rfl hl (by decide) rfl (fun ls hl => ?_)
    refine lv_iconst (v := (0 : Int32)) hx hb dX6_digest_200 (by decide) ?_
    refine lv_istore_n (lv' := [(3, .int (0 : Int32)), (1, .long x1_9), (0, .ref (a 0))]) hx hb dX6_digest_201 rfl hl (by decide) rfl (fun ls hl => ?_)
    exact L202 _ _ _ _ h _ _ hP hD hS _ (lv_sub hl [2, 1, 0] rfl)
  have L163 : ∀ (n : Nat), ∀ (y1 : Int64) (y3 : Int32) (S : S_X6), m_X6_digest_L163 n y1 y3 S = some u → ∀ (H : Heap) (locs : List Loc), va_P (dC, dI) vwCl (wX6 a cI cF S) H → va_D A (wX6 a cI cF S) → va_S A s.heap H locs → ∀ (ls : Array Slot), lv_has ls 5 [(0, .ref (a 0)), (1, .long y1), (3, .int y3)] → W p l e (headSpec wsX6_digest ({ frames := 6, cells := 0, slots := 0, locals := 143 } : Room)).room s m ([.ref (a 0)] : List Value).toArray below meth c H locs 0 0 (MQ below (qRW (dC, dI) (wX6 a cI cF u.2) (some (.long u.1)) A) ([.ref (a 0)] : List Value).toArray s 0 0 A) (F0 m 163 ls []) := by
    intro  n
    induction n with
    | zero =>
      intro y1 y3 S h
      exact (o_0 h).elim
    | succ n ih163 =>
      intro y1 y3 S h H locs hP hD hS ls hl
      rw [m_X6_digest_L163] at h
      refine lv_iload_n hx hb dX6_digest_163 rfl (lv_at hl 2 rfl) ?_
      refine lv_bipush (v := (7 : Int32)) hx hb dX6_digest_164 (by decide) ?_
      refine lv_icmp_ge (tgt := 188) hx hb dX6_digest_166 (by decide) (fun c6 => ?_) (fun c6 => ?_)
      · have h := o_t h c6
        exact L188 _ _ h _ _ hP hD hS _ (lv_sub hl [0, 1] rfl)
      have h := o_f h c6
      refine lv_ldc2 hx hb hown w178 dX6_digest_169 ?_
      refine lv_lload_n hx hb dX6_digest_172 rfl (lv_at hl 1 rfl) ?_
      refine lv_lmul hx hb dX6_digest_173 ?_
      refine lv_aload_n hx hb dX6_digest_174 rfl (lv_at hl 0 rfl) ?_
      refine lv_iload_n hx hb dX6_digest_175 rfl (lv_at hl 2 rfl) ?_
      obtain ⟨v46, g47, h⟩ := o_b h
      refine k_ro (va_runV (As := [.int y3]) (rest := [.long ((31 : Int64) * y1)]) ⟨hx, hb, hml, hown, hts⟩ (c_X6_remembered l dC dI cI cF a S y3 v46 g47) (cwV 1 hts gX6_digest_X6_remembered rfl rfl rfl (by decide +kernel) ⟨Nat.le_of_ble_eq_true rfl, Nat.le_of_ble_eq_true rfl⟩) (k_preV (q0 := 0) (ci := 6) hK (hP.sub (ws' := wX6 a cI cF S) [0, 1, 2, 3, 4, 5] rfl) rfl rfl rfl) rfl rfl hl.1 rfl (lv_room (Nat.le_of_ble_eq_true rfl)) dX6_digest_176 ⟨Nat.zero_le _, Nat.zero_le _⟩) (st1 := [.int v46, .long ((31 : Int64) * y1)]) rfl ?_
      refine lv_i2l hx hb dX6_digest_179 rfl ?_
      refine lv_ladd hx hb dX6_digest_180 ?_
      obtain ⟨x1_48, e49, h⟩ := o_n h
      refine lv_nml e49 ?_
      refine lv_lstore_n (lv' := [(1, .long x1_48), (0, .ref (a 0)), (3, .int y3)]) hx hb dX6_digest_181 rfl hl (by decide) rfl (fun ls hl => ?_)
      obtain ⟨x3_50, e51, h⟩ := o_n h
      refine lv_iinc (v := x3_50) (lv' := [(3, .int x3_50), (1, .long x1_48), (0, .ref (a 0))]) hx hb dX6_digest_182 hl (k := 2) rfl (by rw [e51]; rfl) (by decide) rfl (fun ls hl => ?_)
      refine lv_goto (tgt := 163) hx hb dX6_digest_185 (by decide) ?_
      exact ih163 _ _ _ h _ _ hP hD hS _ (lv_sub hl [2, 1, 0] rfl)
  have L140 : ∀ (k69 : Int64 → Int32 → S_X6 → Option (Int64 × S_X6)) (ih69 : ∀ (y1 : Int64) (y3 : Int32) (S : S_X6), k69 y1 y3 S = some u → ∀ (H : Heap) (locs : List Loc), va_P (dC, dI) vwCl (wX6 a cI cF S) H → va_D A (wX6 a cI cF S) → va_S A s.heap H locs → ∀ (ls : Array Slot), lv_has ls 5 [(0, .ref (a 0)), (1, .long y1), (3, .int y3)] → W p l e (headSpec wsX6_digest ({ frames := 6, cells := 0, slots := 0, locals := 143 } : Room)).room s m ([.ref (a 0)] : List Value).toArray below meth c H locs 0 0 (MQ below (qRW (dC, dI) (wX6 a cI cF u.2) (some (.long u.1)) A) ([.ref (a 0)] : List Value).toArray s 0 0 A) (F0 m 69 ls [])), ∀ (y1 : Int64) (y3 : Int32) (S : S_X6), m_X6_digest_L140 k69 y1 y3 S = some u → ∀ (H : Heap) (locs : List Loc), va_P (dC, dI) vwCl (wX6 a cI cF S) H → va_D A (wX6 a cI cF S) → va_S A s.heap H locs → ∀ (ls : Array Slot), lv_has ls 5 [(0, .ref (a 0)), (1, .long y1), (3, .int y3)] → W p l e (headSpec wsX6_digest ({ frames := 6, cells := 0, slots := 0, locals := 143 } : Room)).room s m ([.ref (a 0)] : List Value).toArray below meth c H locs 0 0 (MQ below (qRW (dC, dI) (wX6 a cI cF u.2) (some (.long u.1)) A) ([.ref (a 0)] : List Value).toArray s 0 0 A) (F0 m 140 ls []) := by
    intro k69 ih69 y1 y3 S h H locs hP hD hS ls hl
    rw [m_X6_digest_L140] at h
    refine lv_ldc2 hx hb hown w178 dX6_digest_140 ?_
    refine lv_lload_n hx hb dX6_digest_143 rfl (lv_at hl 1 rfl) ?_
    refine lv_lmul hx hb dX6_digest_144 ?_
    refine lv_aload_n hx hb dX6_digest_145 rfl (lv_at hl 0 rfl) ?_
    refine lv_iload_n hx hb dX6_digest_146 rfl (lv_at hl 2 rfl) ?_
    obtain ⟨v56, g57, h⟩ := o_b h
    refine k_ro (va_runV (As := [.int y3]) (rest := [.long ((31 : Int64) * y1)]) ⟨hx, hb, hml, hown, hts⟩ (c_X6_meanOf l dC dI cI cF a S y3 v56 g57) (cwV 1 hts gX6_digest_X6_meanOf rfl rfl rfl (by decide +kernel) ⟨Nat.le_of_ble_eq_true rfl, Nat.le_of_ble_eq_true rfl⟩) (k_preV (q0 := 0) (ci := 6) hK (hP.sub (ws' := wX6 a cI cF S) [0, 1, 2, 3, 4, 5] rfl) rfl rfl rfl) rfl rfl hl.1 rfl (lv_room (Nat.le_of_ble_eq_true rfl)) dX6_digest_147 ⟨Nat.zero_le _, Nat.zero_le _⟩) (st1 := [.double v56, .long ((31 : Int64) * y1)]) rfl ?_
    obtain ⟨v58, g59, h⟩ := o_b h
    refine k_ro (va_runS (As := [.double v56]) (rest := [.long ((31 : Int64) * y1)]) ⟨hx, hb, hml, hown, hts⟩ (c_X6_bitsOf l dC dI cI cF v56 v58 g59) (va_cwS 1 hts gX6_digest_X6_bitsOf rfl rfl rfl (by decide +kernel) ⟨Nat.le_of_ble_eq_true rfl, Nat.le_of_ble_eq_true rfl⟩) (k_prePU) rfl rfl hl.1 rfl (lv_room (Nat.le_of_ble_eq_true rfl)) dX6_digest_150 ⟨Nat.zero_le _, Nat.zero_le _⟩) (st1 := [.long v58, .long ((31 : Int64) * y1)]) rfl ?_
    refine lv_ladd hx hb dX6_digest_153 ?_
    obtain ⟨x1_60, e61, h⟩ := o_n h
    refine lv_nml e61 ?_
    refine lv_lstore_n (lv' := [(1, .long x1_60), (0, .ref (a 0)), (3, .int y3)]) hx hb dX6_digest_154 rfl hl (by decide) rfl (fun ls hl => ?_)
    obtain ⟨x3_62, e63, h⟩ := o_n h
    refine lv_iinc (v := x3_62) (lv' := [(3, .int x3_62), (1, .long x1_60), (0, .ref (a 0))]) hx hb dX6_digest_155 hl (k := 2) rfl (by rw [e63]; rfl) (by decide) rfl (fun ls hl => ?_)
    refine lv_goto (tgt := 69) hx hb dX6_digest_158 (by decide) ?_
    exact ih69 _ _ _ h _ _ hP hD hS _ (lv_sub hl [2, 1, 0] rfl)
  have L109 : ∀ (k69 : Int64 → Int32 → S_X6 → Option (Int64 × S_X6)) (ih69 : ∀ (y1 : Int64) (y3 : Int32) (S : S_X6), k69 y1 y3 S = some u → ∀ (H : Heap) (locs : List Loc), va_P (dC, dI) vwCl (wX6 a cI cF S) H → va_D A (wX6 a cI cF S) → va_S A s.heap H locs → ∀ (ls : Array Slot), lv_has ls 5 [(0, .ref (a 0)), (1, .long y1), (3, .int y3)] → W p l e (headSpec wsX6_digest ({ frames := 6, cells := 0, slots := 0, locals := 143 } : Room)).room s m ([.ref (a 0)] : List Value).toArray below meth c H locs 0 0 (MQ below (qRW (dC, dI) (wX6 a cI cF u.2) (some (.long u.1)) A) ([.ref (a 0)] : List Value).toArray s 0 0 A) (F0 m 69 ls [])) (n : Nat), ∀ (y1 : Int64) (y3 : Int32) (y4 : Int32) (S : S_X6), m_X6_digest_L109 k69 n y1 y3 y4 S = some u → ∀ (H : Heap) (locs : List Loc), va_P (dC, dI) vwCl (wX6 a cI cF S) H → va_D A (wX6 a cI cF S) → va_S A s.heap H locs → ∀ (ls : Array Slot), lv_has ls 5 [(0, .ref (a 0)), (1, .long y1), (3, .int y3), (4, .int y4)] → W p l e (headSpec wsX6_digest ({ frames := 6, cells := 0, slots := 0, locals := 143 } : Room)).room s m ([.ref (a 0)] : List Value).toArray below meth c H locs 0 0 (MQ below (qRW (dC, dI) (wX6 a cI cF u.2) (some (.long u.1)) A) ([.ref (a 0)] : List Value).toArray s 0 0 A) (F0 m 109 ls []) := by
    intro k69 ih69 n
    induction n with
    | zero =>
      intro y1 y3 y4 S h
      exact (o_0 h).elim
    | succ n ih109 =>
      intro y1 y3 y4 S h H locs hP hD hS ls hl
      rw [m_X6_digest_L109] at h
      refine lv_iload hx hb dX6_digest_109 (lv_at hl 3 rfl) ?_
      refine lv_aload_n hx hb dX6_digest_111 rfl (lv_at hl 0 rfl) ?_
      refine lv_iload_n hx hb dX6_digest_112 rfl (lv_at hl 2 rfl) ?_
      obtain ⟨v53, g54, h⟩ := o_b h
      refine k_ro (va_runV (As := [.int y3]) (rest := [.int y4]) ⟨hx, hb, hml, hown, hts⟩ (c_X6_metres l dC dI cI cF a S y3 v53 g54) (cwV 1 hts gX6_digest_X6_metres rfl rfl rfl (by decide +kernel) ⟨Nat.le_of_ble_eq_true rfl, Nat.le_of_ble_eq_true rfl⟩) (k_preV (q0 := 0) (ci := 6) hK (hP.sub (ws' := wX6 a cI cF S) [0, 1, 2, 3, 4, 5] rfl) rfl rfl rfl) rfl rfl hl.1 rfl (lv_room (Nat.le_of_ble_eq_true rfl)) dX6_digest_113 ⟨Nat.zero_le _, Nat.zero_le _⟩) (st1 := [.int v53, .int y4]) rfl ?_
      refine lv_icmp_ge (tgt := 140) hx hb dX6_digest_116 (by decide) (fun c55 => ?_) (fun c55 => ?_)
      · have h := o_t h c55
        exact L140 _ ih69 _ _ _ h _ _ hP hD hS _ (lv_sub hl [0, 1, 2] rfl)
      have h := o_f h c55
      refine lv_ldc2 hx hb hown w178 dX6_digest_119 ?_
      refine lv_lload_n hx hb dX6_digest_122 rfl (lv_at hl 1 rfl) ?_
      refine lv_lmul hx hb dX6_digest_123 ?_
      refine lv_aload_n hx hb dX6_digest_124 rfl (lv_at hl 0 rfl) ?_
      refine lv_iload_n hx hb dX6_digest_125 rfl (lv_at hl 2 rfl) ?_
      refine lv_iload hx hb dX6_digest_126 (lv_at hl 3 rfl) ?_
      obtain ⟨v64, g65, h⟩ := o_b h
      refine k_ro (va_runV (As := [.int y3, .int y4]) (rest := [.long ((31 : Int64) * y1)]) ⟨hx, hb, hml, hown, hts⟩ (c_X6_weight l dC dI cI cF a S y3 y4 v64 g65) (cwV 2 hts gX6_digest_X6_weight rfl rfl rfl (by decide +kernel) ⟨Nat.le_of_ble_eq_true rfl, Nat.le_of_ble_eq_true rfl⟩) (k_preV (q0 := 0) (ci := 6) hK (hP.sub (ws' := wX6 a cI cF S) [0, 1, 2, 3, 4, 5] rfl) rfl rfl rfl) rfl rfl hl.1 rfl (lv_room (Nat.le_of_ble_eq_true rfl)) dX6_digest_128 ⟨Nat.zero_le _, Nat.zero_le _⟩) (st1 := [.int v64, .long ((31 : Int64) * y1)]) rfl ?_
      refine lv_i2l hx hb dX6_digest_131 rfl ?_
      refine lv_ladd hx hb dX6_digest_132 ?_
      obtain ⟨x1_66, e67, h⟩ := o_n h
      refine lv_nml e67 ?_
      refine lv_lstore_n (lv' := [(1, .long x1_66), (0, .ref (a 0)), (3, .int y3), (4, .int y4)]) hx hb dX6_digest_133 rfl hl (by decide) rfl (fun ls hl => ?_)
      obtain ⟨x4_68, e69, h⟩ := o_n h
      refine lv_iinc (v := x4_68) (lv' := [(4, .int x4_68), (1, .long x1_66), (0, .ref (a 0)), (3, .int y3)]) hx hb dX6_digest_134 hl (k := 3) rfl (by rw [e69]; rfl) (by decide) rfl (fun ls hl => ?_)
      refine lv_goto (tgt := 109) hx hb dX6_digest_137 (by decide) ?_
      exact ih109 _ _ _ _ h _ _ hP hD hS _ (lv_sub hl [2, 1, 3, 0] rfl)
  have L78 : ∀ (k69 : Int64 → Int32 → S_X6 → Option (Int64 × S_X6)) (ih69 : ∀ (y1 : Int64) (y3 : Int32) (S : S_X6), k69 y1 y3 S = some u → ∀ (H : Heap) (locs : List Loc), va_P (dC, dI) vwCl (wX6 a cI cF S) H → va_D A (wX6 a cI cF S) → va_S A s.heap H locs → ∀ (ls : Array Slot), lv_has ls 5 [(0, .ref (a 0)), (1, .long y1), (3, .int y3)] → W p l e (headSpec wsX6_digest ({ frames := 6, cells := 0, slots := 0, locals := 143 } : Room)).room s m ([.ref (a 0)] : List Value).toArray below meth c H locs 0 0 (MQ below (qRW (dC, dI) (wX6 a cI cF u.2) (some (.long u.1)) A) ([.ref (a 0)] : List Value).toArray s 0 0 A) (F0 m 69 ls [])) (n : Nat), ∀ (y1 : Int64) (y3 : Int32) (y4 : Int32) (S : S_X6), m_X6_digest_L78 k69 n y1 y3 y4 S = some u → ∀ (H : Heap) (locs : List Loc), va_P (dC, dI) vwCl (wX6 a cI cF S) H → va_D A (wX6 a cI cF S) → va_S A s.heap H locs → ∀ (ls : Array Slot), lv_has ls 5 [(0, .ref (a 0)), (1, .long y1), (3, .int y3), (4, .int y4)] → W p l e (headSpec wsX6_digest ({ frames := 6, cells := 0, slots := 0, locals := 143 } : Room)).room s m ([.ref (a 0)] : List Value).toArray below meth c H locs 0 0 (MQ below (qRW (dC, dI) (wX6 a cI cF u.2) (some (.long u.1)) A) ([.ref (a 0)] : List Value).toArray s 0 0 A) (F0 m 78 ls []) := by
    intro k69 ih69 n
    induction n with
    | zero =>
      intro y1 y3 y4 S h
      exact (o_0 h).elim
    | succ n ih78 =>
      intro y1 y3 y4 S h H locs hP hD hS ls hl
      rw [m_X6_digest_L78] at h
      refine lv_iload hx hb dX6_digest_78 (lv_at hl 3 rfl) ?_
      refine lv_bipush (v := (8 : Int32)) hx hb dX6_digest_80 (by decide) ?_
      refine lv_icmp_ge (tgt := 106) hx hb dX6_digest_82 (by decide) (fun c52 => ?_) (fun c52 => ?_)
      · have h := o_t h c52
        refine lv_iconst (v := (0 : Int32)) hx hb dX6_digest_106 (by decide) ?_
        refine lv_istore (lv' := [(4, .int (0 : Int32)), (0, .ref (a 0)), (1, .long y1), (3, .int y3)]) hx hb dX6_digest_107 hl (by decide) rfl (fun ls hl => ?_)
        exact L109 _ ih69 _ _ _ _ _ h _ _ hP hD hS _ (lv_sub hl [1, 2, 3, 0] rfl)
      have h := o_f h c52
      refine lv_ldc2 hx hb hown w178 dX6_digest_85 ?_
      refine lv_lload_n hx hb dX6_digest_88 rfl (lv_at hl 1 rfl) ?_
      refine lv_lmul hx hb dX6_digest_89 ?_
      refine lv_aload_n hx hb dX6_digest_90 rfl (lv_at hl 0 rfl) ?_
      refine lv_iload_n hx hb dX6_digest_91 rfl (lv_at hl 2 rfl) ?_
      refine lv_iload hx hb dX6_digest_92 (lv_at hl 3 rfl) ?_
      obtain ⟨v70, g71, h⟩ := o_b h
      refine k_ro (va_runV (As := [.int y3, .int y4]) (rest := [.long ((31 : Int64) * y1)]) ⟨hx, hb, hml, hown, hts⟩ (c_X6_canNumber l dC dI cI cF a S y3 y4 v70 g71) (cwV 2 hts gX6_digest_X6_canNumber rfl rfl rfl (by decide +kernel) ⟨Nat.le_of_ble_eq_true rfl, Nat.le_of_ble_eq_true rfl⟩) (k_preV (q0 := 0) (ci := 6) hK (hP.sub (ws' := wX6 a cI cF S) [0, 1, 2, 3, 4, 5] rfl) rfl rfl rfl) rfl rfl hl.1 rfl (lv_room (Nat.le_of_ble_eq_true rfl)) dX6_digest_94 ⟨Nat.zero_le _, Nat.zero_le _⟩) (st1 := [.int v70, .long ((31 : Int64) * y1)]) rfl ?_
      refine lv_i2l hx hb dX6_digest_97 rfl ?_
      refine lv_ladd hx hb dX6_digest_98 ?_
      obtain ⟨x1_72, e73, h⟩ := o_n h
      refine lv_nml e73 ?_
      refine lv_lstore_n (lv' := [(1, .long x1_72), (0, .ref (a 0)), (3, .int y3), (4, .int y4)]) hx hb dX6_digest_99 rfl hl (by decide) rfl (fun ls hl => ?_)
      obtain ⟨x4_74, e75, h⟩ := o_n h
      refine lv_iinc (v := x4_74) (lv' := [(4, .int x4_74), (1, .long x1_72), (0, .ref (a 0)), (3, .int y3)]) hx hb dX6_digest_100 hl (k := 3) rfl (by rw [e75]; rfl) (by decide) rfl (fun ls hl => ?_)
      refine lv_goto (tgt := 78) hx hb dX6_digest_103 (by decide) ?_
      exact ih78 _ _ _ _ h _ _ hP hD hS _ (lv_sub hl [2, 1, 3, 0] rfl)
  have L69 : ∀ (n : Nat), ∀ (y1 : Int64) (y3 : Int32) (S : S_X6), m_X6_digest_L69 n y1 y3 S = some u → ∀ (H : Heap) (locs : List Loc), va_P (dC, dI) vwCl (wX6 a cI cF S) H → va_D A (wX6 a cI cF S) → va_S A s.heap H locs → ∀ (ls : Array Slot), lv_has ls 5 [(0, .ref (a 0)), (1, .long y1), (3, .int y3)] → W p l e (headSpec wsX6_digest ({ frames := 6, cells := 0, slots := 0, locals := 143 } : Room)).room s m ([.ref (a 0)] : List Value).toArray below meth c H locs 0 0 (MQ below (qRW (dC, dI) (wX6 a cI cF u.2) (some (.long u.1)) A) ([.ref (a 0)] : List Value).toArray s 0 0 A) (F0 m 69 ls []) := by
    intro  n
    induction n with
    | zero =>
      intro y1 y3 S h
      exact (o_0 h).elim
    | succ n ih69 =>
      intro y1 y3 S h H locs hP hD hS ls hl
      rw [m_X6_digest_L69] at h
      refine lv_iload_n hx hb dX6_digest_69 rfl (lv_at hl 2 rfl) ?_
      refine lv_bipush (v := (8 : Int32)) hx hb dX6_digest_70 (by decide) ?_
      refine lv_icmp_ge (tgt := 161) hx hb dX6_digest_72 (by decide) (fun c5 => ?_) (fun c5 => ?_)
      · have h := o_t h c5
        refine lv_iconst (v := (0 : Int32)) hx hb dX6_digest_161 (by decide) ?_
        refine lv_istore_n (lv' := [(3, .int (0 : Int32)), (0, .ref (a 0)), (1, .long y1)]) hx hb dX6_digest_162 rfl hl (by decide) rfl (fun ls hl => ?_)
        exact L163 _ _ _ _ h _ _ hP hD hS _ (lv_sub hl [1, 2, 0] rfl)
      have h := o_f h c5
      refine lv_iconst (v := (0 : Int32)) hx hb dX6_digest_75 (by decide) ?_
      refine lv_istore (lv' := [(4, .int (0 : Int32)), (0, .ref (a 0)), (1, .long y1), (3, .int y3)]) hx hb dX6_digest_76 hl (by decide) rfl (fun ls hl => ?_)
      exact L78 _ ih69 _ _ _ _ _ h _ _ hP hD hS _ (lv_sub hl [1, 2, 3, 0] rfl)
  have L38 : ∀ (n : Nat), ∀ (y1 : Int64) (y3 : Int32) (S : S_X6), m_X6_digest_L38 n y1 y3 S = some u → ∀ (H : Heap) (locs : List Loc), va_P (dC, dI) vwCl (wX6 a cI cF S) H → va_D A (wX6 a cI cF S) → va_S A s.heap H locs → ∀ (ls : Array Slot), lv_has ls 5 [(0, .ref (a 0)), (1, .long y1), (3, .int y3)] → W p l e (headSpec wsX6_digest ({ frames := 6, cells := 0, slots := 0, locals := 143 } : Room)).room s m ([.ref (a 0)] : List Value).toArray below meth c H locs 0 0 (MQ below (qRW (dC, dI) (wX6 a cI cF u.2) (some (.long u.1)) A) ([.ref (a 0)] : List Value).toArray s 0 0 A) (F0 m 38 ls []) := by
    intro  n
    induction n with
    | zero =>
      intro y1 y3 S h
      exact (o_0 h).elim
    | succ n ih38 =>
      intro y1 y3 S h H locs hP hD hS ls hl
      rw [m_X6_digest_L38] at h
      refine lv_iload_n hx hb dX6_digest_38 rfl (lv_at hl 2 rfl) ?_
      refine lv_iconst (v := (5 : Int32)) hx hb dX6_digest_39 (by decide) ?_
      refine lv_icmp_ge (tgt := 67) hx hb dX6_digest_40 (by decide) (fun c4 => ?_) (fun c4 => ?_)
      · have h := o_t h c4
        refine lv_iconst (v := (0 : Int32)) hx hb dX6_digest_67 (by decide) ?_
        refine lv_istore_n (lv' := [(3, .int (0 : Int32)), (0, .ref (a 0)), (1, .long y1)]) hx hb dX6_digest_68 rfl hl (by decide) rfl (fun ls hl => ?_)
        exact L69 _ _ _ _ h _ _ hP hD hS _ (lv_sub hl [1, 2, 0] rfl)
      have h := o_f h c4
      refine lv_ldc2 hx hb hown w178 dX6_digest_43 ?_
      refine lv_lload_n hx hb dX6_digest_46 rfl (lv_at hl 1 rfl) ?_
      refine lv_lmul hx hb dX6_digest_47 ?_
      refine lv_aload_n hx hb dX6_digest_48 rfl (lv_at hl 0 rfl) ?_
      refine va_get (D := (dC, dI)) (ci := 6) (v := .ref (a 1)) (C := RX6) (T := TX6) (N := 11) hx hb huX6 (fun _ h9 => h9) hown hK hP 0 rfl rfl 0 (by decide) w7 (fun _ h9 => h9) rfl dX6_digest_49 ?_
      refine lv_sipush (v := (340 : Int32)) hx hb dX6_digest_52 (by decide) ?_
      refine lv_iload_n hx hb dX6_digest_55 rfl (lv_at hl 2 rfl) ?_
      refine lv_iadd hx hb dX6_digest_56 ?_
      obtain ⟨i76, h⟩ := o_in h
      refine va_iald hx hb hK hP 1 0 rfl rfl i76 dX6_digest_57 ?_
      refine lv_i2l hx hb dX6_digest_58 rfl ?_
      refine lv_ladd hx hb dX6_digest_59 ?_
      obtain ⟨x1_77, e78, h⟩ := o_n h
      refine lv_nml e78 ?_
      refine lv_lstore_n (lv' := [(1, .long x1_77), (0, .ref (a 0)), (3, .int y3)]) hx hb dX6_digest_60 rfl hl (by decide) rfl (fun ls hl => ?_)
      obtain ⟨x3_79, e80, h⟩ := o_n h
      refine lv_iinc (v := x3_79) (lv' := [(3, .int x3_79), (1, .long x1_77), (0, .ref (a 0))]) hx hb dX6_digest_61 hl (k := 2) rfl (by rw [e80]; rfl) (by decide) rfl (fun ls hl => ?_)
      refine lv_goto (tgt := 38) hx hb dX6_digest_64 (by decide) ?_
      exact ih38 _ _ _ h _ _ hP hD hS _ (lv_sub hl [2, 1, 0] rfl)
  have L11 : ∀ (n : Nat), ∀ (y1 : Int64) (y3 : Int32) (S : S_X6), m_X6_digest_L11 n y1 y3 S = some u → ∀ (H : Heap) (locs : List Loc), va_P (dC, dI) vwCl (wX6 a cI cF S) H → va_D A (wX6 a cI cF S) → va_S A s.heap H locs → ∀ (ls : Array Slot), lv_has ls 5 [(0, .ref (a 0)), (1, .long y1), (3, .int y3)] → W p l e (headSpec wsX6_digest ({ frames := 6, cells := 0, slots := 0, locals := 143 } : Room)).room s m ([.ref (a 0)] : List Value).toArray below meth c H locs 0 0 (MQ below (qRW (dC, dI) (wX6 a cI cF u.2) (some (.long u.1)) A) ([.ref (a 0)] : List Value).toArray s 0 0 A) (F0 m 11 ls []) := by
    intro  n
    induction n with
    | zero =>
      intro y1 y3 S h
      exact (o_0 h).elim
    | succ n ih11 =>
      intro y1 y3 S h H locs hP hD hS ls hl
      rw [m_X6_digest_L11] at h
      refine lv_iload_n hx hb dX6_digest_11 rfl (lv_at hl 2 rfl) ?_
      refine lv_bipush (v := (12 : Int32)) hx hb dX6_digest_12 (by decide) ?_
      refine lv_icmp_ge (tgt := 36) hx hb dX6_digest_14 (by decide) (fun c3 => ?_) (fun c3 => ?_)
      · have h := o_t h c3
        refine lv_iconst (v := (0 : Int32)) hx hb dX6_digest_36 (by decide) ?_
        refine lv_istore_n (lv' := [(3, .int (0 : Int32)), (0, .ref (a 0)), (1, .long y1)]) hx hb dX6_digest_37 rfl hl (by decide) rfl (fun ls hl => ?_)
        exact L38 _ _ _ _ h _ _ hP hD hS _ (lv_sub hl [1, 2, 0] rfl)
      have h := o_f h c3
      refine lv_ldc2 hx hb hown w178 dX6_digest_17 ?_
      refine lv_lload_n hx hb dX6_digest_20 rfl (lv_at hl 1 rfl) ?_
      refine lv_lmul hx hb dX6_digest_21 ?_
      refine lv_aload_n hx hb dX6_digest_22 rfl (lv_at hl 0 rfl) ?_
      refine lv_iload_n hx hb dX6_digest_23 rfl (lv_at hl 2 rfl) ?_
      obtain ⟨v81, g82, h⟩ := o_b h
      refine k_ro (va_runV (As := [.int y3]) (rest := [.long ((31 : Int64) * y1)]) ⟨hx, hb, hml, hown, hts⟩ (c_X6_counted l dC dI cI cF a S y3 v81 g82) (cwV 1 hts gX6_digest_X6_counted rfl rfl rfl (by decide +kernel) ⟨Nat.le_of_ble_eq_true rfl, Nat.le_of_ble_eq_true rfl⟩) (k_preV (q0 := 0) (ci := 6) hK (hP.sub (ws' := wX6 a cI cF S) [0, 1, 2, 3, 4, 5] rfl) rfl rfl rfl) rfl rfl hl.1 rfl (lv_room (Nat.le_of_ble_eq_true rfl)) dX6_digest_24 ⟨Nat.zero_le _, Nat.zero_le _⟩) (st1 := [.int v81, .long ((31 : Int64) * y1)]) rfl ?_
      refine lv_i2l hx hb dX6_digest_27 rfl ?_
      refine lv_ladd hx hb dX6_digest_28 ?_
      obtain ⟨x1_83, e84, h⟩ := o_n h
      refine lv_nml e84 ?_
      refine lv_lstore_n (lv' := [(1, .long x1_83), (0, .ref (a 0)), (3, .int y3)]) hx hb dX6_digest_29 rfl hl (by decide) rfl (fun ls hl => ?_)
      obtain ⟨x3_85, e86, h⟩ := o_n h
      refine lv_iinc (v := x3_85) (lv' := [(3, .int x3_85), (1, .long x1_83), (0, .ref (a 0))]) hx hb dX6_digest_30 hl (k := 2) rfl (by rw [e86]; rfl) (by decide) rfl (fun ls hl => ?_)
      refine lv_goto (tgt := 11) hx hb dX6_digest_33 (by decide) ?_
      exact ih11 _ _ _ h _ _ hP hD hS _ (lv_sub hl [2, 1, 0] rfl)
  have hl := lv_entry ([.ref (a 0)]) (n := 5) (Nat.le_of_ble_eq_true rfl)
  rw [lg_entry_eq]
  generalize (lg_sl ([.ref (a 0)]) ++ List.replicate (5 - (lg_sl ([.ref (a 0)])).length) Slot.unset).toArray = ls at hl ⊢
  have hl : lv_has ls 5 [(0, .ref (a 0))] := hl
  rw [m_X6_digest] at h
  refine lv_aload_n hx hb dX6_digest_0 rfl (lv_at hl 0 rfl) ?_
  refine lv_iconst (v := (0 : Int32)) hx hb dX6_digest_1 (by decide) ?_
  refine va_put (D := (dC, dI)) (ci := 6) (v := .int (0 : Int32)) (ty := .int) (C := RX6) (T := TX6) (N := 11) hx hb huX6 (fun _ h9 => h9) tyX6 tyX6_ok nmX6 hown hK hP hD hS 0 rfl rfl 8 (by decide) w25 (fun _ h9 => h9) rfl (by decide +kernel) rfl rfl (Nat.le_of_ble_eq_true rfl) dX6_digest_2 (fun H locs hP hD hS => ?_)
  have hP : va_P (dC, dI) vwCl (wX6 a cI cF (s_X6_thrown S (0 : Int32))) H := hP
  have hD : va_D A (wX6 a cI cF (s_X6_thrown S (0 : Int32))) := hD
  refine lv_ldc2 hx hb hown w176 dX6_digest_5 ?_
  obtain ⟨x1_1, e2, h⟩ := o_n h
  refine lv_nml e2 ?_
  refine lv_lstore_n (lv' := [(1, .long x1_1), (0, .ref (a 0))]) hx hb dX6_digest_8 rfl hl (by decide) rfl (fun ls hl => ?_)
  refine lv_iconst (v := (0 : Int32)) hx hb dX6_digest_9 (by decide) ?_
  refine lv_istore_n (lv' := [(3, .int (0 : Int32)), (1, .long x1_1), (0, .ref (a 0))]) hx hb dX6_digest_10 rfl hl (by decide) rfl (fun ls hl => ?_)
  exact L11 _ _ _ _ h _ _ hP hD hS _ (lv_sub hl [2, 1, 0] rfl)

