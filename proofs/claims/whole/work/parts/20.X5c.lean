-- X5_mix X5_bitsOfDouble X5_bitsOfFloat X5_isCan X5_isSetting X5_isValue X5_isRunLength X5_fill
def m_X5_mix (x0 : Int64) (x2 : Int64) : Option (Int64) := some (((31 : Int64) * x0) + x2)
set_option maxHeartbeats 4000000 in
set_option maxRecDepth 100000 in
theorem c_X5_mix (l : Launch) (dC : Nat → ClassId) (dI : Nat → Nat → Nat) (cI cF : ClassId) (x0 : Int64) (x2 : Int64) (u : Int64) (h : m_X5_mix x0 x2 = some u) : cPU l yX5_mix wsX5_mix ({ frames := 0, cells := 0, slots := 0, locals := 0 } : Room) [.long x0, .long x2] (some (.long u)) := by
  refine Met.ofW (cc := cX5_mix) (maxL := 4) (ret := (some .long)) (by decide) rfl ?_
  intro p e s m args below meth c s₁ B hml hv
  obtain ⟨hargs, -⟩ := hv
  subst hargs
  have hx := B.exec
  have hb := B.bytes
  have hr := B.returns
  have hts := atoms_spec (ws := wsX5_mix) B.pre
  have hown : s.vm.findClass RX5 = some m.cls := findClass_of_methodNamed B.named
  have hlocks := B.notSynchronized
  have w308 := hts (.constantLong RX5 308 (31)) (List.mem_of_getElem? (i := 1) rfl)
  have hl := lv_entry ([.long x0, .long x2]) (n := 4) (Nat.le_of_ble_eq_true rfl)
  rw [lg_entry_eq]
  generalize (lg_sl ([.long x0, .long x2]) ++ List.replicate (4 - (lg_sl ([.long x0, .long x2])).length) Slot.unset).toArray = ls at hl ⊢
  have hl : lv_has ls 4 [(0, .long x0), (2, .long x2)] := hl
  rw [m_X5_mix] at h
  refine lv_ldc2 hx hb hown w308 dX5_mix_0 ?_
  refine lv_lload_n hx hb dX5_mix_3 rfl (lv_at hl 0 rfl) ?_
  refine lv_lmul hx hb dX5_mix_4 ?_
  refine lv_lload_n hx hb dX5_mix_5 rfl (lv_at hl 1 rfl) ?_
  refine lv_ladd hx hb dX5_mix_6 ?_
  have hu := Option.some.inj h
  exact W.lret (v := ((31 : Int64) * x0) + x2) hx hb hr (fun t ht hW => ⟨congrArg (fun z => Outcome.returned (some (Value.long z))) hu, ht⟩) (fun q hq => absurd hq List.not_mem_nil) dX5_mix_7

def m_X5_bitsOfDouble_L85 (y2 : UInt64) (y4 : Int64) : Option (Int64) := if (FP.dsub y2 FP.dconst1) &&& 0x7fffffffffffffff ≤ 0x7ff0000000000000 then (if (FP.dmul (FP.dsub y2 FP.dconst1) (4841369599423283200 : UInt64)) &&& 0x7fffffffffffffff ≤ 0x7ff0000000000000 then (nmL (FP.d2l (FP.dmul (FP.dsub y2 FP.dconst1) (4841369599423283200 : UInt64))) fun x6_8 => (some ((y4 <<< ((52 : Int32).toInt64 &&& 63)) + x6_8))) else none) else none
def m_X5_bitsOfDouble_L54 : Nat → UInt64 → Int64 → Int32 → Option (Int64)
  | 0, _, _, _ => none
  | n + 1, y2, y4, y6 => if (64 : Int32) ≤ y6 then (m_X5_bitsOfDouble_L85 y2 y4) else (if 0 ≤ (Op.cmpValue (FP.dcmp y2 FP.dconst1) (.g : CmpOp)) then (m_X5_bitsOfDouble_L85 y2 y4) else (if (FP.dmul y2 (4611686018427387904 : UInt64)) &&& 0x7fffffffffffffff ≤ 0x7ff0000000000000 then (nmL (FP.dmul y2 (4611686018427387904 : UInt64)) fun x2_12 => (nmL (y4 - (1 : Int64)) fun x4_14 => (nmL (y6 + 1) fun x6_16 => ((m_X5_bitsOfDouble_L54 n) x2_12 x4_14 x6_16)))) else none))
def m_X5_bitsOfDouble_L18 : Nat → UInt64 → Int64 → Int32 → Option (Int64)
  | 0, _, _, _ => none
  | n + 1, y2, y4, y6 => if (64 : Int32) ≤ y6 then (m_X5_bitsOfDouble_L54 4000 y2 y4 (0 : Int32)) else (if (Op.cmpValue (FP.dcmp y2 (4611686018427387904 : UInt64)) (.l : CmpOp)) < 0 then (m_X5_bitsOfDouble_L54 4000 y2 y4 (0 : Int32)) else (if (FP.ddiv y2 (4611686018427387904 : UInt64)) &&& 0x7fffffffffffffff ≤ 0x7ff0000000000000 then (nmL (FP.ddiv y2 (4611686018427387904 : UInt64)) fun x2_20 => (nmL (y4 + (1 : Int64)) fun x4_22 => (nmL (y6 + 1) fun x6_24 => ((m_X5_bitsOfDouble_L18 n) x2_20 x4_22 x6_24)))) else none))
def m_X5_bitsOfDouble (x0 : UInt64) : Option (Int64) := if 0 < (Op.cmpValue (FP.dcmp x0 FP.dconst0) (.g : CmpOp)) then (nmL ((1023 : Int64)) fun x4_2 => (m_X5_bitsOfDouble_L18 4000 x0 x4_2 (0 : Int32))) else (some (0 : Int64))
set_option maxHeartbeats 4000000 in
set_option maxRecDepth 100000 in
theorem c_X5_bitsOfDouble (l : Launch) (dC : Nat → ClassId) (dI : Nat → Nat → Nat) (cI cF : ClassId) (x0 : UInt64) (u : Int64) (h : m_X5_bitsOfDouble x0 = some u) : cPU l yX5_bitsOfDouble wsX5_bitsOfDouble ({ frames := 0, cells := 0, slots := 0, locals := 0 } : Room) [.double x0] (some (.long u)) := by
  refine Met.ofW (cc := cX5_bitsOfDouble) (maxL := 8) (ret := (some .long)) (by decide) rfl ?_
  intro p e s m args below meth c s₁ B hml hv
  obtain ⟨hargs, -⟩ := hv
  subst hargs
  have hx := B.exec
  have hb := B.bytes
  have hr := B.returns
  have hts := atoms_spec (ws := wsX5_bitsOfDouble) B.pre
  have hown : s.vm.findClass RX5 = some m.cls := findClass_of_methodNamed B.named
  have hlocks := B.notSynchronized
  have w310 := hts (.constantLong RX5 310 (1023)) (List.mem_of_getElem? (i := 1) rfl)
  have w312 := hts (.constantDouble RX5 312 (4611686018427387904)) (List.mem_of_getElem? (i := 2) rfl)
  have w314 := hts (.constantDouble RX5 314 (4841369599423283200)) (List.mem_of_getElem? (i := 3) rfl)
  have L85 : ∀ (y2 : UInt64) (y4 : Int64), m_X5_bitsOfDouble_L85 y2 y4 = some u → ∀ (ls : Array Slot), lv_has ls 8 [(2, .double y2), (4, .long y4)] → W p l e (headSpec wsX5_bitsOfDouble ({ frames := 0, cells := 0, slots := 0, locals := 0 } : Room)).room s m ([.double x0] : List Value).toArray below meth c s.heap [] 0 0 (MQ below (qRO (some (.long u))) ([.double x0] : List Value).toArray s 0 0 (fun _ => False)) (F0 m 85 ls []) := by
    intro  y2 y4 h ls hl
    rw [m_X5_bitsOfDouble_L85] at h
    refine lv_dload_n hx hb dX5_bitsOfDouble_85 rfl (lv_at hl 0 rfl) ?_
    refine lv_dconst1 hx hb dX5_bitsOfDouble_86 ?_
    obtain ⟨i6, h⟩ := o_ok h
    refine lv_dsub hx hb dX5_bitsOfDouble_87 i6 ?_
    refine lv_ldc2d hx hb hown w314 dX5_bitsOfDouble_88 ?_
    obtain ⟨i7, h⟩ := o_ok h
    refine lv_dmul hx hb dX5_bitsOfDouble_91 i7 ?_
    refine lv_d2l hx hb dX5_bitsOfDouble_92 ?_
    obtain ⟨x6_8, e9, h⟩ := o_n h
    refine lv_nml e9 ?_
    refine lv_lstore (lv' := [(6, .long x6_8), (2, .double y2), (4, .long y4)]) hx hb dX5_bitsOfDouble_93 hl (by decide) rfl (fun ls hl => ?_)
    refine lv_lload hx hb dX5_bitsOfDouble_95 (lv_at hl 2 rfl) ?_
    refine lv_bipush (v := (52 : Int32)) hx hb dX5_bitsOfDouble_97 (by decide) ?_
    refine lv_lshl hx hb dX5_bitsOfDouble_99 rfl ?_
    refine lv_lload hx hb dX5_bitsOfDouble_100 (lv_at hl 0 rfl) ?_
    refine lv_ladd hx hb dX5_bitsOfDouble_102 ?_
    have hu := Option.some.inj h
    exact W.lret (v := (y4 <<< ((52 : Int32).toInt64 &&& 63)) + x6_8) hx hb hr (fun t ht hW => ⟨congrArg (fun z => Outcome.returned (some (Value.long z))) hu, ht⟩) (fun q hq => absurd hq List.not_mem_nil) dX5_bitsOfDouble_103
  have L54 : ∀ (n : Nat), ∀ (y2 : UInt64) (y4 : Int64) (y6 : Int32), m_X5_bitsOfDouble_L54 n y2 y4 y6 = some u → ∀ (ls : Array Slot), lv_has ls 8 [(2, .double y2), (4, .long y4), (6, .int y6)] → W p l e (headSpec wsX5_bitsOfDouble ({ frames := 0, cells := 0, slots := 0, locals := 0 } : Room)).room s m ([.double x0] : List Value).toArray below meth c s.heap [] 0 0 (MQ below (qRO (some (.long u))) ([.double x0] : List Value).toArray s 0 0 (fun _ => False)) (F0 m 54 ls []) := by
    intro  n
    induction n with
    | zero =>
      intro y2 y4 y6 h
      exact (o_0 h).elim
    | succ n ih54 =>
      intro y2 y4 y6 h ls hl
      rw [m_X5_bitsOfDouble_L54] at h
      refine lv_iload hx hb dX5_bitsOfDouble_54 (lv_at hl 2 rfl) ?_
      refine lv_bipush (v := (64 : Int32)) hx hb dX5_bitsOfDouble_56 (by decide) ?_
      refine lv_icmp_ge (tgt := 85) hx hb dX5_bitsOfDouble_58 (by decide) (fun c5 => ?_) (fun c5 => ?_)
      · have h := o_t h c5
        exact L85 _ _ h _ (lv_sub hl [0, 1] rfl)
      have h := o_f h c5
      refine lv_dload_n hx hb dX5_bitsOfDouble_61 rfl (lv_at hl 0 rfl) ?_
      refine lv_dconst1 hx hb dX5_bitsOfDouble_62 ?_
      refine lv_dcmp hx hb dX5_bitsOfDouble_63 ?_
      refine lv_if_ge (tgt := 85) hx hb dX5_bitsOfDouble_64 (by decide) (fun c10 => ?_) (fun c10 => ?_)
      · have h := o_t h c10
        exact L85 _ _ h _ (lv_sub hl [0, 1] rfl)
      have h := o_f h c10
      refine lv_dload_n hx hb dX5_bitsOfDouble_67 rfl (lv_at hl 0 rfl) ?_
      refine lv_ldc2d hx hb hown w312 dX5_bitsOfDouble_68 ?_
      obtain ⟨i11, h⟩ := o_ok h
      refine lv_dmul hx hb dX5_bitsOfDouble_71 i11 ?_
      obtain ⟨x2_12, e13, h⟩ := o_n h
      refine lv_nmd e13 ?_
      refine lv_dstore_n (lv' := [(2, .double x2_12), (4, .long y4), (6, .int y6)]) hx hb dX5_bitsOfDouble_72 rfl hl (by decide) rfl (fun ls hl => ?_)
      refine lv_lload hx hb dX5_bitsOfDouble_73 (lv_at hl 1 rfl) ?_
      refine lv_lconst (v := 1) hx hb dX5_bitsOfDouble_75 (by decide) ?_
      refine lv_lsub hx hb dX5_bitsOfDouble_76 ?_
      obtain ⟨x4_14, e15, h⟩ := o_n h
      refine lv_nml e15 ?_
      refine lv_lstore (lv' := [(4, .long x4_14), (2, .double x2_12), (6, .int y6)]) hx hb dX5_bitsOfDouble_77 hl (by decide) rfl (fun ls hl => ?_)
      obtain ⟨x6_16, e17, h⟩ := o_n h
      refine lv_iinc (v := x6_16) (lv' := [(6, .int x6_16), (4, .long x4_14), (2, .double x2_12)]) hx hb dX5_bitsOfDouble_79 hl (k := 2) rfl (by rw [e17]; rfl) (by decide) rfl (fun ls hl => ?_)
      refine lv_goto (tgt := 54) hx hb dX5_bitsOfDouble_82 (by decide) ?_
      exact ih54 _ _ _ h _ (lv_sub hl [2, 1, 0] rfl)
  have L18 : ∀ (n : Nat), ∀ (y2 : UInt64) (y4 : Int64) (y6 : Int32), m_X5_bitsOfDouble_L18 n y2 y4 y6 = some u → ∀ (ls : Array Slot), lv_has ls 8 [(2, .double y2), (4, .long y4), (6, .int y6)] → W p l e (headSpec wsX5_bitsOfDouble ({ frames := 0, cells := 0, slots := 0, locals := 0 } : Room)).room s m ([.double x0] : List Value).toArray below meth c s.heap [] 0 0 (MQ below (qRO (some (.long u))) ([.double x0] : List Value).toArray s 0 0 (fun _ => False)) (F0 m 18 ls []) := by
    intro  n
    induction n with
    | zero =>
      intro y2 y4 y6 h
      exact (o_0 h).elim
    | succ n ih18 =>
      intro y2 y4 y6 h ls hl
      rw [m_X5_bitsOfDouble_L18] at h
      refine lv_iload hx hb dX5_bitsOfDouble_18 (lv_at hl 2 rfl) ?_
      refine lv_bipush (v := (64 : Int32)) hx hb dX5_bitsOfDouble_20 (by decide) ?_
      refine lv_icmp_ge (tgt := 51) hx hb dX5_bitsOfDouble_22 (by decide) (fun c4 => ?_) (fun c4 => ?_)
      · have h := o_t h c4
        refine lv_iconst (v := (0 : Int32)) hx hb dX5_bitsOfDouble_51 (by decide) ?_
        refine lv_istore (lv' := [(6, .int (0 : Int32)), (2, .double y2), (4, .long y4)]) hx hb dX5_bitsOfDouble_52 hl (by decide) rfl (fun ls hl => ?_)
        exact L54 _ _ _ _ h _ (lv_sub hl [1, 2, 0] rfl)
      have h := o_f h c4
      refine lv_dload_n hx hb dX5_bitsOfDouble_25 rfl (lv_at hl 0 rfl) ?_
      refine lv_ldc2d hx hb hown w312 dX5_bitsOfDouble_26 ?_
      refine lv_dcmp hx hb dX5_bitsOfDouble_29 ?_
      refine lv_if_lt (tgt := 51) hx hb dX5_bitsOfDouble_30 (by decide) (fun c18 => ?_) (fun c18 => ?_)
      · have h := o_t h c18
        refine lv_iconst (v := (0 : Int32)) hx hb dX5_bitsOfDouble_51 (by decide) ?_
        refine lv_istore (lv' := [(6, .int (0 : Int32)), (2, .double y2), (4, .long y4)]) hx hb dX5_bitsOfDouble_52 hl (by decide) rfl (fun ls hl => ?_)
        exact L54 _ _ _ _ h _ (lv_sub hl [1, 2, 0] rfl)
      have h := o_f h c18
      refine lv_dload_n hx hb dX5_bitsOfDouble_33 rfl (lv_at hl 0 rfl) ?_
      refine lv_ldc2d hx hb hown w312 dX5_bitsOfDouble_34 ?_
      obtain ⟨i19, h⟩ := o_ok h
      refine lv_ddiv hx hb dX5_bitsOfDouble_37 i19 ?_
      obtain ⟨x2_20, e21, h⟩ := o_n h
      refine lv_nmd e21 ?_
      refine lv_dstore_n (lv' := [(2, .double x2_20), (4, .long y4), (6, .int y6)]) hx hb dX5_bitsOfDouble_38 rfl hl (by decide) rfl (fun ls hl => ?_)
      refine lv_lload hx hb dX5_bitsOfDouble_39 (lv_at hl 1 rfl) ?_
      refine lv_lconst (v := 1) hx hb dX5_bitsOfDouble_41 (by decide) ?_
      refine lv_ladd hx hb dX5_bitsOfDouble_42 ?_
      obtain ⟨x4_22, e23, h⟩ := o_n h
      refine lv_nml e23 ?_
      refine lv_lstore (lv' := [(4, .long x4_22), (2, .double x2_20), (6, .int y6)]) hx hb dX5_bitsOfDouble_43 hl (by decide) rfl (fun ls hl => ?_)
      obtain ⟨x6_24, e25, h⟩ := o_n h
      refine lv_iinc (v := x6_24) (lv' := [(6, .int x6_24), (4, .long x4_22), (2, .double x2_20)]) hx hb dX5_bitsOfDouble_45 hl (k := 2) rfl (by rw [e25]; rfl) (by decide) rfl (fun ls hl => ?_)
      refine lv_goto (tgt := 18) hx hb dX5_bitsOfDouble_48 (by decide) ?_
      exact ih18 _ _ _ h _ (lv_sub hl [2, 1, 0] rfl)
  have hl := lv_entry ([.double x0]) (n := 8) (Nat.le_of_ble_eq_true rfl)
  rw [lg_entry_eq]
  generalize (lg_sl ([.double x0]) ++ List.replicate (8 - (lg_sl ([.double x0])).length) Slot.unset).toArray = ls at hl ⊢
  have hl : lv_has ls 8 [(0, .double x0)] := hl
  rw [m_X5_bitsOfDouble] at h
  refine lv_dload_n hx hb dX5_bitsOfDouble_0 rfl (lv_at hl 0 rfl) ?_
  refine lv_dconst0 hx hb dX5_bitsOfDouble_1 ?_
  refine lv_dcmp hx hb dX5_bitsOfDouble_2 ?_
  refine lv_if_gt (tgt := 8) hx hb dX5_bitsOfDouble_3 (by decide) (fun c1 => ?_) (fun c1 => ?_)
  rotate_left
  · have h := o_f h c1
    refine lv_lconst (v := 0) hx hb dX5_bitsOfDouble_6 (by decide) ?_
    have hu := Option.some.inj h
    exact W.lret (v := (0 : Int64)) hx hb hr (fun t ht hW => ⟨congrArg (fun z => Outcome.returned (some (Value.long z))) hu, ht⟩) (fun q hq => absurd hq List.not_mem_nil) dX5_bitsOfDouble_7
  have h := o_t h c1
  refine lv_dload_n hx hb dX5_bitsOfDouble_8 rfl (lv_at hl 0 rfl) ?_
  refine lv_dstore_n (lv' := [(2, .double x0), (0, .double x0)]) hx hb dX5_bitsOfDouble_9 rfl hl (by decide) rfl (fun ls hl => ?_)
  refine lv_ldc2 hx hb hown w310 dX5_bitsOfDouble_10 ?_
  obtain ⟨x4_2, e3, h⟩ := o_n h
  refine lv_nml e3 ?_
  refine lv_lstore (lv' := [(4, .long x4_2), (2, .double x0), (0, .double x0)]) hx hb dX5_bitsOfDouble_13 hl (by decide) rfl (fun ls hl => ?_)
  refine lv_iconst (v := (0 : Int32)) hx hb dX5_bitsOfDouble_15 (by decide) ?_
  refine lv_istore (lv' := [(6, .int (0 : Int32)), (4, .long x4_2), (2, .double x0), (0, .double x0)]) hx hb dX5_bitsOfDouble_16 hl (by decide) rfl (fun ls hl => ?_)
  exact L18 _ _ _ _ h _ (lv_sub hl [2, 1, 0] rfl)

def m_X5_bitsOfFloat_L40 (y1 : UInt32) (y2 : Int32) : Option (Int32) := if (FP.fsub y1 FP.fconst1) &&& 0x7fffffff ≤ 0x7f800000 then (if (FP.fmul (FP.fsub y1 FP.fconst1) (1258291200 : UInt32)) &&& 0x7fffffff ≤ 0x7f800000 then (nmL (FP.f2i (FP.fmul (FP.fsub y1 FP.fconst1) (1258291200 : UInt32))) fun x3_5 => (some ((y2 <<< ((23 : Int32) &&& 31)) + x3_5))) else none) else none
def m_X5_bitsOfFloat_L15 : Nat → UInt32 → Int32 → Int32 → Option (Int32)
  | 0, _, _, _ => none
  | n + 1, y1, y2, y3 => if (64 : Int32) ≤ y3 then (m_X5_bitsOfFloat_L40 y1 y2) else (if 0 ≤ (Op.cmpValue (FP.fcmp y1 FP.fconst1) (.g : CmpOp)) then (m_X5_bitsOfFloat_L40 y1 y2) else (if (FP.fmul y1 FP.fconst2) &&& 0x7fffffff ≤ 0x7f800000 then (nmL (FP.fmul y1 FP.fconst2) fun x1_9 => (nmL (y2 + (-1)) fun x2_11 => (nmL (y3 + 1) fun x3_13 => ((m_X5_bitsOfFloat_L15 n) x1_9 x2_11 x3_13)))) else none))
def m_X5_bitsOfFloat (x0 : UInt32) : Option (Int32) := if 0 < (Op.cmpValue (FP.fcmp x0 FP.fconst0) (.g : CmpOp)) then (m_X5_bitsOfFloat_L15 4000 x0 (127 : Int32) (0 : Int32)) else (some (0 : Int32))
set_option maxHeartbeats 4000000 in
set_option maxRecDepth 100000 in
theorem c_X5_bitsOfFloat (l : Launch) (dC : Nat → ClassId) (dI : Nat → Nat → Nat) (cI cF : ClassId) (x0 : UInt32) (u : Int32) (h : m_X5_bitsOfFloat x0 = some u) : cPU l yX5_bitsOfFloat wsX5_bitsOfFloat ({ frames := 0, cells := 0, slots := 0, locals := 0 } : Room) [.float x0] (some (.int u)) := by
  refine Met.ofW (cc := cX5_bitsOfFloat) (maxL := 4) (ret := (some .int)) (by decide) rfl ?_
  intro p e s m args below meth c s₁ B hml hv
  obtain ⟨hargs, -⟩ := hv
  subst hargs
  have hx := B.exec
  have hb := B.bytes
  have hr := B.returns
  have hts := atoms_spec (ws := wsX5_bitsOfFloat) B.pre
  have hown : s.vm.findClass RX5 = some m.cls := findClass_of_methodNamed B.named
  have hlocks := B.notSynchronized
  have w316 := hts (.constantFloat RX5 316 (1258291200)) (List.mem_of_getElem? (i := 1) rfl)
  have L40 : ∀ (y1 : UInt32) (y2 : Int32), m_X5_bitsOfFloat_L40 y1 y2 = some u → ∀ (ls : Array Slot), lv_has ls 4 [(1, .float y1), (2, .int y2)] → W p l e (headSpec wsX5_bitsOfFloat ({ frames := 0, cells := 0, slots := 0, locals := 0 } : Room)).room s m ([.float x0] : List Value).toArray below meth c s.heap [] 0 0 (MQ below (qRO (some (.int u))) ([.float x0] : List Value).toArray s 0 0 (fun _ => False)) (F0 m 40 ls []) := by
    intro  y1 y2 h ls hl
    rw [m_X5_bitsOfFloat_L40] at h
    refine lv_fload_n hx hb dX5_bitsOfFloat_40 rfl (lv_at hl 0 rfl) ?_
    refine lv_fconst1 hx hb dX5_bitsOfFloat_41 ?_
    obtain ⟨i3, h⟩ := o_ok h
    refine lv_fsub hx hb dX5_bitsOfFloat_42 i3 ?_
    refine lv_ldcwf hx hb hown w316 dX5_bitsOfFloat_43 ?_
    obtain ⟨i4, h⟩ := o_ok h
    refine lv_fmul hx hb dX5_bitsOfFloat_46 i4 ?_
    refine lv_f2i hx hb dX5_bitsOfFloat_47 ?_
    obtain ⟨x3_5, e6, h⟩ := o_n h
    refine lv_nmi e6 ?_
    refine lv_istore_n (lv' := [(3, .int x3_5), (1, .float y1), (2, .int y2)]) hx hb dX5_bitsOfFloat_48 rfl hl (by decide) rfl (fun ls hl => ?_)
    refine lv_iload_n hx hb dX5_bitsOfFloat_49 rfl (lv_at hl 2 rfl) ?_
    refine lv_bipush (v := (23 : Int32)) hx hb dX5_bitsOfFloat_50 (by decide) ?_
    refine lv_ishl hx hb dX5_bitsOfFloat_52 ?_
    refine lv_iload_n hx hb dX5_bitsOfFloat_53 rfl (lv_at hl 0 rfl) ?_
    refine lv_iadd hx hb dX5_bitsOfFloat_54 ?_
    have hu := Option.some.inj h
    exact W.iret (v := (y2 <<< ((23 : Int32) &&& 31)) + x3_5) hx hb hr (fun t ht hW => ⟨congrArg (fun z => Outcome.returned (some (Value.int z))) hu, ht⟩) (fun q hq => absurd hq List.not_mem_nil) dX5_bitsOfFloat_55
  have L15 : ∀ (n : Nat), ∀ (y1 : UInt32) (y2 : Int32) (y3 : Int32), m_X5_bitsOfFloat_L15 n y1 y2 y3 = some u → ∀ (ls : Array Slot), lv_has ls 4 [(1, .float y1), (2, .int y2), (3, .int y3)] → W p l e (headSpec wsX5_bitsOfFloat ({ frames := 0, cells := 0, slots := 0, locals := 0 } : Room)).room s m ([.float x0] : List Value).toArray below meth c s.heap [] 0 0 (MQ below (qRO (some (.int u))) ([.float x0] : List Value).toArray s 0 0 (fun _ => False)) (F0 m 15 ls []) := by
    intro  n
    induction n with
    | zero =>
      intro y1 y2 y3 h
      exact (o_0 h).elim
    | succ n ih15 =>
      intro y1 y2 y3 h ls hl
      rw [m_X5_bitsOfFloat_L15] at h
      refine lv_iload_n hx hb dX5_bitsOfFloat_15 rfl (lv_at hl 2 rfl) ?_
      refine lv_bipush (v := (64 : Int32)) hx hb dX5_bitsOfFloat_16 (by decide) ?_
      refine lv_icmp_ge (tgt := 40) hx hb dX5_bitsOfFloat_18 (by decide) (fun c2 => ?_) (fun c2 => ?_)
      · have h := o_t h c2
        exact L40 _ _ h _ (lv_sub hl [0, 1] rfl)
      have h := o_f h c2
      refine lv_fload_n hx hb dX5_bitsOfFloat_21 rfl (lv_at hl 0 rfl) ?_
      refine lv_fconst1 hx hb dX5_bitsOfFloat_22 ?_
      refine lv_fcmp hx hb dX5_bitsOfFloat_23 ?_
      refine lv_if_ge (tgt := 40) hx hb dX5_bitsOfFloat_24 (by decide) (fun c7 => ?_) (fun c7 => ?_)
      · have h := o_t h c7
        exact L40 _ _ h _ (lv_sub hl [0, 1] rfl)
      have h := o_f h c7
      refine lv_fload_n hx hb dX5_bitsOfFloat_27 rfl (lv_at hl 0 rfl) ?_
      refine lv_fconst2 hx hb dX5_bitsOfFloat_28 ?_
      obtain ⟨i8, h⟩ := o_ok h
      refine lv_fmul hx hb dX5_bitsOfFloat_29 i8 ?_
      obtain ⟨x1_9, e10, h⟩ := o_n h
      refine lv_nmf e10 ?_
      refine lv_fstore_n (lv' := [(1, .float x1_9), (2, .int y2), (3, .int y3)]) hx hb dX5_bitsOfFloat_30 rfl hl (by decide) rfl (fun ls hl => ?_)
      obtain ⟨x2_11, e12, h⟩ := o_n h
      refine lv_iinc (v := x2_11) (lv' := [(2, .int x2_11), (1, .float x1_9), (3, .int y3)]) hx hb dX5_bitsOfFloat_31 hl (k := 1) rfl (by rw [e12]; rfl) (by decide) rfl (fun ls hl => ?_)
      obtain ⟨x3_13, e14, h⟩ := o_n h
      refine lv_iinc (v := x3_13) (lv' := [(3, .int x3_13), (2, .int x2_11), (1, .float x1_9)]) hx hb dX5_bitsOfFloat_34 hl (k := 2) rfl (by rw [e14]; rfl) (by decide) rfl (fun ls hl => ?_)
      refine lv_goto (tgt := 15) hx hb dX5_bitsOfFloat_37 (by decide) ?_
      exact ih15 _ _ _ h _ (lv_sub hl [2, 1, 0] rfl)
  have hl := lv_entry ([.float x0]) (n := 4) (Nat.le_of_ble_eq_true rfl)
  rw [lg_entry_eq]
  generalize (lg_sl ([.float x0]) ++ List.replicate (4 - (lg_sl ([.float x0])).length) Slot.unset).toArray = ls at hl ⊢
  have hl : lv_has ls 4 [(0, .float x0)] := hl
  rw [m_X5_bitsOfFloat] at h
  refine lv_fload_n hx hb dX5_bitsOfFloat_0 rfl (lv_at hl 0 rfl) ?_
  refine lv_fconst0 hx hb dX5_bitsOfFloat_1 ?_
  refine lv_fcmp hx hb dX5_bitsOfFloat_2 ?_
  refine lv_if_gt (tgt := 8) hx hb dX5_bitsOfFloat_3 (by decide) (fun c1 => ?_) (fun c1 => ?_)
  rotate_left
  · have h := o_f h c1
    refine lv_iconst (v := (0 : Int32)) hx hb dX5_bitsOfFloat_6 (by decide) ?_
    have hu := Option.some.inj h
    exact W.iret (v := (0 : Int32)) hx hb hr (fun t ht hW => ⟨congrArg (fun z => Outcome.returned (some (Value.int z))) hu, ht⟩) (fun q hq => absurd hq List.not_mem_nil) dX5_bitsOfFloat_7
  have h := o_t h c1
  refine lv_fload_n hx hb dX5_bitsOfFloat_8 rfl (lv_at hl 0 rfl) ?_
  refine lv_fstore_n (lv' := [(1, .float x0), (0, .float x0)]) hx hb dX5_bitsOfFloat_9 rfl hl (by decide) rfl (fun ls hl => ?_)
  refine lv_bipush (v := (127 : Int32)) hx hb dX5_bitsOfFloat_10 (by decide) ?_
  refine lv_istore_n (lv' := [(2, .int (127 : Int32)), (1, .float x0), (0, .float x0)]) hx hb dX5_bitsOfFloat_12 rfl hl (by decide) rfl (fun ls hl => ?_)
  refine lv_iconst (v := (0 : Int32)) hx hb dX5_bitsOfFloat_13 (by decide) ?_
  refine lv_istore_n (lv' := [(3, .int (0 : Int32)), (2, .int (127 : Int32)), (1, .float x0), (0, .float x0)]) hx hb dX5_bitsOfFloat_14 rfl hl (by decide) rfl (fun ls hl => ?_)
  exact L15 _ _ _ _ h _ (lv_sub hl [2, 1, 0] rfl)

def m_X5_isCan (x0 : Int32) : Option (Int32) := if x0 < 0 then (some (0 : Int32)) else (if (8 : Int32) ≤ x0 then (some (0 : Int32)) else (some (1 : Int32)))
set_option maxHeartbeats 4000000 in
set_option maxRecDepth 100000 in
theorem c_X5_isCan (l : Launch) (dC : Nat → ClassId) (dI : Nat → Nat → Nat) (cI cF : ClassId) (x0 : Int32) (u : Int32) (h : m_X5_isCan x0 = some u) : cPU l yX5_isCan wsX5_isCan ({ frames := 0, cells := 0, slots := 0, locals := 0 } : Room) [.int x0] (some (.int u)) := by
  refine Met.ofW (cc := cX5_isCan) (maxL := 1) (ret := (some .boolean)) (by decide) rfl ?_
  intro p e s m args below meth c s₁ B hml hv
  obtain ⟨hargs, -⟩ := hv
  subst hargs
  have hx := B.exec
  have hb := B.bytes
  have hr := B.returns
  have hts := atoms_spec (ws := wsX5_isCan) B.pre
  have hown : s.vm.findClass RX5 = some m.cls := findClass_of_methodNamed B.named
  have hlocks := B.notSynchronized
  have hl := lv_entry ([.int x0]) (n := 1) (Nat.le_of_ble_eq_true rfl)
  rw [lg_entry_eq]
  generalize (lg_sl ([.int x0]) ++ List.replicate (1 - (lg_sl ([.int x0])).length) Slot.unset).toArray = ls at hl ⊢
  have hl : lv_has ls 1 [(0, .int x0)] := hl
  rw [m_X5_isCan] at h
  refine lv_iload_n hx hb dX5_isCan_0 rfl (lv_at hl 0 rfl) ?_
  refine lv_if_lt (tgt := 14) hx hb dX5_isCan_1 (by decide) (fun c1 => ?_) (fun c1 => ?_)
  · have h := o_t h c1
    refine lv_iconst (v := (0 : Int32)) hx hb dX5_isCan_14 (by decide) ?_
    have hu := Option.some.inj h
    exact W.zret (v := (0 : Int32)) hx hb hr rfl (fun t ht hW => ⟨congrArg (fun z => Outcome.returned (some (Value.int z))) hu, ht⟩) (fun q hq => absurd hq List.not_mem_nil) dX5_isCan_15
  have h := o_f h c1
  refine lv_iload_n hx hb dX5_isCan_4 rfl (lv_at hl 0 rfl) ?_
  refine lv_bipush (v := (8 : Int32)) hx hb dX5_isCan_5 (by decide) ?_
  refine lv_icmp_ge (tgt := 14) hx hb dX5_isCan_7 (by decide) (fun c2 => ?_) (fun c2 => ?_)
  · have h := o_t h c2
    refine lv_iconst (v := (0 : Int32)) hx hb dX5_isCan_14 (by decide) ?_
    have hu := Option.some.inj h
    exact W.zret (v := (0 : Int32)) hx hb hr rfl (fun t ht hW => ⟨congrArg (fun z => Outcome.returned (some (Value.int z))) hu, ht⟩) (fun q hq => absurd hq List.not_mem_nil) dX5_isCan_15
  have h := o_f h c2
  refine lv_iconst (v := (1 : Int32)) hx hb dX5_isCan_10 (by decide) ?_
  refine lv_goto (tgt := 15) hx hb dX5_isCan_11 (by decide) ?_
  have hu := Option.some.inj h
  exact W.zret (v := (1 : Int32)) hx hb hr rfl (fun t ht hW => ⟨congrArg (fun z => Outcome.returned (some (Value.int z))) hu, ht⟩) (fun q hq => absurd hq List.not_mem_nil) dX5_isCan_15

def m_X5_isSetting (x0 : Int32) : Option (Int32) := if x0 < 0 then (some (0 : Int32)) else (if (5 : Int32) ≤ x0 then (some (0 : Int32)) else (some (1 : Int32)))
set_option maxHeartbeats 4000000 in
set_option maxRecDepth 100000 in
theorem c_X5_isSetting (l : Launch) (dC : Nat → ClassId) (dI : Nat → Nat → Nat) (cI cF : ClassId) (x0 : Int32) (u : Int32) (h : m_X5_isSetting x0 = some u) : cPU l yX5_isSetting wsX5_isSetting ({ frames := 0, cells := 0, slots := 0, locals := 0 } : Room) [.int x0] (some (.int u)) := by
  refine Met.ofW (cc := cX5_isSetting) (maxL := 1) (ret := (some .boolean)) (by decide) rfl ?_
  intro p e s m args below meth c s₁ B hml hv
  obtain ⟨hargs, -⟩ := hv
  subst hargs
  have hx := B.exec
  have hb := B.bytes
  have hr := B.returns
  have hts := atoms_spec (ws := wsX5_isSetting) B.pre
  have hown : s.vm.findClass RX5 = some m.cls := findClass_of_methodNamed B.named
  have hlocks := B.notSynchronized
  have hl := lv_entry ([.int x0]) (n := 1) (Nat.le_of_ble_eq_true rfl)
  rw [lg_entry_eq]
  generalize (lg_sl ([.int x0]) ++ List.replicate (1 - (lg_sl ([.int x0])).length) Slot.unset).toArray = ls at hl ⊢
  have hl : lv_has ls 1 [(0, .int x0)] := hl
  rw [m_X5_isSetting] at h
  refine lv_iload_n hx hb dX5_isSetting_0 rfl (lv_at hl 0 rfl) ?_
  refine lv_if_lt (tgt := 13) hx hb dX5_isSetting_1 (by decide) (fun c1 => ?_) (fun c1 => ?_)
  · have h := o_t h c1
    refine lv_iconst (v := (0 : Int32)) hx hb dX5_isSetting_13 (by decide) ?_
    have hu := Option.some.inj h
    exact W.zret (v := (0 : Int32)) hx hb hr rfl (fun t ht hW => ⟨congrArg (fun z => Outcome.returned (some (Value.int z))) hu, ht⟩) (fun q hq => absurd hq List.not_mem_nil) dX5_isSetting_14
  have h := o_f h c1
  refine lv_iload_n hx hb dX5_isSetting_4 rfl (lv_at hl 0 rfl) ?_
  refine lv_iconst (v := (5 : Int32)) hx hb dX5_isSetting_5 (by decide) ?_
  refine lv_icmp_ge (tgt := 13) hx hb dX5_isSetting_6 (by decide) (fun c2 => ?_) (fun c2 => ?_)
  · have h := o_t h c2
    refine lv_iconst (v := (0 : Int32)) hx hb dX5_isSetting_13 (by decide) ?_
    have hu := Option.some.inj h
    exact W.zret (v := (0 : Int32)) hx hb hr rfl (fun t ht hW => ⟨congrArg (fun z => Outcome.returned (some (Value.int z))) hu, ht⟩) (fun q hq => absurd hq List.not_mem_nil) dX5_isSetting_14
  have h := o_f h c2
  refine lv_iconst (v := (1 : Int32)) hx hb dX5_isSetting_9 (by decide) ?_
  refine lv_goto (tgt := 14) hx hb dX5_isSetting_10 (by decide) ?_
  have hu := Option.some.inj h
  exact W.zret (v := (1 : Int32)) hx hb hr rfl (fun t ht hW => ⟨congrArg (fun z => Outcome.returned (some (Value.int z))) hu, ht⟩) (fun q hq => absurd hq List.not_mem_nil) dX5_isSetting_14

def m_X5_isValue (x0 : Int32) (x1 : Int32) : Option (Int32) := if x0 < 0 then (some (0 : Int32)) else (if (5 : Int32) ≤ x0 then (some (0 : Int32)) else (if (5 : Int32) ≤ x0 then (some (0 : Int32)) else (if x0 < 0 ∨ 5 ≤ x0.toNatClampNeg then none else (if x1 < (svn0 x0.toNatClampNeg) then (some (0 : Int32)) else (if x0 < 0 ∨ 5 ≤ x0.toNatClampNeg then none else (if (svn1 x0.toNatClampNeg) < x1 then (some (0 : Int32)) else (some (1 : Int32))))))))
set_option maxHeartbeats 4000000 in
set_option maxRecDepth 100000 in
theorem c_X5_isValue (l : Launch) (dC : Nat → ClassId) (dI : Nat → Nat → Nat) (cI cF : ClassId) (x0 : Int32) (x1 : Int32) (u : Int32) (h : m_X5_isValue x0 x1 = some u) : cPUe l yX5_isValue wsX5_isValue ({ frames := 0, cells := 0, slots := 0, locals := 0 } : Room) [.int x0, .int x1] (some (.int u)) := by
  refine Met.ofW (cc := cX5_isValue) (maxL := 2) (ret := (some .boolean)) (by decide) rfl ?_
  intro p e s m args below meth c s₁ B hml hv
  obtain ⟨hargs, hE⟩ := hv
  subst hargs
  have hx := B.exec
  have hb := B.bytes
  have hr := B.returns
  have hts := atoms_spec (ws := wsX5_isValue) B.pre
  have hown : s.vm.findClass RX5 = some m.cls := findClass_of_methodNamed B.named
  have hlocks := B.notSynchronized
  have w317 := hts (.fieldLink RX5 317 "DrawnSlivers" "LEAST_VALUE" "[I") (List.mem_of_getElem? (i := 1) rfl)
  have w321 := hts (.fieldLink RX5 321 "DrawnSlivers" "MOST_VALUE" "[I") (List.mem_of_getElem? (i := 2) rfl)
  obtain ⟨-, -, -, t0, t1, hZ0, hT0, hZ1, hT1⟩ := hE
  have hl := lv_entry ([.int x0, .int x1]) (n := 2) (Nat.le_of_ble_eq_true rfl)
  rw [lg_entry_eq]
  generalize (lg_sl ([.int x0, .int x1]) ++ List.replicate (2 - (lg_sl ([.int x0, .int x1])).length) Slot.unset).toArray = ls at hl ⊢
  have hl : lv_has ls 2 [(0, .int x0), (1, .int x1)] := hl
  rw [m_X5_isValue] at h
  refine lv_iload_n hx hb dX5_isValue_0 rfl (lv_at hl 0 rfl) ?_
  refine lv_if_lt (tgt := 42) hx hb dX5_isValue_1 (by decide) (fun c1 => ?_) (fun c1 => ?_)
  · have h := o_t h c1
    refine lv_iconst (v := (0 : Int32)) hx hb dX5_isValue_42 (by decide) ?_
    have hu := Option.some.inj h
    exact W.zret (v := (0 : Int32)) hx hb hr rfl (fun t ht hW => ⟨congrArg (fun z => Outcome.returned (some (Value.int z))) hu, ht⟩) (fun q hq => absurd hq List.not_mem_nil) dX5_isValue_43
  have h := o_f h c1
  refine lv_iload_n hx hb dX5_isValue_4 rfl (lv_at hl 0 rfl) ?_
  refine va_gets (C := RX5) (n := "LEAST_VALUE") (d := "[I") hx hb hZ0 va_S.rf hown w317 (fun _ h9 => h9) dX5_isValue_5 ?_
  refine va_tlen hx hb hT0 va_S.rf rfl dX5_isValue_8 ?_
  refine lv_icmp_ge (tgt := 42) hx hb dX5_isValue_9 (by decide) (fun c2 => ?_) (fun c2 => ?_)
  · have h := o_t h c2
    refine lv_iconst (v := (0 : Int32)) hx hb dX5_isValue_42 (by decide) ?_
    have hu := Option.some.inj h
    exact W.zret (v := (0 : Int32)) hx hb hr rfl (fun t ht hW => ⟨congrArg (fun z => Outcome.returned (some (Value.int z))) hu, ht⟩) (fun q hq => absurd hq List.not_mem_nil) dX5_isValue_43
  have h := o_f h c2
  refine lv_iload_n hx hb dX5_isValue_12 rfl (lv_at hl 0 rfl) ?_
  refine va_gets (C := RX5) (n := "MOST_VALUE") (d := "[I") hx hb hZ1 va_S.rf hown w321 (fun _ h9 => h9) dX5_isValue_13 ?_
  refine va_tlen hx hb hT1 va_S.rf rfl dX5_isValue_16 ?_
  refine lv_icmp_ge (tgt := 42) hx hb dX5_isValue_17 (by decide) (fun c3 => ?_) (fun c3 => ?_)
  · have h := o_t h c3
    refine lv_iconst (v := (0 : Int32)) hx hb dX5_isValue_42 (by decide) ?_
    have hu := Option.some.inj h
    exact W.zret (v := (0 : Int32)) hx hb hr rfl (fun t ht hW => ⟨congrArg (fun z => Outcome.returned (some (Value.int z))) hu, ht⟩) (fun q hq => absurd hq List.not_mem_nil) dX5_isValue_43
  have h := o_f h c3
  refine lv_iload_n hx hb dX5_isValue_20 rfl (lv_at hl 1 rfl) ?_
  refine va_gets (C := RX5) (n := "LEAST_VALUE") (d := "[I") hx hb hZ0 va_S.rf hown w317 (fun _ h9 => h9) dX5_isValue_21 ?_
  refine lv_iload_n hx hb dX5_isValue_24 rfl (lv_at hl 0 rfl) ?_
  obtain ⟨i4, h⟩ := o_in h
  refine va_ti hx hb hT0 va_S.rf i4 rfl dX5_isValue_25 ?_
  refine lv_icmp_lt (tgt := 42) hx hb dX5_isValue_26 (by decide) (fun c5 => ?_) (fun c5 => ?_)
  · have h := o_t h c5
    refine lv_iconst (v := (0 : Int32)) hx hb dX5_isValue_42 (by decide) ?_
    have hu := Option.some.inj h
    exact W.zret (v := (0 : Int32)) hx hb hr rfl (fun t ht hW => ⟨congrArg (fun z => Outcome.returned (some (Value.int z))) hu, ht⟩) (fun q hq => absurd hq List.not_mem_nil) dX5_isValue_43
  have h := o_f h c5
  refine lv_iload_n hx hb dX5_isValue_29 rfl (lv_at hl 1 rfl) ?_
  refine va_gets (C := RX5) (n := "MOST_VALUE") (d := "[I") hx hb hZ1 va_S.rf hown w321 (fun _ h9 => h9) dX5_isValue_30 ?_
  refine lv_iload_n hx hb dX5_isValue_33 rfl (lv_at hl 0 rfl) ?_
  obtain ⟨i6, h⟩ := o_in h
  refine va_ti hx hb hT1 va_S.rf i6 rfl dX5_isValue_34 ?_
  refine lv_icmp_gt (tgt := 42) hx hb dX5_isValue_35 (by decide) (fun c7 => ?_) (fun c7 => ?_)
  · have h := o_t h c7
    refine lv_iconst (v := (0 : Int32)) hx hb dX5_isValue_42 (by decide) ?_
    have hu := Option.some.inj h
    exact W.zret (v := (0 : Int32)) hx hb hr rfl (fun t ht hW => ⟨congrArg (fun z => Outcome.returned (some (Value.int z))) hu, ht⟩) (fun q hq => absurd hq List.not_mem_nil) dX5_isValue_43
  have h := o_f h c7
  refine lv_iconst (v := (1 : Int32)) hx hb dX5_isValue_38 (by decide) ?_
  refine lv_goto (tgt := 43) hx hb dX5_isValue_39 (by decide) ?_
  have hu := Option.some.inj h
  exact W.zret (v := (1 : Int32)) hx hb hr rfl (fun t ht hW => ⟨congrArg (fun z => Outcome.returned (some (Value.int z))) hu, ht⟩) (fun q hq => absurd hq List.not_mem_nil) dX5_isValue_43

def m_X5_isRunLength (x0 : Int32) : Option (Int32) := if x0 < (1 : Int32) then (some (0 : Int32)) else (if (40 : Int32) < x0 then (some (0 : Int32)) else (some (1 : Int32)))
set_option maxHeartbeats 4000000 in
set_option maxRecDepth 100000 in
theorem c_X5_isRunLength (l : Launch) (dC : Nat → ClassId) (dI : Nat → Nat → Nat) (cI cF : ClassId) (x0 : Int32) (u : Int32) (h : m_X5_isRunLength x0 = some u) : cPU l yX5_isRunLength wsX5_isRunLength ({ frames := 0, cells := 0, slots := 0, locals := 0 } : Room) [.int x0] (some (.int u)) := by
  refine Met.ofW (cc := cX5_isRunLength) (maxL := 1) (ret := (some .boolean)) (by decide) rfl ?_
  intro p e s m args below meth c s₁ B hml hv
  obtain ⟨hargs, -⟩ := hv
  subst hargs
  have hx := B.exec
  have hb := B.bytes
  have hr := B.returns
  have hts := atoms_spec (ws := wsX5_isRunLength) B.pre
  have hown : s.vm.findClass RX5 = some m.cls := findClass_of_methodNamed B.named
  have hlocks := B.notSynchronized
  have hl := lv_entry ([.int x0]) (n := 1) (Nat.le_of_ble_eq_true rfl)
  rw [lg_entry_eq]
  generalize (lg_sl ([.int x0]) ++ List.replicate (1 - (lg_sl ([.int x0])).length) Slot.unset).toArray = ls at hl ⊢
  have hl : lv_has ls 1 [(0, .int x0)] := hl
  rw [m_X5_isRunLength] at h
  refine lv_iload_n hx hb dX5_isRunLength_0 rfl (lv_at hl 0 rfl) ?_
  refine lv_iconst (v := (1 : Int32)) hx hb dX5_isRunLength_1 (by decide) ?_
  refine lv_icmp_lt (tgt := 15) hx hb dX5_isRunLength_2 (by decide) (fun c1 => ?_) (fun c1 => ?_)
  · have h := o_t h c1
    refine lv_iconst (v := (0 : Int32)) hx hb dX5_isRunLength_15 (by decide) ?_
    have hu := Option.some.inj h
    exact W.zret (v := (0 : Int32)) hx hb hr rfl (fun t ht hW => ⟨congrArg (fun z => Outcome.returned (some (Value.int z))) hu, ht⟩) (fun q hq => absurd hq List.not_mem_nil) dX5_isRunLength_16
  have h := o_f h c1
  refine lv_iload_n hx hb dX5_isRunLength_5 rfl (lv_at hl 0 rfl) ?_
  refine lv_bipush (v := (40 : Int32)) hx hb dX5_isRunLength_6 (by decide) ?_
  refine lv_icmp_gt (tgt := 15) hx hb dX5_isRunLength_8 (by decide) (fun c2 => ?_) (fun c2 => ?_)
  · have h := o_t h c2
    refine lv_iconst (v := (0 : Int32)) hx hb dX5_isRunLength_15 (by decide) ?_
    have hu := Option.some.inj h
    exact W.zret (v := (0 : Int32)) hx hb hr rfl (fun t ht hW => ⟨congrArg (fun z => Outcome.returned (some (Value.int z))) hu, ht⟩) (fun q hq => absurd hq List.not_mem_nil) dX5_isRunLength_16
  have h := o_f h c2
  refine lv_iconst (v := (1 : Int32)) hx hb dX5_isRunLength_11 (by decide) ?_
  refine lv_goto (tgt := 16) hx hb dX5_isRunLength_12 (by decide) ?_
  have hu := Option.some.inj h
  exact W.zret (v := (1 : Int32)) hx hb hr rfl (fun t ht hW => ⟨congrArg (fun z => Outcome.returned (some (Value.int z))) hu, ht⟩) (fun q hq => absurd hq List.not_mem_nil) dX5_isRunLength_16

def m_X5_fill_L127 (y1 : Int32) (S : S_X5) : Option ((Nat × S_X5) ⊕ (Int32 × S_X5)) := (m_X4_wipe (g_X5_text S)).bind fun v17 => ((m_X0_sizeOf (g_X2_cans (g_X5_frame S)) y1).bind fun v19 => (some (.inr (v19, s_X5_text S v17))))
def m_X5_fill_L92 : Nat → Int32 → Int32 → Int32 → S_X5 → Option ((Nat × S_X5) ⊕ (Int32 × S_X5))
  | 0, _, _, _, _ => none
  | n + 1, y1, y2, y3, S => if y2 ≤ y3 then (m_X5_fill_L127 y1 S) else ((m_X4_partWeight (g_X5_text S) y3).bind fun v21 => ((m_X4_partTimes (g_X5_text S) y3).bind fun v23 => ((m_X2_pour (g_X5_frame S) y1 v21 v23).bind fun v25 => (nmL (y3 + 1) fun x3_27 => ((m_X5_fill_L92 n) y1 y2 x3_27 (s_X5_frame S v25))))))
def m_X5_fill (S : S_X5) (x1 : Int32) : Option ((Nat × S_X5) ⊕ (Int32 × S_X5)) := (m_X5_isCan x1).bind fun v1 => (if v1 = 0 then (some (.inl (1, S))) else ((m_X4_readWhole (g_X5_text S)).bind fun v4 => (if v4.1 = 0 then (some (.inl (2, s_X5_text S v4.2))) else ((m_X0_sizeOf (g_X2_cans (g_X5_frame S)) x1).bind fun v7 => ((m_X4_metresTold v4.2).bind fun v9 => (if (v7 + v9) ≤ (40 : Int32) then ((m_X3_save (g_X5_history S) (g_X5_frame S)).bind fun v12 => ((m_X4_partCount v4.2).bind fun v14 => (m_X5_fill_L92 4000 x1 v14 (0 : Int32) (s_X5_text (s_X5_history S v12) v4.2)))) else (some (.inl (3, s_X5_text S v4.2)))))))))
set_option maxHeartbeats 4000000 in
set_option maxRecDepth 100000 in
theorem c_X5_fill (l : Launch) (dC : Nat → ClassId) (dI : Nat → Nat → Nat) (cI cF : ClassId) (a : Nat → Nat) (S : S_X5) (x1 : Int32) (u : Int32 × S_X5) (h : m_X5_fill S x1 = some (.inr u)) : cRW l (dC, dI) cI cF yX5_fill wsX5_fill ({ frames := 5, cells := 0, slots := 0, locals := 124 } : Room) [.ref (a 0), .int x1] (wX5 a cI cF S) (wX5 a cI cF u.2) (some (.int u.1)) := by
  intro sz
  refine Met.ofW (cc := cX5_fill) (maxL := 4) (ret := (some .int)) (by decide) rfl ?_
  intro p e s m args below meth c s₁ B hml hv
  obtain ⟨hargs, hsz, hP, hK, hD0⟩ := hv
  subst hargs
  have hx := B.exec
  have hb := B.bytes
  have hr := B.returns
  have hts := atoms_spec (ws := wsX5_fill) B.pre
  have hown : s.vm.findClass RX5 = some m.cls := findClass_of_methodNamed B.named
  have hlocks := B.notSynchronized
  have w10 := hts (.fieldLink RX5 10 "DrawnSlivers" "frame" "LDrawnSlivers$Frame;") (List.mem_of_getElem? (i := 8) rfl)
  have w25 := hts (.fieldLink RX5 25 "DrawnSlivers" "history" "LDrawnSlivers$History;") (List.mem_of_getElem? (i := 10) rfl)
  have w32 := hts (.fieldLink RX5 32 "DrawnSlivers" "text" "LDrawnSlivers$SliverText;") (List.mem_of_getElem? (i := 7) rfl)
  have w40 := hts (.methodLink RX5 40 yX5_isCan) (List.mem_of_getElem? (i := 11) rfl)
  have w51 := hts (.methodLink RX5 51 yX4_readWhole) (List.mem_of_getElem? (i := 15) rfl)
  have w60 := hts (.fieldLink RX5 60 "DrawnSlivers$Frame" "cans" "LDrawnSlivers$Cans;") (List.mem_of_getElem? (i := 9) rfl)
  have w64 := hts (.methodLink RX5 64 yX0_sizeOf) (List.mem_of_getElem? (i := 65) rfl)
  have w70 := hts (.methodLink RX5 70 yX4_metresTold) (List.mem_of_getElem? (i := 71) rfl)
  have w79 := hts (.methodLink RX5 79 yX3_save) (List.mem_of_getElem? (i := 79) rfl)
  have w83 := hts (.methodLink RX5 83 yX4_partCount) (List.mem_of_getElem? (i := 132) rfl)
  have w86 := hts (.methodLink RX5 86 yX4_partWeight) (List.mem_of_getElem? (i := 136) rfl)
  have w89 := hts (.methodLink RX5 89 yX4_partTimes) (List.mem_of_getElem? (i := 140) rfl)
  have w92 := hts (.methodLink RX5 92 yX2_pour) (List.mem_of_getElem? (i := 141) rfl)
  have w96 := hts (.methodLink RX5 96 yX4_wipe) (List.mem_of_getElem? (i := 150) rfl)
  have huX2 : ∀ w ∈ u_ws RX2 TX2 12, w.before _ s = true := fun w h => hts w (List.mem_cons_of_mem _ (List.mem_append_left _ (List.mem_append_left _ (List.mem_append_left _ (List.mem_append_left _ (List.mem_append_left _ (List.mem_append_left _ (List.mem_append_left _ (List.mem_append_right _ (h))))))))))
  have huX5 : ∀ w ∈ u_ws RX5 TX5 6, w.before _ s = true := fun w h => hts w (List.mem_cons_of_mem _ (List.mem_append_left _ (List.mem_append_left _ (List.mem_append_left _ (List.mem_append_left _ (List.mem_append_left _ (List.mem_append_left _ (List.mem_append_left _ (List.mem_append_left _ (List.mem_append_right _ (h)))))))))))
  subst hsz
  have hD := hD0.self (sz := s.heap.size)
  generalize hAe : va_A (wX5 a cI cF S) s.heap.size = A at hD ⊢
  have hA : ∀ q : Nat, s.heap.size ≤ q → A q := fun q h => by rw [← hAe]; exact Or.inr h
  have hS : va_S A s.heap s.heap [] := va_S.rf
  have L127 : ∀ (y1 : Int32) (S : S_X5), m_X5_fill_L127 y1 S = some (.inr u) → ∀ (H : Heap) (locs : List Loc), va_P (dC, dI) vwCl (wX5 a cI cF S) H → va_D A (wX5 a cI cF S) → va_S A s.heap H locs → ∀ (ls : Array Slot), lv_has ls 4 [(0, .ref (a 0)), (1, .int y1)] → W p l e (headSpec wsX5_fill ({ frames := 5, cells := 0, slots := 0, locals := 124 } : Room)).room s m ([.ref (a 0), .int x1] : List Value).toArray below meth c H locs 0 0 (MQ below (qRW (dC, dI) (wX5 a cI cF u.2) (some (.int u.1)) A) ([.ref (a 0), .int x1] : List Value).toArray s 0 0 A) (F0 m 127 ls []) := by
    intro  y1 S h H locs hP hD hS ls hl
    rw [m_X5_fill_L127] at h
    refine lv_aload_n hx hb dX5_fill_127 rfl (lv_at hl 0 rfl) ?_
    refine va_get (D := (dC, dI)) (ci := 5) (v := .ref (a 22)) (C := RX5) (T := TX5) (N := 6) hx hb huX5 (fun _ h9 => h9) hown hK hP 0 rfl rfl 4 (by decide) w32 (fun _ h9 => h9) rfl dX5_fill_128 ?_
    obtain ⟨v17, g18, h⟩ := o_b h
    refine k_rwL (va_runV (As := []) (rest := []) ⟨hx, hb, hml, hown, hts⟩ (c_X4_wipe l dC dI cI cF (fun i => a (i + 22)) (g_X5_text S) v17 g18 H.size) (cwV 0 hts gX5_fill_X4_wipe rfl rfl rfl (by decide +kernel) ⟨Nat.le_of_ble_eq_true rfl, Nat.le_of_ble_eq_true rfl⟩) (k_preLw (q0 := 0) (ci := 4) hK hP hD (LX5_text a cI cF S v17 (LN_id (fX4 (fun i => a (i + 22)) cI cF (g_X5_text S) v17))) rfl rfl rfl) rfl rfl hl.1 rfl (lv_room (Nat.le_of_ble_eq_true rfl)) dX5_fill_131 ⟨Nat.zero_le _, Nat.zero_le _⟩) (st1 := []) rfl hP hD hS hA (wn := wX5 a cI cF (s_X5_text S v17)) (LX5_text a cI cF S v17 (LN_id (fX4 (fun i => a (i + 22)) cI cF (g_X5_text S) v17))) (fun H locs hP hD hS => ?_)
    refine lv_aload_n hx hb dX5_fill_134 rfl (lv_at hl 0 rfl) ?_
    refine va_get (D := (dC, dI)) (ci := 5) (v := .ref (a 1)) (C := RX5) (T := TX5) (N := 6) hx hb huX5 (fun _ h9 => h9) hown hK hP 0 rfl rfl 0 (by decide) w10 (fun _ h9 => h9) rfl dX5_fill_135 ?_
    refine va_get (D := (dC, dI)) (ci := 2) (v := .ref (a 2)) (C := RX2) (T := TX2) (N := 12) hx hb huX2 (fun _ h9 => h9) hown hK hP 1 rfl rfl 0 (by decide) w60 (fun _ h9 => h9) rfl dX5_fill_138 ?_
    refine lv_iload_n hx hb dX5_fill_141 rfl (lv_at hl 1 rfl) ?_
    obtain ⟨v19, g20, h⟩ := o_b h
    refine k_ro (va_runV (As := [.int y1]) (rest := []) ⟨hx, hb, hml, hown, hts⟩ (c_X0_sizeOf l dC dI cI cF (fun i => a (i + 2)) (g_X2_cans (g_X5_frame S)) y1 v19 g20) (cwV 1 hts gX5_fill_X0_sizeOf rfl rfl rfl (by decide +kernel) ⟨Nat.le_of_ble_eq_true rfl, Nat.le_of_ble_eq_true rfl⟩) (k_preL (q0 := 0) (ci := 0) hK hP (LX5_frame a cI cF (s_X5_text S v17) (s_X2_cans (g_X5_frame S) (g_X2_cans (g_X5_frame S))) (LX2_cans (fun i => a (i + 1)) cI cF (g_X5_frame S) (g_X2_cans (g_X5_frame S)) (LN_id (fX0 (fun i => a (i + 2)) cI cF (g_X2_cans (g_X5_frame S)) (g_X2_cans (g_X5_frame S)))))) rfl rfl rfl) rfl rfl hl.1 rfl (lv_room (Nat.le_of_ble_eq_true rfl)) dX5_fill_142 ⟨Nat.zero_le _, Nat.zero_le _⟩) (st1 := [.int v19]) rfl ?_
    have hu := Sum.inr.inj (Option.some.inj h)
    exact W.iret (v := v19) hx hb hr (fun t ht hW => ⟨⟨congrArg (fun z => Outcome.returned (some (Value.int z.1))) hu, by rw [ht, ← hu]; exact hP⟩, hS.F ht⟩) hS.2.2 dX5_fill_145
  have L92 : ∀ (n : Nat), ∀ (y1 : Int32) (y2 : Int32) (y3 : Int32) (S : S_X5), m_X5_fill_L92 n y1 y2 y3 S = some (.inr u) → ∀ (H : Heap) (locs : List Loc), va_P (dC, dI) vwCl (wX5 a cI cF S) H → va_D A (wX5 a cI cF S) → va_S A s.heap H locs → ∀ (ls : Array Slot), lv_has ls 4 [(0, .ref (a 0)), (1, .int y1), (2, .int y2), (3, .int y3)] → W p l e (headSpec wsX5_fill ({ frames := 5, cells := 0, slots := 0, locals := 124 } : Room)).room s m ([.ref (a 0), .int x1] : List Value).toArray below meth c H locs 0 0 (MQ below (qRW (dC, dI) (wX5 a cI cF u.2) (some (.int u.1)) A) ([.ref (a 0), .int x1] : List Value).toArray s 0 0 A) (F0 m 92 ls []) := by
    intro  n
    induction n with
    | zero =>
      intro y1 y2 y3 S h
      exact (o_0 h).elim
    | succ n ih92 =>
      intro y1 y2 y3 S h H locs hP hD hS ls hl
      rw [m_X5_fill_L92] at h
      refine lv_iload_n hx hb dX5_fill_92 rfl (lv_at hl 3 rfl) ?_
      refine lv_iload_n hx hb dX5_fill_93 rfl (lv_at hl 2 rfl) ?_
      refine lv_icmp_ge (tgt := 127) hx hb dX5_fill_94 (by decide) (fun c16 => ?_) (fun c16 => ?_)
      · have h := o_t h c16
        exact L127 _ _ h _ _ hP hD hS _ (lv_sub hl [0, 1] rfl)
      have h := o_f h c16
      refine lv_aload_n hx hb dX5_fill_97 rfl (lv_at hl 0 rfl) ?_
      refine va_get (D := (dC, dI)) (ci := 5) (v := .ref (a 1)) (C := RX5) (T := TX5) (N := 6) hx hb huX5 (fun _ h9 => h9) hown hK hP 0 rfl rfl 0 (by decide) w10 (fun _ h9 => h9) rfl dX5_fill_98 ?_
      refine lv_iload_n hx hb dX5_fill_101 rfl (lv_at hl 1 rfl) ?_
      refine lv_aload_n hx hb dX5_fill_102 rfl (lv_at hl 0 rfl) ?_
      refine va_get (D := (dC, dI)) (ci := 5) (v := .ref (a 22)) (C := RX5) (T := TX5) (N := 6) hx hb huX5 (fun _ h9 => h9) hown hK hP 0 rfl rfl 4 (by decide) w32 (fun _ h9 => h9) rfl dX5_fill_103 ?_
      refine lv_iload_n hx hb dX5_fill_106 rfl (lv_at hl 3 rfl) ?_
      obtain ⟨v21, g22, h⟩ := o_b h
      refine k_ro (va_runV (As := [.int y3]) (rest := [.int y1, .ref (a 1)]) ⟨hx, hb, hml, hown, hts⟩ (c_X4_partWeight l dC dI cI cF (fun i => a (i + 22)) (g_X5_text S) y3 v21 g22) (cwV 1 hts gX5_fill_X4_partWeight rfl rfl rfl (by decide +kernel) ⟨Nat.le_of_ble_eq_true rfl, Nat.le_of_ble_eq_true rfl⟩) (k_preL (q0 := 0) (ci := 4) hK hP (LX5_text a cI cF S (g_X5_text S) (LN_id (fX4 (fun i => a (i + 22)) cI cF (g_X5_text S) (g_X5_text S)))) rfl rfl rfl) rfl rfl hl.1 rfl (lv_room (Nat.le_of_ble_eq_true rfl)) dX5_fill_107 ⟨Nat.zero_le _, Nat.zero_le _⟩) (st1 := [.int v21, .int y1, .ref (a 1)]) rfl ?_
      refine lv_aload_n hx hb dX5_fill_110 rfl (lv_at hl 0 rfl) ?_
      refine va_get (D := (dC, dI)) (ci := 5) (v := .ref (a 22)) (C := RX5) (T := TX5) (N := 6) hx hb huX5 (fun _ h9 => h9) hown hK hP 0 rfl rfl 4 (by decide) w32 (fun _ h9 => h9) rfl dX5_fill_111 ?_
      refine lv_iload_n hx hb dX5_fill_114 rfl (lv_at hl 3 rfl) ?_
      obtain ⟨v23, g24, h⟩ := o_b h
      refine k_ro (va_runV (As := [.int y3]) (rest := [.int v21, .int y1, .ref (a 1)]) ⟨hx, hb, hml, hown, hts⟩ (c_X4_partTimes l dC dI cI cF (fun i => a (i + 22)) (g_X5_text S) y3 v23 g24) (cwV 1 hts gX5_fill_X4_partTimes rfl rfl rfl (by decide +kernel) ⟨Nat.le_of_ble_eq_true rfl, Nat.le_of_ble_eq_true rfl⟩) (k_preL (q0 := 0) (ci := 4) hK hP (LX5_text a cI cF S (g_X5_text S) (LN_id (fX4 (fun i => a (i + 22)) cI cF (g_X5_text S) (g_X5_text S)))) rfl rfl rfl) rfl rfl hl.1 rfl (lv_room (Nat.le_of_ble_eq_true rfl)) dX5_fill_115 ⟨Nat.zero_le _, Nat.zero_le _⟩) (st1 := [.int v23, .int v21, .int y1, .ref (a 1)]) rfl ?_
      obtain ⟨v25, g26, h⟩ := o_b h
      refine k_rwL (va_runV (As := [.int y1, .int v21, .int v23]) (rest := []) ⟨hx, hb, hml, hown, hts⟩ (c_X2_pour l dC dI cI cF (fun i => a (i + 1)) (g_X5_frame S) y1 v21 v23 v25 g26 H.size) (cwV 3 hts gX5_fill_X2_pour rfl rfl rfl (by decide +kernel) ⟨Nat.le_of_ble_eq_true rfl, Nat.le_of_ble_eq_true rfl⟩) (k_preLw (q0 := 0) (ci := 2) hK hP hD (LX5_frame a cI cF S v25 (LN_id (fX2 (fun i => a (i + 1)) cI cF (g_X5_frame S) v25))) rfl rfl rfl) rfl rfl hl.1 rfl (lv_room (Nat.le_of_ble_eq_true rfl)) dX5_fill_118 ⟨Nat.zero_le _, Nat.zero_le _⟩) (st1 := []) rfl hP hD hS hA (wn := wX5 a cI cF (s_X5_frame S v25)) (LX5_frame a cI cF S v25 (LN_id (fX2 (fun i => a (i + 1)) cI cF (g_X5_frame S) v25))) (fun H locs hP hD hS => ?_)
      obtain ⟨x3_27, e28, h⟩ := o_n h
      refine lv_iinc (v := x3_27) (lv' := [(3, .int x3_27), (0, .ref (a 0)), (1, .int y1), (2, .int y2)]) hx hb dX5_fill_121 hl (k := 3) rfl (by rw [e28]; rfl) (by decide) rfl (fun ls hl => ?_)
      refine lv_goto (tgt := 92) hx hb dX5_fill_124 (by decide) ?_
      exact ih92 _ _ _ _ h _ _ hP hD hS _ (lv_sub hl [1, 2, 3, 0] rfl)
  have hl := lv_entry ([.ref (a 0), .int x1]) (n := 4) (Nat.le_of_ble_eq_true rfl)
  rw [lg_entry_eq]
  generalize (lg_sl ([.ref (a 0), .int x1]) ++ List.replicate (4 - (lg_sl ([.ref (a 0), .int x1])).length) Slot.unset).toArray = ls at hl ⊢
  have hl : lv_has ls 4 [(0, .ref (a 0)), (1, .int x1)] := hl
  rw [m_X5_fill] at h
  refine lv_iload_n hx hb dX5_fill_0 rfl (lv_at hl 1 rfl) ?_
  obtain ⟨v1, g2, h⟩ := o_b h
  refine k_ro (va_runS (As := [.int x1]) (rest := []) ⟨hx, hb, hml, hown, hts⟩ (c_X5_isCan l dC dI cI cF x1 v1 g2) (va_cwS 1 hts gX5_fill_X5_isCan rfl rfl rfl (by decide +kernel) ⟨Nat.le_of_ble_eq_true rfl, Nat.le_of_ble_eq_true rfl⟩) (k_prePU) rfl rfl hl.1 rfl (lv_room (Nat.le_of_ble_eq_true rfl)) dX5_fill_1 ⟨Nat.zero_le _, Nat.zero_le _⟩) (st1 := [.int v1]) rfl ?_
  refine lv_if_ne (tgt := 17) hx hb dX5_fill_4 (by decide) (fun c3 => ?_) (fun c3 => ?_)
  rotate_left
  · have h := o_t h c3
    cases h
  have h := o_f h c3
  refine lv_aload_n hx hb dX5_fill_17 rfl (lv_at hl 0 rfl) ?_
  refine va_get (D := (dC, dI)) (ci := 5) (v := .ref (a 22)) (C := RX5) (T := TX5) (N := 6) hx hb huX5 (fun _ h9 => h9) hown hK hP 0 rfl rfl 4 (by decide) w32 (fun _ h9 => h9) rfl dX5_fill_18 ?_
  obtain ⟨v4, g5, h⟩ := o_b h
  refine k_rwL (va_runV (As := []) (rest := []) ⟨hx, hb, hml, hown, hts⟩ (c_X4_readWhole l dC dI cI cF (fun i => a (i + 22)) (g_X5_text S) v4 g5 s.heap.size) (cwV 0 hts gX5_fill_X4_readWhole rfl rfl rfl (by decide +kernel) ⟨Nat.le_of_ble_eq_true rfl, Nat.le_of_ble_eq_true rfl⟩) (k_preLw (q0 := 0) (ci := 4) hK hP hD (LX5_text a cI cF S v4.2 (LN_id (fX4 (fun i => a (i + 22)) cI cF (g_X5_text S) v4.2))) rfl rfl rfl) rfl rfl hl.1 rfl (lv_room (Nat.le_of_ble_eq_true rfl)) dX5_fill_21 ⟨Nat.zero_le _, Nat.zero_le _⟩) (st1 := [.int v4.1]) rfl hP hD hS hA (wn := wX5 a cI cF (s_X5_text S v4.2)) (LX5_text a cI cF S v4.2 (LN_id (fX4 (fun i => a (i + 22)) cI cF (g_X5_text S) v4.2))) (fun H locs hP hD hS => ?_)
  refine lv_if_ne (tgt := 37) hx hb dX5_fill_24 (by decide) (fun c6 => ?_) (fun c6 => ?_)
  rotate_left
  · have h := o_t h c6
    cases h
  have h := o_f h c6
  refine lv_aload_n hx hb dX5_fill_37 rfl (lv_at hl 0 rfl) ?_
  refine va_get (D := (dC, dI)) (ci := 5) (v := .ref (a 1)) (C := RX5) (T := TX5) (N := 6) hx hb huX5 (fun _ h9 => h9) hown hK hP 0 rfl rfl 0 (by decide) w10 (fun _ h9 => h9) rfl dX5_fill_38 ?_
  refine va_get (D := (dC, dI)) (ci := 2) (v := .ref (a 2)) (C := RX2) (T := TX2) (N := 12) hx hb huX2 (fun _ h9 => h9) hown hK hP 1 rfl rfl 0 (by decide) w60 (fun _ h9 => h9) rfl dX5_fill_41 ?_
  refine lv_iload_n hx hb dX5_fill_44 rfl (lv_at hl 1 rfl) ?_
  obtain ⟨v7, g8, h⟩ := o_b h
  refine k_ro (va_runV (As := [.int x1]) (rest := []) ⟨hx, hb, hml, hown, hts⟩ (c_X0_sizeOf l dC dI cI cF (fun i => a (i + 2)) (g_X2_cans (g_X5_frame S)) x1 v7 g8) (cwV 1 hts gX5_fill_X0_sizeOf rfl rfl rfl (by decide +kernel) ⟨Nat.le_of_ble_eq_true rfl, Nat.le_of_ble_eq_true rfl⟩) (k_preL (q0 := 0) (ci := 0) hK hP (LX5_frame a cI cF (s_X5_text S v4.2) (s_X2_cans (g_X5_frame S) (g_X2_cans (g_X5_frame S))) (LX2_cans (fun i => a (i + 1)) cI cF (g_X5_frame S) (g_X2_cans (g_X5_frame S)) (LN_id (fX0 (fun i => a (i + 2)) cI cF (g_X2_cans (g_X5_frame S)) (g_X2_cans (g_X5_frame S)))))) rfl rfl rfl) rfl rfl hl.1 rfl (lv_room (Nat.le_of_ble_eq_true rfl)) dX5_fill_45 ⟨Nat.zero_le _, Nat.zero_le _⟩) (st1 := [.int v7]) rfl ?_
  refine lv_aload_n hx hb dX5_fill_48 rfl (lv_at hl 0 rfl) ?_
  refine va_get (D := (dC, dI)) (ci := 5) (v := .ref (a 22)) (C := RX5) (T := TX5) (N := 6) hx hb huX5 (fun _ h9 => h9) hown hK hP 0 rfl rfl 4 (by decide) w32 (fun _ h9 => h9) rfl dX5_fill_49 ?_
  obtain ⟨v9, g10, h⟩ := o_b h
  refine k_ro (va_runV (As := []) (rest := [.int v7]) ⟨hx, hb, hml, hown, hts⟩ (c_X4_metresTold l dC dI cI cF (fun i => a (i + 22)) v4.2 v9 g10) (cwV 0 hts gX5_fill_X4_metresTold rfl rfl rfl (by decide +kernel) ⟨Nat.le_of_ble_eq_true rfl, Nat.le_of_ble_eq_true rfl⟩) (k_preL (q0 := 0) (ci := 4) hK hP (LX5_text a cI cF (s_X5_text S v4.2) v4.2 (LN_id (fX4 (fun i => a (i + 22)) cI cF v4.2 v4.2))) rfl rfl rfl) rfl rfl hl.1 rfl (lv_room (Nat.le_of_ble_eq_true rfl)) dX5_fill_52 ⟨Nat.zero_le _, Nat.zero_le _⟩) (st1 := [.int v9, .int v7]) rfl ?_
  refine lv_iadd hx hb dX5_fill_55 ?_
  refine lv_bipush (v := (40 : Int32)) hx hb dX5_fill_56 (by decide) ?_
  refine lv_icmp_le (tgt := 71) hx hb dX5_fill_58 (by decide) (fun c11 => ?_) (fun c11 => ?_)
  rotate_left
  · have h := o_f h c11
    cases h
  have h := o_t h c11
  refine lv_aload_n hx hb dX5_fill_71 rfl (lv_at hl 0 rfl) ?_
  refine va_get (D := (dC, dI)) (ci := 5) (v := .ref (a 26)) (C := RX5) (T := TX5) (N := 6) hx hb huX5 (fun _ h9 => h9) hown hK hP 0 rfl rfl 3 (by decide) w25 (fun _ h9 => h9) rfl dX5_fill_72 ?_
  refine lv_aload_n hx hb dX5_fill_75 rfl (lv_at hl 0 rfl) ?_
  refine va_get (D := (dC, dI)) (ci := 5) (v := .ref (a 1)) (C := RX5) (T := TX5) (N := 6) hx hb huX5 (fun _ h9 => h9) hown hK hP 0 rfl rfl 0 (by decide) w10 (fun _ h9 => h9) rfl dX5_fill_76 ?_
  obtain ⟨v12, g13, h⟩ := o_b h
  refine k_rwL (va_runV (As := [.ref (a 1)]) (rest := []) ⟨hx, hb, hml, hown, hts⟩ (c_X3_save l dC dI cI cF (fun i => a (i + 26)) (fun i => a (i + 1)) (g_X5_history S) (g_X5_frame S) v12 g13 H.size) (cwV 1 hts gX5_fill_X3_save rfl rfl rfl (by decide +kernel) ⟨Nat.le_of_ble_eq_true rfl, Nat.le_of_ble_eq_true rfl⟩) (k_preLw (q0 := 0) (ci := 3) hK hP hD (LN_sw (LX5_frame_history a cI cF (s_X5_text S v4.2) (g_X5_frame S) v12)) rfl rfl rfl) rfl rfl hl.1 rfl (lv_room (Nat.le_of_ble_eq_true rfl)) dX5_fill_79 ⟨Nat.zero_le _, Nat.zero_le _⟩) (st1 := []) rfl hP hD hS hA (wn := wX5 a cI cF (s_X5_text (s_X5_history S v12) v4.2)) (LN_sw (LX5_frame_history a cI cF (s_X5_text S v4.2) (g_X5_frame S) v12)) (fun H locs hP hD hS => ?_)
  refine lv_aload_n hx hb dX5_fill_82 rfl (lv_at hl 0 rfl) ?_
  refine va_get (D := (dC, dI)) (ci := 5) (v := .ref (a 22)) (C := RX5) (T := TX5) (N := 6) hx hb huX5 (fun _ h9 => h9) hown hK hP 0 rfl rfl 4 (by decide) w32 (fun _ h9 => h9) rfl dX5_fill_83 ?_
  obtain ⟨v14, g15, h⟩ := o_b h
  refine k_ro (va_runV (As := []) (rest := []) ⟨hx, hb, hml, hown, hts⟩ (c_X4_partCount l dC dI cI cF (fun i => a (i + 22)) v4.2 v14 g15) (cwV 0 hts gX5_fill_X4_partCount rfl rfl rfl (by decide +kernel) ⟨Nat.le_of_ble_eq_true rfl, Nat.le_of_ble_eq_true rfl⟩) (k_preL (q0 := 0) (ci := 4) hK hP (LX5_text a cI cF (s_X5_text (s_X5_history S v12) v4.2) v4.2 (LN_id (fX4 (fun i => a (i + 22)) cI cF v4.2 v4.2))) rfl rfl rfl) rfl rfl hl.1 rfl (lv_room (Nat.le_of_ble_eq_true rfl)) dX5_fill_86 ⟨Nat.zero_le _, Nat.zero_le _⟩) (st1 := [.int v14]) rfl ?_
  refine lv_istore_n (lv' := [(2, .int v14), (0, .ref (a 0)), (1, .int x1)]) hx hb dX5_fill_89 rfl hl (by decide) rfl (fun ls hl => ?_)
  refine lv_iconst (v := (0 : Int32)) hx hb dX5_fill_90 (by decide) ?_
  refine lv_istore_n (lv' := [(3, .int (0 : Int32)), (2, .int v14), (0, .ref (a 0)), (1, .int x1)]) hx hb dX5_fill_91 rfl hl (by decide) rfl (fun ls hl => ?_)
  exact L92 _ _ _ _ _ h _ _ hP hD hS _ (lv_sub hl [2, 3, 1, 0] rfl)

set_option maxHeartbeats 4000000 in
set_option maxRecDepth 100000 in
theorem c_X5_fill_x (l : Launch) (hfl : l.stackTraces = false) (dC : Nat → ClassId) (dI : Nat → Nat → Nat) (cI cF : ClassId) (a : Nat → Nat) (S : S_X5) (x1 : Int32) (u : Nat × S_X5) (h : m_X5_fill S x1 = some (.inl u)) : ∀ sz : Nat, vx_Met l yX5_fill wsX5_fill ({ frames := 6, cells := 1, slots := 6, locals := 124 } : Room) (va_Pc [.ref (a 0), .int x1] (pRWe (dC, dI) cI cF (wX5 a cI cF S) sz)) (fun _ _ _ _ => False) (qX (dC, dI) (wX5 a cI cF u.2) (xnm u.1) (va_A (wX5 a cI cF S) sz)) 1 6 (va_A (wX5 a cI cF S) sz) := by
  intro sz
  refine vx_ofW (cc := cX5_fill) (maxL := 4) (ret := (some .int)) (by decide) rfl ?_
  intro p e s m args below meth c s₁ B hml hnx hv
  obtain ⟨hargs, ⟨hsz, hP, hK, hD0⟩, hE⟩ := hv
  subst hargs
  have hx := B.exec
  have hb := B.bytes
  have hr := B.returns
  have hts := atoms_spec (ws := wsX5_fill) B.pre
  have hown : s.vm.findClass RX5 = some m.cls := findClass_of_methodNamed B.named
  have hlocks := B.notSynchronized
  have w10 := hts (.fieldLink RX5 10 "DrawnSlivers" "frame" "LDrawnSlivers$Frame;") (List.mem_of_getElem? (i := 8) rfl)
  have w25 := hts (.fieldLink RX5 25 "DrawnSlivers" "history" "LDrawnSlivers$History;") (List.mem_of_getElem? (i := 10) rfl)
  have w32 := hts (.fieldLink RX5 32 "DrawnSlivers" "text" "LDrawnSlivers$SliverText;") (List.mem_of_getElem? (i := 7) rfl)
  have w40 := hts (.methodLink RX5 40 yX5_isCan) (List.mem_of_getElem? (i := 11) rfl)
  have w44 := hts (.classLink RX5 44 "java/lang/IndexOutOfBoundsException") (List.mem_of_getElem? (i := 1) rfl)
  have w51 := hts (.methodLink RX5 51 yX4_readWhole) (List.mem_of_getElem? (i := 15) rfl)
  have w55 := hts (.classLink RX5 55 "java/lang/IllegalArgumentException") (List.mem_of_getElem? (i := 3) rfl)
  have w60 := hts (.fieldLink RX5 60 "DrawnSlivers$Frame" "cans" "LDrawnSlivers$Cans;") (List.mem_of_getElem? (i := 9) rfl)
  have w64 := hts (.methodLink RX5 64 yX0_sizeOf) (List.mem_of_getElem? (i := 65) rfl)
  have w70 := hts (.methodLink RX5 70 yX4_metresTold) (List.mem_of_getElem? (i := 71) rfl)
  have w74 := hts (.classLink RX5 74 "java/lang/IllegalStateException") (List.mem_of_getElem? (i := 5) rfl)
  have w79 := hts (.methodLink RX5 79 yX3_save) (List.mem_of_getElem? (i := 79) rfl)
  have w83 := hts (.methodLink RX5 83 yX4_partCount) (List.mem_of_getElem? (i := 132) rfl)
  have w86 := hts (.methodLink RX5 86 yX4_partWeight) (List.mem_of_getElem? (i := 136) rfl)
  have w89 := hts (.methodLink RX5 89 yX4_partTimes) (List.mem_of_getElem? (i := 140) rfl)
  have w92 := hts (.methodLink RX5 92 yX2_pour) (List.mem_of_getElem? (i := 141) rfl)
  have w96 := hts (.methodLink RX5 96 yX4_wipe) (List.mem_of_getElem? (i := 150) rfl)
  have wix1 := hts (.initialized "java/lang/IndexOutOfBoundsException") (List.mem_of_getElem? (i := 2) rfl)
  have wix2 := hts (.initialized "java/lang/IllegalArgumentException") (List.mem_of_getElem? (i := 4) rfl)
  have wix3 := hts (.initialized "java/lang/IllegalStateException") (List.mem_of_getElem? (i := 6) rfl)
  have huX2 : ∀ w ∈ u_ws RX2 TX2 12, w.before _ s = true := fun w h => hts w (List.mem_cons_of_mem _ (List.mem_append_left _ (List.mem_append_left _ (List.mem_append_left _ (List.mem_append_left _ (List.mem_append_left _ (List.mem_append_left _ (List.mem_append_left _ (List.mem_append_right _ (h))))))))))
  have huX5 : ∀ w ∈ u_ws RX5 TX5 6, w.before _ s = true := fun w h => hts w (List.mem_cons_of_mem _ (List.mem_append_left _ (List.mem_append_left _ (List.mem_append_left _ (List.mem_append_left _ (List.mem_append_left _ (List.mem_append_left _ (List.mem_append_left _ (List.mem_append_left _ (List.mem_append_right _ (h)))))))))))
  subst hsz
  have hD := hD0.self (sz := s.heap.size)
  generalize hAe : va_A (wX5 a cI cF S) s.heap.size = A at hD hE ⊢
  have hA : ∀ q : Nat, s.heap.size ≤ q → A q := fun q h => by rw [← hAe]; exact Or.inr h
  have hS : va_S A s.heap s.heap [] := va_S.rf
  have L127 : ∀ (y1 : Int32) (S : S_X5), m_X5_fill_L127 y1 S = some (.inl u) → ∀ (H : Heap) (locs : List Loc), va_P (dC, dI) vwCl (wX5 a cI cF S) H → va_D A (wX5 a cI cF S) → va_S A s.heap H locs → ∀ (ls : Array Slot), lv_has ls 4 [(0, .ref (a 0)), (1, .int y1)] → W p l e (headSpec wsX5_fill ({ frames := 6, cells := 1, slots := 6, locals := 124 } : Room)).room s m ([.ref (a 0), .int x1] : List Value).toArray below meth c H locs 0 0 (vx_MQ below (fun _ _ _ _ => False) (qX (dC, dI) (wX5 a cI cF u.2) (xnm u.1) A) ([.ref (a 0), .int x1] : List Value).toArray s 1 6 A) (F0 m 127 ls []) := by
    intro  y1 S h H locs hP hD hS ls hl
    rw [m_X5_fill_L127] at h
    refine lv_aload_n hx hb dX5_fill_127 rfl (lv_at hl 0 rfl) ?_
    refine va_get (D := (dC, dI)) (ci := 5) (v := .ref (a 22)) (C := RX5) (T := TX5) (N := 6) hx hb huX5 (fun _ h9 => h9) hown hK hP 0 rfl rfl 4 (by decide) w32 (fun _ h9 => h9) rfl dX5_fill_128 ?_
    obtain ⟨v17, g18, h⟩ := o_b h
    refine k_rwL (va_runV (As := []) (rest := []) ⟨hx, hb, hml, hown, hts⟩ (c_X4_wipe l dC dI cI cF (fun i => a (i + 22)) (g_X5_text S) v17 g18 H.size) (cwV 0 hts gX5_fill_X4_wipe rfl rfl rfl (by decide +kernel) ⟨Nat.le_of_ble_eq_true rfl, Nat.le_of_ble_eq_true rfl⟩) (k_preLw (q0 := 0) (ci := 4) hK hP hD (LX5_text a cI cF S v17 (LN_id (fX4 (fun i => a (i + 22)) cI cF (g_X5_text S) v17))) rfl rfl rfl) rfl rfl hl.1 rfl (lv_room (Nat.le_of_ble_eq_true rfl)) dX5_fill_131 ⟨Nat.zero_le _, Nat.zero_le _⟩) (st1 := []) rfl hP hD hS hA (wn := wX5 a cI cF (s_X5_text S v17)) (LX5_text a cI cF S v17 (LN_id (fX4 (fun i => a (i + 22)) cI cF (g_X5_text S) v17))) (fun H locs hP hD hS => ?_)
    refine lv_aload_n hx hb dX5_fill_134 rfl (lv_at hl 0 rfl) ?_
    refine va_get (D := (dC, dI)) (ci := 5) (v := .ref (a 1)) (C := RX5) (T := TX5) (N := 6) hx hb huX5 (fun _ h9 => h9) hown hK hP 0 rfl rfl 0 (by decide) w10 (fun _ h9 => h9) rfl dX5_fill_135 ?_
    refine va_get (D := (dC, dI)) (ci := 2) (v := .ref (a 2)) (C := RX2) (T := TX2) (N := 12) hx hb huX2 (fun _ h9 => h9) hown hK hP 1 rfl rfl 0 (by decide) w60 (fun _ h9 => h9) rfl dX5_fill_138 ?_
    refine lv_iload_n hx hb dX5_fill_141 rfl (lv_at hl 1 rfl) ?_
    obtain ⟨v19, g20, h⟩ := o_b h
    refine k_ro (va_runV (As := [.int y1]) (rest := []) ⟨hx, hb, hml, hown, hts⟩ (c_X0_sizeOf l dC dI cI cF (fun i => a (i + 2)) (g_X2_cans (g_X5_frame S)) y1 v19 g20) (cwV 1 hts gX5_fill_X0_sizeOf rfl rfl rfl (by decide +kernel) ⟨Nat.le_of_ble_eq_true rfl, Nat.le_of_ble_eq_true rfl⟩) (k_preL (q0 := 0) (ci := 0) hK hP (LX5_frame a cI cF (s_X5_text S v17) (s_X2_cans (g_X5_frame S) (g_X2_cans (g_X5_frame S))) (LX2_cans (fun i => a (i + 1)) cI cF (g_X5_frame S) (g_X2_cans (g_X5_frame S)) (LN_id (fX0 (fun i => a (i + 2)) cI cF (g_X2_cans (g_X5_frame S)) (g_X2_cans (g_X5_frame S)))))) rfl rfl rfl) rfl rfl hl.1 rfl (lv_room (Nat.le_of_ble_eq_true rfl)) dX5_fill_142 ⟨Nat.zero_le _, Nat.zero_le _⟩) (st1 := [.int v19]) rfl ?_
    cases h
  have L92 : ∀ (n : Nat), ∀ (y1 : Int32) (y2 : Int32) (y3 : Int32) (S : S_X5), m_X5_fill_L92 n y1 y2 y3 S = some (.inl u) → ∀ (H : Heap) (locs : List Loc), va_P (dC, dI) vwCl (wX5 a cI cF S) H → va_D A (wX5 a cI cF S) → va_S A s.heap H locs → ∀ (ls : Array Slot), lv_has ls 4 [(0, .ref (a 0)), (1, .int y1), (2, .int y2), (3, .int y3)] → W p l e (headSpec wsX5_fill ({ frames := 6, cells := 1, slots := 6, locals := 124 } : Room)).room s m ([.ref (a 0), .int x1] : List Value).toArray below meth c H locs 0 0 (vx_MQ below (fun _ _ _ _ => False) (qX (dC, dI) (wX5 a cI cF u.2) (xnm u.1) A) ([.ref (a 0), .int x1] : List Value).toArray s 1 6 A) (F0 m 92 ls []) := by
    intro  n
    induction n with
    | zero =>
      intro y1 y2 y3 S h
      exact (o_0 h).elim
    | succ n ih92 =>
      intro y1 y2 y3 S h H locs hP hD hS ls hl
      rw [m_X5_fill_L92] at h
      refine lv_iload_n hx hb dX5_fill_92 rfl (lv_at hl 3 rfl) ?_
      refine lv_iload_n hx hb dX5_fill_93 rfl (lv_at hl 2 rfl) ?_
      refine lv_icmp_ge (tgt := 127) hx hb dX5_fill_94 (by decide) (fun c16 => ?_) (fun c16 => ?_)
      · have h := o_t h c16
        exact L127 _ _ h _ _ hP hD hS _ (lv_sub hl [0, 1] rfl)
      have h := o_f h c16
      refine lv_aload_n hx hb dX5_fill_97 rfl (lv_at hl 0 rfl) ?_
      refine va_get (D := (dC, dI)) (ci := 5) (v := .ref (a 1)) (C := RX5) (T := TX5) (N := 6) hx hb huX5 (fun _ h9 => h9) hown hK hP 0 rfl rfl 0 (by decide) w10 (fun _ h9 => h9) rfl dX5_fill_98 ?_
      refine lv_iload_n hx hb dX5_fill_101 rfl (lv_at hl 1 rfl) ?_
      refine lv_aload_n hx hb dX5_fill_102 rfl (lv_at hl 0 rfl) ?_
      refine va_get (D := (dC, dI)) (ci := 5) (v := .ref (a 22)) (C := RX5) (T := TX5) (N := 6) hx hb huX5 (fun _ h9 => h9) hown hK hP 0 rfl rfl 4 (by decide) w32 (fun _ h9 => h9) rfl dX5_fill_103 ?_
      refine lv_iload_n hx hb dX5_fill_106 rfl (lv_at hl 3 rfl) ?_
      obtain ⟨v21, g22, h⟩ := o_b h
      refine k_ro (va_runV (As := [.int y3]) (rest := [.int y1, .ref (a 1)]) ⟨hx, hb, hml, hown, hts⟩ (c_X4_partWeight l dC dI cI cF (fun i => a (i + 22)) (g_X5_text S) y3 v21 g22) (cwV 1 hts gX5_fill_X4_partWeight rfl rfl rfl (by decide +kernel) ⟨Nat.le_of_ble_eq_true rfl, Nat.le_of_ble_eq_true rfl⟩) (k_preL (q0 := 0) (ci := 4) hK hP (LX5_text a cI cF S (g_X5_text S) (LN_id (fX4 (fun i => a (i + 22)) cI cF (g_X5_text S) (g_X5_text S)))) rfl rfl rfl) rfl rfl hl.1 rfl (lv_room (Nat.le_of_ble_eq_true rfl)) dX5_fill_107 ⟨Nat.zero_le _, Nat.zero_le _⟩) (st1 := [.int v21, .int y1, .ref (a 1)]) rfl ?_
      refine lv_aload_n hx hb dX5_fill_110 rfl (lv_at hl 0 rfl) ?_
      refine va_get (D := (dC, dI)) (ci := 5) (v := .ref (a 22)) (C := RX5) (T := TX5) (N := 6) hx hb huX5 (fun _ h9 => h9) hown hK hP 0 rfl rfl 4 (by decide) w32 (fun _ h9 => h9) rfl dX5_fill_111 ?_
      refine lv_iload_n hx hb dX5_fill_114 rfl (lv_at hl 3 rfl) ?_
      obtain ⟨v23, g24, h⟩ := o_b h
      refine k_ro (va_runV (As := [.int y3]) (rest := [.int v21, .int y1, .ref (a 1)]) ⟨hx, hb, hml, hown, hts⟩ (c_X4_partTimes l dC dI cI cF (fun i => a (i + 22)) (g_X5_text S) y3 v23 g24) (cwV 1 hts gX5_fill_X4_partTimes rfl rfl rfl (by decide +kernel) ⟨Nat.le_of_ble_eq_true rfl, Nat.le_of_ble_eq_true rfl⟩) (k_preL (q0 := 0) (ci := 4) hK hP (LX5_text a cI cF S (g_X5_text S) (LN_id (fX4 (fun i => a (i + 22)) cI cF (g_X5_text S) (g_X5_text S)))) rfl rfl rfl) rfl rfl hl.1 rfl (lv_room (Nat.le_of_ble_eq_true rfl)) dX5_fill_115 ⟨Nat.zero_le _, Nat.zero_le _⟩) (st1 := [.int v23, .int v21, .int y1, .ref (a 1)]) rfl ?_
      obtain ⟨v25, g26, h⟩ := o_b h
      refine k_rwL (va_runV (As := [.int y1, .int v21, .int v23]) (rest := []) ⟨hx, hb, hml, hown, hts⟩ (c_X2_pour l dC dI cI cF (fun i => a (i + 1)) (g_X5_frame S) y1 v21 v23 v25 g26 H.size) (cwV 3 hts gX5_fill_X2_pour rfl rfl rfl (by decide +kernel) ⟨Nat.le_of_ble_eq_true rfl, Nat.le_of_ble_eq_true rfl⟩) (k_preLw (q0 := 0) (ci := 2) hK hP hD (LX5_frame a cI cF S v25 (LN_id (fX2 (fun i => a (i + 1)) cI cF (g_X5_frame S) v25))) rfl rfl rfl) rfl rfl hl.1 rfl (lv_room (Nat.le_of_ble_eq_true rfl)) dX5_fill_118 ⟨Nat.zero_le _, Nat.zero_le _⟩) (st1 := []) rfl hP hD hS hA (wn := wX5 a cI cF (s_X5_frame S v25)) (LX5_frame a cI cF S v25 (LN_id (fX2 (fun i => a (i + 1)) cI cF (g_X5_frame S) v25))) (fun H locs hP hD hS => ?_)
      obtain ⟨x3_27, e28, h⟩ := o_n h
      refine lv_iinc (v := x3_27) (lv' := [(3, .int x3_27), (0, .ref (a 0)), (1, .int y1), (2, .int y2)]) hx hb dX5_fill_121 hl (k := 3) rfl (by rw [e28]; rfl) (by decide) rfl (fun ls hl => ?_)
      refine lv_goto (tgt := 92) hx hb dX5_fill_124 (by decide) ?_
      exact ih92 _ _ _ _ h _ _ hP hD hS _ (lv_sub hl [1, 2, 3, 0] rfl)
  have hl := lv_entry ([.ref (a 0), .int x1]) (n := 4) (Nat.le_of_ble_eq_true rfl)
  rw [lg_entry_eq]
  generalize (lg_sl ([.ref (a 0), .int x1]) ++ List.replicate (4 - (lg_sl ([.ref (a 0), .int x1])).length) Slot.unset).toArray = ls at hl ⊢
  have hl : lv_has ls 4 [(0, .ref (a 0)), (1, .int x1)] := hl
  rw [m_X5_fill] at h
  refine lv_iload_n hx hb dX5_fill_0 rfl (lv_at hl 1 rfl) ?_
  obtain ⟨v1, g2, h⟩ := o_b h
  refine k_ro (va_runS (As := [.int x1]) (rest := []) ⟨hx, hb, hml, hown, hts⟩ (c_X5_isCan l dC dI cI cF x1 v1 g2) (va_cwS 1 hts gX5_fill_X5_isCan rfl rfl rfl (by decide +kernel) ⟨Nat.le_of_ble_eq_true rfl, Nat.le_of_ble_eq_true rfl⟩) (k_prePU) rfl rfl hl.1 rfl (lv_room (Nat.le_of_ble_eq_true rfl)) dX5_fill_1 ⟨Nat.zero_le _, Nat.zero_le _⟩) (st1 := [.int v1]) rfl ?_
  refine lv_if_ne (tgt := 17) hx hb dX5_fill_4 (by decide) (fun c3 => ?_) (fun c3 => ?_)
  rotate_left
  · have h := o_t h c3
    have hu := Sum.inl.inj (Option.some.inj h)
    obtain ⟨sa, hsa⟩ := hE.2.1 (46, "no such can") (by decide)
    exact vx_throwS (own := RX5) (cls := "java/lang/IndexOutOfBoundsException") (text := "no such can") (names := ["java/lang/RuntimeException", "java/lang/Exception"]) (ik := 44) (is := 46) (ic := 48) (sa := sa) (A := A) hx hb hfl hown (by decide +kernel) (by decide +kernel) w44 wix1 hsa (vx_hat (fun w h => hts w (List.mem_cons_of_mem _ (List.mem_append_left _ (List.mem_append_left _ (List.mem_append_right _ (h)))))) (B := xW) (by decide +kernel) (fun w h => va_Nw.use (xW_ot w h) (hE.2.2.1 w h))) (by decide +kernel) hE.1.1 hE.1.2 hS (by rw [hml]; exact hl.1) dX5_fill_7 dX5_fill_10 dX5_fill_11 dX5_fill_13 dX5_fill_16 (fun z hz => (hnx z hz).elim) (Nat.le_of_ble_eq_true rfl) (Nat.le_of_ble_eq_true rfl) (Nat.le_of_ble_eq_true rfl) (Nat.le_of_ble_eq_true rfl) hlocks (fun t hv hz hq => ⟨⟨by rw [← hu]; rfl, by rw [← hu]; exact k_Pkeep hP hq⟩, k_Fkeep hS hz hq⟩) hS.2.2 (Nat.le_refl _) (Nat.le_refl _)
  have h := o_f h c3
  refine lv_aload_n hx hb dX5_fill_17 rfl (lv_at hl 0 rfl) ?_
  refine va_get (D := (dC, dI)) (ci := 5) (v := .ref (a 22)) (C := RX5) (T := TX5) (N := 6) hx hb huX5 (fun _ h9 => h9) hown hK hP 0 rfl rfl 4 (by decide) w32 (fun _ h9 => h9) rfl dX5_fill_18 ?_
  obtain ⟨v4, g5, h⟩ := o_b h
  refine k_rwL (va_runV (As := []) (rest := []) ⟨hx, hb, hml, hown, hts⟩ (c_X4_readWhole l dC dI cI cF (fun i => a (i + 22)) (g_X5_text S) v4 g5 s.heap.size) (cwV 0 hts gX5_fill_X4_readWhole rfl rfl rfl (by decide +kernel) ⟨Nat.le_of_ble_eq_true rfl, Nat.le_of_ble_eq_true rfl⟩) (k_preLw (q0 := 0) (ci := 4) hK hP hD (LX5_text a cI cF S v4.2 (LN_id (fX4 (fun i => a (i + 22)) cI cF (g_X5_text S) v4.2))) rfl rfl rfl) rfl rfl hl.1 rfl (lv_room (Nat.le_of_ble_eq_true rfl)) dX5_fill_21 ⟨Nat.zero_le _, Nat.zero_le _⟩) (st1 := [.int v4.1]) rfl hP hD hS hA (wn := wX5 a cI cF (s_X5_text S v4.2)) (LX5_text a cI cF S v4.2 (LN_id (fX4 (fun i => a (i + 22)) cI cF (g_X5_text S) v4.2))) (fun H locs hP hD hS => ?_)
  refine lv_if_ne (tgt := 37) hx hb dX5_fill_24 (by decide) (fun c6 => ?_) (fun c6 => ?_)
  rotate_left
  · have h := o_t h c6
    have hu := Sum.inl.inj (Option.some.inj h)
    obtain ⟨sa, hsa⟩ := hE.2.1 (57, "the buffer is not a complete sliver") (by decide)
    exact vx_throwS (own := RX5) (cls := "java/lang/IllegalArgumentException") (text := "the buffer is not a complete sliver") (names := ["java/lang/RuntimeException", "java/lang/Exception"]) (ik := 55) (is := 57) (ic := 59) (sa := sa) (A := A) hx hb hfl hown (by decide +kernel) (by decide +kernel) w55 wix2 hsa (vx_hat (fun w h => hts w (List.mem_cons_of_mem _ (List.mem_append_left _ (List.mem_append_right _ (h))))) (B := xW) (by decide +kernel) (fun w h => va_Nw.use (xW_ot w h) (hE.2.2.1 w h))) (by decide +kernel) hE.1.1 hE.1.2 hS (by rw [hml]; exact hl.1) dX5_fill_27 dX5_fill_30 dX5_fill_31 dX5_fill_33 dX5_fill_36 (fun z hz => (hnx z hz).elim) (Nat.le_of_ble_eq_true rfl) (Nat.le_of_ble_eq_true rfl) (Nat.le_of_ble_eq_true rfl) (Nat.le_of_ble_eq_true rfl) hlocks (fun t hv hz hq => ⟨⟨by rw [← hu]; rfl, by rw [← hu]; exact k_Pkeep hP hq⟩, k_Fkeep hS hz hq⟩) hS.2.2 (Nat.le_refl _) (Nat.le_refl _)
  have h := o_f h c6
  refine lv_aload_n hx hb dX5_fill_37 rfl (lv_at hl 0 rfl) ?_
  refine va_get (D := (dC, dI)) (ci := 5) (v := .ref (a 1)) (C := RX5) (T := TX5) (N := 6) hx hb huX5 (fun _ h9 => h9) hown hK hP 0 rfl rfl 0 (by decide) w10 (fun _ h9 => h9) rfl dX5_fill_38 ?_
  refine va_get (D := (dC, dI)) (ci := 2) (v := .ref (a 2)) (C := RX2) (T := TX2) (N := 12) hx hb huX2 (fun _ h9 => h9) hown hK hP 1 rfl rfl 0 (by decide) w60 (fun _ h9 => h9) rfl dX5_fill_41 ?_
  refine lv_iload_n hx hb dX5_fill_44 rfl (lv_at hl 1 rfl) ?_
  obtain ⟨v7, g8, h⟩ := o_b h
  refine k_ro (va_runV (As := [.int x1]) (rest := []) ⟨hx, hb, hml, hown, hts⟩ (c_X0_sizeOf l dC dI cI cF (fun i => a (i + 2)) (g_X2_cans (g_X5_frame S)) x1 v7 g8) (cwV 1 hts gX5_fill_X0_sizeOf rfl rfl rfl (by decide +kernel) ⟨Nat.le_of_ble_eq_true rfl, Nat.le_of_ble_eq_true rfl⟩) (k_preL (q0 := 0) (ci := 0) hK hP (LX5_frame a cI cF (s_X5_text S v4.2) (s_X2_cans (g_X5_frame S) (g_X2_cans (g_X5_frame S))) (LX2_cans (fun i => a (i + 1)) cI cF (g_X5_frame S) (g_X2_cans (g_X5_frame S)) (LN_id (fX0 (fun i => a (i + 2)) cI cF (g_X2_cans (g_X5_frame S)) (g_X2_cans (g_X5_frame S)))))) rfl rfl rfl) rfl rfl hl.1 rfl (lv_room (Nat.le_of_ble_eq_true rfl)) dX5_fill_45 ⟨Nat.zero_le _, Nat.zero_le _⟩) (st1 := [.int v7]) rfl ?_
  refine lv_aload_n hx hb dX5_fill_48 rfl (lv_at hl 0 rfl) ?_
  refine va_get (D := (dC, dI)) (ci := 5) (v := .ref (a 22)) (C := RX5) (T := TX5) (N := 6) hx hb huX5 (fun _ h9 => h9) hown hK hP 0 rfl rfl 4 (by decide) w32 (fun _ h9 => h9) rfl dX5_fill_49 ?_
  obtain ⟨v9, g10, h⟩ := o_b h
  refine k_ro (va_runV (As := []) (rest := [.int v7]) ⟨hx, hb, hml, hown, hts⟩ (c_X4_metresTold l dC dI cI cF (fun i => a (i + 22)) v4.2 v9 g10) (cwV 0 hts gX5_fill_X4_metresTold rfl rfl rfl (by decide +kernel) ⟨Nat.le_of_ble_eq_true rfl, Nat.le_of_ble_eq_true rfl⟩) (k_preL (q0 := 0) (ci := 4) hK hP (LX5_text a cI cF (s_X5_text S v4.2) v4.2 (LN_id (fX4 (fun i => a (i + 22)) cI cF v4.2 v4.2))) rfl rfl rfl) rfl rfl hl.1 rfl (lv_room (Nat.le_of_ble_eq_true rfl)) dX5_fill_52 ⟨Nat.zero_le _, Nat.zero_le _⟩) (st1 := [.int v9, .int v7]) rfl ?_
  refine lv_iadd hx hb dX5_fill_55 ?_
  refine lv_bipush (v := (40 : Int32)) hx hb dX5_fill_56 (by decide) ?_
  refine lv_icmp_le (tgt := 71) hx hb dX5_fill_58 (by decide) (fun c11 => ?_) (fun c11 => ?_)
  rotate_left
  · have h := o_f h c11
    have hu := Sum.inl.inj (Option.some.inj h)
    obtain ⟨sa, hsa⟩ := hE.2.1 (76, "the can has no room for the sliver") (by decide)
    exact vx_throwS (own := RX5) (cls := "java/lang/IllegalStateException") (text := "the can has no room for the sliver") (names := ["java/lang/RuntimeException", "java/lang/Exception"]) (ik := 74) (is := 76) (ic := 78) (sa := sa) (A := A) hx hb hfl hown (by decide +kernel) (by decide +kernel) w74 wix3 hsa (vx_hat (fun w h => hts w (List.mem_cons_of_mem _ (List.mem_append_right _ (h)))) (B := xW) (by decide +kernel) (fun w h => va_Nw.use (xW_ot w h) (hE.2.2.1 w h))) (by decide +kernel) hE.1.1 hE.1.2 hS (by rw [hml]; exact hl.1) dX5_fill_61 dX5_fill_64 dX5_fill_65 dX5_fill_67 dX5_fill_70 (fun z hz => (hnx z hz).elim) (Nat.le_of_ble_eq_true rfl) (Nat.le_of_ble_eq_true rfl) (Nat.le_of_ble_eq_true rfl) (Nat.le_of_ble_eq_true rfl) hlocks (fun t hv hz hq => ⟨⟨by rw [← hu]; rfl, by rw [← hu]; exact k_Pkeep hP hq⟩, k_Fkeep hS hz hq⟩) hS.2.2 (Nat.le_refl _) (Nat.le_refl _)
  have h := o_t h c11
  refine lv_aload_n hx hb dX5_fill_71 rfl (lv_at hl 0 rfl) ?_
  refine va_get (D := (dC, dI)) (ci := 5) (v := .ref (a 26)) (C := RX5) (T := TX5) (N := 6) hx hb huX5 (fun _ h9 => h9) hown hK hP 0 rfl rfl 3 (by decide) w25 (fun _ h9 => h9) rfl dX5_fill_72 ?_
  refine lv_aload_n hx hb dX5_fill_75 rfl (lv_at hl 0 rfl) ?_
  refine va_get (D := (dC, dI)) (ci := 5) (v := .ref (a 1)) (C := RX5) (T := TX5) (N := 6) hx hb huX5 (fun _ h9 => h9) hown hK hP 0 rfl rfl 0 (by decide) w10 (fun _ h9 => h9) rfl dX5_fill_76 ?_
  obtain ⟨v12, g13, h⟩ := o_b h
  refine k_rwL (va_runV (As := [.ref (a 1)]) (rest := []) ⟨hx, hb, hml, hown, hts⟩ (c_X3_save l dC dI cI cF (fun i => a (i + 26)) (fun i => a (i + 1)) (g_X5_history S) (g_X5_frame S) v12 g13 H.size) (cwV 1 hts gX5_fill_X3_save rfl rfl rfl (by decide +kernel) ⟨Nat.le_of_ble_eq_true rfl, Nat.le_of_ble_eq_true rfl⟩) (k_preLw (q0 := 0) (ci := 3) hK hP hD (LN_sw (LX5_frame_history a cI cF (s_X5_text S v4.2) (g_X5_frame S) v12)) rfl rfl rfl) rfl rfl hl.1 rfl (lv_room (Nat.le_of_ble_eq_true rfl)) dX5_fill_79 ⟨Nat.zero_le _, Nat.zero_le _⟩) (st1 := []) rfl hP hD hS hA (wn := wX5 a cI cF (s_X5_text (s_X5_history S v12) v4.2)) (LN_sw (LX5_frame_history a cI cF (s_X5_text S v4.2) (g_X5_frame S) v12)) (fun H locs hP hD hS => ?_)
  refine lv_aload_n hx hb dX5_fill_82 rfl (lv_at hl 0 rfl) ?_
  refine va_get (D := (dC, dI)) (ci := 5) (v := .ref (a 22)) (C := RX5) (T := TX5) (N := 6) hx hb huX5 (fun _ h9 => h9) hown hK hP 0 rfl rfl 4 (by decide) w32 (fun _ h9 => h9) rfl dX5_fill_83 ?_
  obtain ⟨v14, g15, h⟩ := o_b h
  refine k_ro (va_runV (As := []) (rest := []) ⟨hx, hb, hml, hown, hts⟩ (c_X4_partCount l dC dI cI cF (fun i => a (i + 22)) v4.2 v14 g15) (cwV 0 hts gX5_fill_X4_partCount rfl rfl rfl (by decide +kernel) ⟨Nat.le_of_ble_eq_true rfl, Nat.le_of_ble_eq_true rfl⟩) (k_preL (q0 := 0) (ci := 4) hK hP (LX5_text a cI cF (s_X5_text (s_X5_history S v12) v4.2) v4.2 (LN_id (fX4 (fun i => a (i + 22)) cI cF v4.2 v4.2))) rfl rfl rfl) rfl rfl hl.1 rfl (lv_room (Nat.le_of_ble_eq_true rfl)) dX5_fill_86 ⟨Nat.zero_le _, Nat.zero_le _⟩) (st1 := [.int v14]) rfl ?_
  refine lv_istore_n (lv' := [(2, .int v14), (0, .ref (a 0)), (1, .int x1)]) hx hb dX5_fill_89 rfl hl (by decide) rfl (fun ls hl => ?_)
  refine lv_iconst (v := (0 : Int32)) hx hb dX5_fill_90 (by decide) ?_
  refine lv_istore_n (lv' := [(3, .int (0 : Int32)), (2, .int v14), (0, .ref (a 0)), (1, .int x1)]) hx hb dX5_fill_91 rfl hl (by decide) rfl (fun ls hl => ?_)
  exact L92 _ _ _ _ _ h _ _ hP hD hS _ (lv_sub hl [2, 3, 1, 0] rfl)

