def m_L_cell (L : Nat) (xs : Nat → Int32) (x1 : Int32) : Option (Int32) := if (Int32.ofNat L) ≤ x1 then (some (((7919 : Int32) * (x1 + (3 : Int32))) * (x1 + (11 : Int32)))) else (if x1 < 0 ∨ L ≤ x1.toNatClampNeg then none else (some (xs x1.toNatClampNeg)))
set_option maxHeartbeats 4000000 in
set_option maxRecDepth 100000 in
theorem c_L_cell (l : Launch) (bq L : Nat) (xs : Nat → Int32) (x1 : Int32) (u : Int32) (h : m_L_cell L xs x1 = some u) : Met l yL_cell wsL_cell ({ frames := 0, cells := 0, slots := 0, locals := 0 } : Room) (va_Pc [.ref bq, .int x1] (pSX bq L xs)) (qRO (some (.int u))) 0 0 (fun _ => False) := by
  refine Met.ofW (cc := cL_cell) (maxL := 2) (ret := (some .int)) (by decide) rfl ?_
  intro p e s m args below meth c s₁ B hml hv
  obtain ⟨hargs, hbl, hX⟩ := hv
  subst hargs
  have hx := B.exec
  have hb := B.bytes
  have hr := B.returns
  have hts := atoms_spec (ws := wsL_cell) B.pre
  have hown : s.vm.findClass RL = some m.cls := findClass_of_methodNamed B.named
  have hlocks := B.notSynchronized
  have hS : va_S (fun _ : Nat => False) s.heap s.heap [] := va_S.rf
  have hbA : ¬ (fun _ : Nat => False) bq := fun h => h
  have hl := lv_entry ([.ref bq, .int x1]) (n := 2) (Nat.le_of_ble_eq_true rfl)
  rw [lg_entry_eq]
  generalize (lg_sl ([.ref bq, .int x1]) ++ List.replicate (2 - (lg_sl ([.ref bq, .int x1])).length) Slot.unset).toArray = ls at hl ⊢
  have hl : lv_has ls 2 [(0, .ref bq), (1, .int x1)] := hl
  rw [m_L_cell] at h
  refine lv_iload_n hx hb dL_cell_0 rfl (lv_at hl 1 rfl) ?_
  refine lv_aload_n hx hb dL_cell_1 rfl (lv_at hl 0 rfl) ?_
  refine va_slen hx hb hX hbl hbA hS dL_cell_2 ?_
  refine lv_icmp_ge (tgt := 12) hx hb dL_cell_3 (by decide) (fun c1 => ?_) (fun c1 => ?_)
  rotate_left
  · have h := o_f h c1
    refine lv_aload_n hx hb dL_cell_6 rfl (lv_at hl 0 rfl) ?_
    refine lv_iload_n hx hb dL_cell_7 rfl (lv_at hl 1 rfl) ?_
    obtain ⟨i2, h⟩ := o_in h
    refine va_sld hx hb hX hbl hbA hS i2 dL_cell_8 ?_
    refine lv_goto (tgt := 24) hx hb dL_cell_9 (by decide) ?_
    have hu := Option.some.inj h
    exact W.iret (v := xs x1.toNatClampNeg) hx hb hr (fun t ht hW => ⟨congrArg (fun z => Outcome.returned (some (Value.int z))) hu, ht⟩) (fun q hq => absurd hq List.not_mem_nil) dL_cell_24
  have h := o_t h c1
  refine lv_sipush (v := (7919 : Int32)) hx hb dL_cell_12 (by decide) ?_
  refine lv_iload_n hx hb dL_cell_15 rfl (lv_at hl 1 rfl) ?_
  refine lv_iconst (v := (3 : Int32)) hx hb dL_cell_16 (by decide) ?_
  refine lv_iadd hx hb dL_cell_17 ?_
  refine lv_imul hx hb dL_cell_18 ?_
  refine lv_iload_n hx hb dL_cell_19 rfl (lv_at hl 1 rfl) ?_
  refine lv_bipush (v := (11 : Int32)) hx hb dL_cell_20 (by decide) ?_
  refine lv_iadd hx hb dL_cell_22 ?_
  refine lv_imul hx hb dL_cell_23 ?_
  have hu := Option.some.inj h
  exact W.iret (v := ((7919 : Int32) * (x1 + (3 : Int32))) * (x1 + (11 : Int32))) hx hb hr (fun t ht hW => ⟨congrArg (fun z => Outcome.returned (some (Value.int z))) hu, ht⟩) (fun q hq => absurd hq List.not_mem_nil) dL_cell_24
