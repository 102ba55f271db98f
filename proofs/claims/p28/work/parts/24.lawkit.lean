/-! what the law's helpers need: static calls on an object, the script's cell -/
section LK
variable {p : Program} {l : Launch} {e : Env} {R : Room} {s : State} {m : MethodId} {args : Array Value} {below : List Frame} {meth : Method} {c : Code} {H : Heap} {locs : List Loc} {cells slots : Nat} {Q : State → Prop}
variable {A : Nat → Prop} {D : va_G} {cI cF : ClassId}
theorem k_preSLw {As : List Value} {w wo wn w' : va_W} (hK : va_K D vwCl (tysU cI cF) s) (hP : va_P D vwCl wo H) (hD : va_D A wo) (hL : LN wo w wn w') : PreS s H (va_Pc As (pRW D cI cF w H.size)) As :=
  ⟨k_blRW, fun U hU hW => ⟨rfl, by rw [hU], by rw [hU]; exact hL.P hP, va_K.moved hW.alike hK, (hL.D hD).weaken (fun _ _ _ _ => trivial)⟩⟩
theorem k_preSLwe {As : List Value} {w wo wn w' : va_W} (hE : xE A s.heap s) (hS : va_S A s.heap H locs) (hA : ∀ q, s.heap.size ≤ q → A q) (hK : va_K D vwCl (tysU cI cF) s) (hP : va_P D vwCl wo H) (hD : va_D A wo) (hL : LN wo w wn w') : PreS s H (va_Pc As (pRWe D cI cF w H.size)) As := by
  refine ⟨fun a U g mk z => ?_, fun U hU hW => ⟨rfl, ⟨by rw [hU], by rw [hU]; exact hL.P hP, va_K.moved hW.alike hK, (hL.D hD).weaken (fun _ _ _ _ => trivial)⟩, ?_⟩⟩
  · obtain ⟨z0, ⟨z1, zP, zK, zD⟩, zE⟩ := z
    exact ⟨z0, ⟨z1, zP, va_K.moved (u := U) (U := U.calling g mk a) (Vm.Alike.refl U.vm) zK, zD⟩, zE.calling g mk a⟩
  · rw [hU]
    exact xE.to hW hS.2.1 (hL.free hD hS hA) hE
abbrev pSX (bq L : Nat) (xs : Nat → Int32) : State → Prop := fun U => bq < U.heap.size ∧ va_X bq L xs U U.heap
theorem k_preSX {bq L : Nat} {xs : Nat → Int32} {As : List Value} (hX : va_X bq L xs s s.heap) (hbl : bq < s.heap.size) (hbA : ¬ A bq) (hS : va_S A s.heap H locs) : PreS s H (va_Pc As (pSX bq L xs)) As :=
  ⟨fun a U g mk z => ⟨z.1, z.2.1, va_X.moved (u := U) (U := U.calling g mk a) (Vm.Alike.refl U.vm) z.2.2⟩, fun U hU hW => ⟨rfl, by rw [hU]; exact Nat.lt_of_lt_of_le hbl hS.1, va_X.moved hW.alike (by rw [hU]; exact hX.kept (hS.2.1 bq hbl hbA))⟩⟩
end LK
