/-! a world's block and the same world with the block's cells replaced (LN): calls on parts of large worlds, without a place of each cell -/
def dI (ws : va_W) : Prop := ∀ (i j : Nat) (p q : Nat × va_E), ws[i]? = some p → ws[j]? = some q → p.1 = q.1 → i = j
theorem dI_left {w Y : va_W} (h : dI (w ++ Y)) : dI w := fun i j p q hp hq e => by
  have h1 := (List.getElem?_eq_some_iff.mp hp).1
  have h2 := (List.getElem?_eq_some_iff.mp hq).1
  exact h i j p q (by rw [List.getElem?_append_left h1]; exact hp) (by rw [List.getElem?_append_left h2]; exact hq) e
theorem dI_right {X w : va_W} (h : dI (X ++ w)) : dI w := fun i j p q hp hq e => by
  have h1 := h (X.length + i) (X.length + j) p q (by rw [List.getElem?_append_right (by omega)]; simpa using hp) (by rw [List.getElem?_append_right (by omega)]; simpa using hq) e
  omega
theorem dI_dis {w Y : va_W} (h : dI (w ++ Y)) {y z : Nat × va_E} (hy : y ∈ w) (hz : z ∈ Y) : y.1 ≠ z.1 := fun e => by
  obtain ⟨i, hi⟩ := List.getElem?_of_mem hy
  obtain ⟨j, hj⟩ := List.getElem?_of_mem hz
  have h1 := (List.getElem?_eq_some_iff.mp hi).1
  have h2 := h i (w.length + j) y z (by rw [List.getElem?_append_left h1]; exact hi) (by rw [List.getElem?_append_right (by omega)]; simpa using hj) e
  omega
theorem dI_app {w Y : va_W} (h1 : dI w) (h2 : dI Y) (h3 : ∀ y ∈ w, ∀ z ∈ Y, y.1 ≠ z.1) : dI (w ++ Y) := fun i j p q hp hq e => by
  rcases Nat.lt_or_ge i w.length with a | a <;> rcases Nat.lt_or_ge j w.length with b | b
  · rw [List.getElem?_append_left a] at hp
    rw [List.getElem?_append_left b] at hq
    exact h1 i j p q hp hq e
  · rw [List.getElem?_append_left a] at hp
    rw [List.getElem?_append_right b] at hq
    exact absurd e (h3 p (List.mem_of_getElem? hp) q (List.mem_of_getElem? hq))
  · rw [List.getElem?_append_right a] at hp
    rw [List.getElem?_append_left b] at hq
    exact absurd e.symm (h3 q (List.mem_of_getElem? hq) p (List.mem_of_getElem? hp))
  · rw [List.getElem?_append_right a] at hp
    rw [List.getElem?_append_right b] at hq
    have := h2 _ _ p q hp hq e
    omega
def LN (wo wc wn wc' : va_W) : Prop := wn.map Prod.fst = wo.map Prod.fst ∧ (∀ z ∈ wc, z ∈ wo) ∧ (dI wo → dI wc) ∧ ∀ z ∈ wn, z ∈ wc' ∨ (z ∈ wo ∧ (dI wo → ∀ y ∈ wc, y.1 ≠ z.1))
theorem LN_id {wc wc' : va_W} (h : wc'.map Prod.fst = wc.map Prod.fst) : LN wc wc wc' wc' := ⟨h, fun _ h => h, fun h => h, fun _ h => Or.inl h⟩
theorem LN_l {w wc w' wc' Y : va_W} (h : LN w wc w' wc') : LN (w ++ Y) wc (w' ++ Y) wc' := by
  obtain ⟨h1, h2, h3, h4⟩ := h
  refine ⟨by rw [List.map_append, List.map_append, h1], fun z hz => List.mem_append_left _ (h2 z hz), fun d => h3 (dI_left d), fun z hz => ?_⟩
  rcases List.mem_append.mp hz with hz | hz
  · rcases h4 z hz with h | ⟨h, k⟩
    · exact Or.inl h
    · exact Or.inr ⟨List.mem_append_left _ h, fun d => k (dI_left d)⟩
  · exact Or.inr ⟨List.mem_append_right _ hz, fun d y hy => dI_dis d (h2 y hy) hz⟩
theorem LN_r {w wc w' wc' X : va_W} (h : LN w wc w' wc') : LN (X ++ w) wc (X ++ w') wc' := by
  obtain ⟨h1, h2, h3, h4⟩ := h
  refine ⟨by rw [List.map_append, List.map_append, h1], fun z hz => List.mem_append_right _ (h2 z hz), fun d => h3 (dI_right d), fun z hz => ?_⟩
  rcases List.mem_append.mp hz with hz | hz
  · exact Or.inr ⟨List.mem_append_left _ hz, fun d y hy => (dI_dis d hz (h2 y hy)).symm⟩
  · rcases h4 z hz with h | ⟨h, k⟩
    · exact Or.inl h
    · exact Or.inr ⟨List.mem_append_right _ h, fun d => k (dI_right d)⟩
theorem LN_two {w1 c1 w1' c1' w2 c2 w2' c2' : va_W} (h : LN w1 c1 w1' c1') (g : LN w2 c2 w2' c2') : LN (w1 ++ w2) (c1 ++ c2) (w1' ++ w2') (c1' ++ c2') := by
  obtain ⟨h1, h2, h3, h4⟩ := h
  obtain ⟨g1, g2, g3, g4⟩ := g
  refine ⟨by rw [List.map_append, List.map_append, h1, g1], fun z hz => ?_, fun d => dI_app (h3 (dI_left d)) (g3 (dI_right d)) (fun y hy z hz => dI_dis d (h2 y hy) (g2 z hz)), fun z hz => ?_⟩
  · rcases List.mem_append.mp hz with hz | hz
    · exact List.mem_append_left _ (h2 z hz)
    · exact List.mem_append_right _ (g2 z hz)
  · rcases List.mem_append.mp hz with hz | hz
    · rcases h4 z hz with h | ⟨h, k⟩
      · exact Or.inl (List.mem_append_left _ h)
      · refine Or.inr ⟨List.mem_append_left _ h, fun d y hy => ?_⟩
        rcases List.mem_append.mp hy with hy | hy
        · exact k (dI_left d) y hy
        · exact (dI_dis d h (g2 y hy)).symm
    · rcases g4 z hz with h | ⟨h, k⟩
      · exact Or.inl (List.mem_append_right _ h)
      · refine Or.inr ⟨List.mem_append_right _ h, fun d y hy => ?_⟩
        rcases List.mem_append.mp hy with hy | hy
        · exact dI_dis d (h2 y hy) h
        · exact k (dI_right d) y hy
theorem LN_sw {wo c1 c2 wn c1' c2' : va_W} (h : LN wo (c1 ++ c2) wn (c1' ++ c2')) : LN wo (c2 ++ c1) wn (c2' ++ c1') := by
  obtain ⟨h1, h2, h3, h4⟩ := h
  have sw : ∀ {a b : va_W} {z : Nat × va_E}, z ∈ a ++ b → z ∈ b ++ a := fun h => List.mem_append.mpr (List.mem_append.mp h).symm
  refine ⟨h1, fun z hz => h2 z (sw hz), fun d => ?_, fun z hz => ?_⟩
  · have k := h3 d
    exact dI_app (dI_right k) (dI_left k) (fun y hy z hz => (dI_dis k hz hy).symm)
  · rcases h4 z hz with h | ⟨h, k⟩
    · exact Or.inl (sw h)
    · exact Or.inr ⟨h, fun d y hy => k d y (sw hy)⟩
theorem LN.P {wo wc wn wc' : va_W} (h : LN wo wc wn wc') {D : va_G} {cl : List vw_C} {H : Heap} (hP : va_P D cl wo H) : va_P D cl wc H := fun k q hq => by
  obtain ⟨i, hi⟩ := List.getElem?_of_mem (h.2.1 q (List.mem_of_getElem? hq))
  exact hP i q hi
theorem LN.D {wo wc wn wc' : va_W} (h : LN wo wc wn wc') {A : Nat → Prop} (hD : va_D A wo) : va_D A wc := ⟨h.2.2.1 hD.1, fun k q hq => by
  obtain ⟨i, hi⟩ := List.getElem?_of_mem (h.2.1 q (List.mem_of_getElem? hq))
  exact hD.2 i q hi⟩
theorem LN.free {wo wc wn wc' : va_W} (h : LN wo wc wn wc') {A0 : Nat → Prop} {H0 H : Heap} {locs : List Loc} (hD : va_D A0 wo) (hS : va_S A0 H0 H locs) (hA : ∀ q, H0.size ≤ q → A0 q) : ∀ q, va_A wc H.size q → A0 q := by
  intro q hq
  rcases hq with ⟨k, e, hk⟩ | hq
  · exact (h.D hD).2 k (q, e) hk
  · exact hA q (Nat.le_trans hS.1 hq)
theorem LN.merge {wo wc wn wc' : va_W} (h : LN wo wc wn wc') {D : va_G} {cl : List vw_C} {A : Nat → Prop} {H0 H H1 : Heap} {locs L : List Loc} (hP : va_P D cl wo H) (hD : va_D A wo) (hS : va_S A H0 H locs) (hA : ∀ q, H0.size ≤ q → A q)
    (hp : va_P D cl wc' H1) (hz : H.size ≤ H1.size) (hk : ∀ q : Nat, q < H.size → ¬ va_A wc H.size q → H1[q]? = H[q]?) (hL : ∀ z ∈ L, va_A wc H.size z.base) : va_P D cl wn H1 ∧ va_D A wn ∧ va_S A H0 H1 (locs ++ L) := by
  have hFc := h.free hD hS hA
  refine ⟨fun j q hq => ?_, k_Dfst h.1 hD, ⟨Nat.le_trans hS.1 hz, fun q h1 h2 => by rw [hk q (Nat.lt_of_lt_of_le h1 hS.1) (fun z => h2 (hFc q z))]; exact hS.2.1 q h1 h2, fun q hq => ?_⟩⟩
  · rcases h.2.2.2 q (List.mem_of_getElem? hq) with g | ⟨g, k⟩
    · obtain ⟨i, hi⟩ := List.getElem?_of_mem g
      exact hp i q hi
    · obtain ⟨i, hi⟩ := List.getElem?_of_mem g
      have hlt := (hP i q hi).lt
      refine (hP i q hi).kept (hk q.1 hlt (fun z => ?_))
      rcases z with ⟨k2, e9, z⟩ | z
      · exact k hD.1 (q.1, e9) (List.mem_of_getElem? z) rfl
      · omega
  · rcases List.mem_append.mp hq with h | h
    · exact hS.2.2 q h
    · exact hFc _ (hL q h)
/-- a cell put at its place, in the new world's own words -/
theorem LN.set {wo wn : va_W} {old c : Nat × va_E} {p : Nat} (h : LN wo [old] wn [c]) (hp : wo[p]? = some old) (e : old.1 = c.1) {D : va_G} {cl : List vw_C} {A : Nat → Prop} {H1 : Heap} (hD0 : va_D A wo) (hP : va_P D cl (wo.set p c) H1) (hD : va_D A (wo.set p c)) : va_P D cl wn H1 ∧ va_D A wn := by
  refine ⟨fun j q hq => ?_, k_Dfst h.1 hD0⟩
  rcases h.2.2.2 q (List.mem_of_getElem? hq) with g | ⟨g, k⟩
  · obtain rfl := List.mem_singleton.mp g
    exact hP p q (by rw [List.getElem?_set_self']; rw [hp]; rfl)
  · obtain ⟨i, hi⟩ := List.getElem?_of_mem g
    have hne : p ≠ i := fun e2 => by
      subst e2
      rw [hp] at hi
      exact k hD0.1 old List.mem_cons_self (congrArg Prod.fst (Option.some.inj hi))
    exact hP i q (by rw [List.getElem?_set_ne hne]; exact hi)
section KL
variable {p : Program} {l : Launch} {e : Env} {R : Room} {s : State} {m : MethodId} {args : Array Value} {below : List Frame} {meth : Method} {c : Code} {H : Heap} {locs : List Loc} {cells slots : Nat} {Q : State → Prop}
variable {pc : Nat} {ls : Array Slot} {rest st0 st1 : List Value} {a : Array Value} {A : Nat → Prop} {H0 : Heap} {v : Option Value} {D : va_G} {cI cF : ClassId}
theorem k_rwL {mc ms : Nat} {wc wc' wo wn : va_W} (hr : va_Run p l e R s m args below meth c H locs cells slots mc ms (F0 m pc ls st0) rest (qRW D wc' v (va_A wc H.size) a) (va_A wc H.size)) (hst1 : v.toList ++ rest = st1)
    (hP : va_P D vwCl wo H) (hD : va_D A wo) (hS : va_S A H0 H locs) (hA : ∀ q, H0.size ≤ q → A q) (hL : LN wo wc wn wc')
    (kk : ∀ (H1 : Heap) (locs1 : List Loc), va_P D vwCl wn H1 → va_D A wn → va_S A H0 H1 locs1 → W p l e R s m args below meth c H1 locs1 (cells + mc) (slots + ms) Q (F0 m (pc + 3) ls st1)) : W p l e R s m args below meth c H locs cells slots Q (F0 m pc ls st0) := by
  subst hst1
  intro T hT X
  obtain ⟨v', st₀, t, T', L, h0, X', hLo, e1, e2, ⟨⟨hv, hp⟩, hz, hk⟩, st⟩ := hr T hT X
  cases hv
  rw [h0] at hz hk
  obtain ⟨k1, k2, k3⟩ := hL.merge (H1 := T'.heap) (L := L) hP hD hS hA (by rw [e1]; exact hp) (by rw [e1]; exact hz) (by rw [e1]; exact hk) hLo
  obtain ⟨t2, a1, b1⟩ := kk T'.heap (locs ++ L) k1 k2 k3 T' rfl X'
  exact ⟨t2, st t2 a1, b1⟩
theorem k_preL {C : String} {b : Nat} {As : List Value} {w wo wn w' : va_W} {q0 ci : Nat} {q : vw_C} {fs : List Value} (hK : va_K D vwCl (tysU cI cF) s) (hP : va_P D vwCl wo H) (hL : LN wo w wn w') (hc : vwCl[ci]? = some q) (hC : q.1 = C) (he : w[q0]? = some (b, .inr (ci, fs))) : PreV s H C b (va_Pc (.ref b :: As) (pRO D cI cF w)) As := k_preV hK (hL.P hP) hc hC he
theorem k_preLw {C : String} {b : Nat} {As : List Value} {w wo wn w' : va_W} {q0 ci : Nat} {q : vw_C} {fs : List Value} (hK : va_K D vwCl (tysU cI cF) s) (hP : va_P D vwCl wo H) (hD : va_D A wo) (hL : LN wo w wn w') (hc : vwCl[ci]? = some q) (hC : q.1 = C) (he : w[q0]? = some (b, .inr (ci, fs))) : PreV s H C b (va_Pc (.ref b :: As) (pRW D cI cF w H.size)) As := by
  subst hC
  exact ⟨k_blRW, va_recv hK (hL.P hP) hc he, fun U hU hW => ⟨rfl, by rw [hU], by rw [hU]; exact hL.P hP, va_K.moved hW.alike hK, (hL.D hD).weaken (fun _ _ _ _ => trivial)⟩⟩
theorem k_preLwe {C : String} {b : Nat} {As : List Value} {w wo wn w' : va_W} {q0 ci : Nat} {q : vw_C} {fs : List Value} (hE : xE A s.heap s) (hS : va_S A s.heap H locs) (hA : ∀ q, s.heap.size ≤ q → A q) (hK : va_K D vwCl (tysU cI cF) s) (hP : va_P D vwCl wo H) (hD : va_D A wo) (hL : LN wo w wn w') (hc : vwCl[ci]? = some q) (hC : q.1 = C) (he : w[q0]? = some (b, .inr (ci, fs))) : PreV s H C b (va_Pc (.ref b :: As) (pRWe D cI cF w H.size)) As := by
  subst hC
  refine ⟨fun a U g mk z => ?_, va_recv hK (hL.P hP) hc he, fun U hU hW => ⟨rfl, ⟨by rw [hU], by rw [hU]; exact hL.P hP, va_K.moved hW.alike hK, (hL.D hD).weaken (fun _ _ _ _ => trivial)⟩, ?_⟩⟩
  · obtain ⟨z0, ⟨z1, zP, zK, zD⟩, zE⟩ := z
    exact ⟨z0, ⟨z1, zP, va_K.moved (u := U) (U := U.calling g mk a) (Vm.Alike.refl U.vm) zK, zD⟩, zE.calling g mk a⟩
  · rw [hU]
    exact xE.to hW hS.2.1 (hL.free hD hS hA) hE
theorem lv_ldcwf {cc : ByteArray} (hexec : p.tables.exec = Jvm.exec) (hb : c.code = cc) {own : String} {index : Nat} {v : UInt32} (hown : s.vm.findClass own = some m.cls) (hconst : (Jvm.Cond.constantFloat own index v).before args s = true) (hdg : decode cc pc = .ok (.ldc_w index, 3)) (k : W p l e R s m args below meth c H locs cells slots Q (F0 m (pc + 3) ls (.float v :: rest))) : W p l e R s m args below meth c H locs cells slots Q (F0 m pc ls rest) := by
  intro T hT X
  obtain ⟨t, a, b⟩ := k T hT X
  refine ⟨t, ?_, b⟩
  obtain ⟨k9, cf, hk, hcf, hcp⟩ := Cond.constantFloat_spec hown hconst
  obtain ⟨k', hk', he⟩ := X.warmed.alike.2.2 _ _ hk
  have hdg : decode c.code (F0 m pc ls rest).pc = .ok (.ldc_w index, 3) := by rw [hb]; exact hdg
  jvm_step X.here [hexec, hdg, ldc_w.wp_float (s := T) (f := F0 m pc ls rest) X.here.top hk' (by rw [he]; exact hcf) hcp]
  exact a
end KL

theorem fX0 (a : Nat → Nat) (cI cF : ClassId) (S T : S_X0) : (wX0 a cI cF T).map Prod.fst = (wX0 a cI cF S).map Prod.fst := rfl
theorem fX1 (a : Nat → Nat) (cI cF : ClassId) (S T : S_X1) : (wX1 a cI cF T).map Prod.fst = (wX1 a cI cF S).map Prod.fst := rfl
theorem fX2 (a : Nat → Nat) (cI cF : ClassId) (S T : S_X2) : (wX2 a cI cF T).map Prod.fst = (wX2 a cI cF S).map Prod.fst := rfl
theorem fX3 (a : Nat → Nat) (cI cF : ClassId) (S T : S_X3) : (wX3 a cI cF T).map Prod.fst = (wX3 a cI cF S).map Prod.fst := rfl
theorem fX4 (a : Nat → Nat) (cI cF : ClassId) (S T : S_X4) : (wX4 a cI cF T).map Prod.fst = (wX4 a cI cF S).map Prod.fst := rfl
theorem fX5 (a : Nat → Nat) (cI cF : ClassId) (S T : S_X5) : (wX5 a cI cF T).map Prod.fst = (wX5 a cI cF S).map Prod.fst := rfl
theorem fX6 (a : Nat → Nat) (cI cF : ClassId) (S T : S_X6) : (wX6 a cI cF T).map Prod.fst = (wX6 a cI cF S).map Prod.fst := rfl
theorem LX2_fed (a : Nat → Nat) (cI cF : ClassId) (S : S_X2) (v : Int32) : LN (wX2 a cI cF S) [oX2 a S] (wX2 a cI cF (s_X2_fed S v)) [oX2 a (s_X2_fed S v)] := (LN_l (LN_l (LN_l (LN_id rfl))))
theorem LX2_taker (a : Nat → Nat) (cI cF : ClassId) (S : S_X2) (v : Int32) : LN (wX2 a cI cF S) [oX2 a S] (wX2 a cI cF (s_X2_taker S v)) [oX2 a (s_X2_taker S v)] := (LN_l (LN_l (LN_l (LN_id rfl))))
theorem LX2_stopped (a : Nat → Nat) (cI cF : ClassId) (S : S_X2) (v : Int32) : LN (wX2 a cI cF S) [oX2 a S] (wX2 a cI cF (s_X2_stopped S v)) [oX2 a (s_X2_stopped S v)] := (LN_l (LN_l (LN_l (LN_id rfl))))
theorem LX2_steps (a : Nat → Nat) (cI cF : ClassId) (S : S_X2) (v : Int32) : LN (wX2 a cI cF S) [oX2 a S] (wX2 a cI cF (s_X2_steps S v)) [oX2 a (s_X2_steps S v)] := (LN_l (LN_l (LN_l (LN_id rfl))))
theorem LX2_latestDraft (a : Nat → Nat) (cI cF : ClassId) (S : S_X2) (v : Int32) : LN (wX2 a cI cF S) [oX2 a S] (wX2 a cI cF (s_X2_latestDraft S v)) [oX2 a (s_X2_latestDraft S v)] := (LN_l (LN_l (LN_l (LN_id rfl))))
theorem LX2_lapped (a : Nat → Nat) (cI cF : ClassId) (S : S_X2) (v : Int32) : LN (wX2 a cI cF S) [oX2 a S] (wX2 a cI cF (s_X2_lapped S v)) [oX2 a (s_X2_lapped S v)] := (LN_l (LN_l (LN_l (LN_id rfl))))
theorem LX2_waste (a : Nat → Nat) (cI cF : ClassId) (S : S_X2) (v : Int32) : LN (wX2 a cI cF S) [oX2 a S] (wX2 a cI cF (s_X2_waste S v)) [oX2 a (s_X2_waste S v)] := (LN_l (LN_l (LN_l (LN_id rfl))))
theorem LX2_filled (a : Nat → Nat) (cI cF : ClassId) (S : S_X2) (v : Int32) : LN (wX2 a cI cF S) [oX2 a S] (wX2 a cI cF (s_X2_filled S v)) [oX2 a (s_X2_filled S v)] := (LN_l (LN_l (LN_l (LN_id rfl))))
theorem LX2_cameOut (a : Nat → Nat) (cI cF : ClassId) (S : S_X2) (v : Int32) : LN (wX2 a cI cF S) [oX2 a S] (wX2 a cI cF (s_X2_cameOut S v)) [oX2 a (s_X2_cameOut S v)] := (LN_l (LN_l (LN_l (LN_id rfl))))
theorem LX2_cans (a : Nat → Nat) (cI cF : ClassId) (S : S_X2) (T : S_X0) {wc wc' : va_W} (h : LN (wX0 (fun i => a (i + 1)) cI cF (g_X2_cans S)) wc (wX0 (fun i => a (i + 1)) cI cF T) wc') : LN (wX2 a cI cF S) wc (wX2 a cI cF (s_X2_cans S T)) wc' := (LN_l (LN_l (LN_r h)))
theorem LX2_feeler (a : Nat → Nat) (cI cF : ClassId) (S : S_X2) (T : S_X1) {wc wc' : va_W} (h : LN (wX1 (fun i => a (i + 4)) cI cF (g_X2_feeler S)) wc (wX1 (fun i => a (i + 4)) cI cF T) wc') : LN (wX2 a cI cF S) wc (wX2 a cI cF (s_X2_feeler S T)) wc' := (LN_l (LN_r h))
theorem LX3_oldest (a : Nat → Nat) (cI cF : ClassId) (S : S_X3) (v : Int32) : LN (wX3 a cI cF S) [oX3 a S] (wX3 a cI cF (s_X3_oldest S v)) [oX3 a (s_X3_oldest S v)] := (LN_l (LN_l (LN_l (LN_l (LN_l (LN_l (LN_l (LN_id rfl))))))))
theorem LX3_saved (a : Nat → Nat) (cI cF : ClassId) (S : S_X3) (v : Int32) : LN (wX3 a cI cF S) [oX3 a S] (wX3 a cI cF (s_X3_saved S v)) [oX3 a (s_X3_saved S v)] := (LN_l (LN_l (LN_l (LN_l (LN_l (LN_l (LN_l (LN_id rfl))))))))
theorem LX3_row0 (a : Nat → Nat) (cI cF : ClassId) (S : S_X3) (T : S_X2) {wc wc' : va_W} (h : LN (wX2 (fun i => a (i + 2)) cI cF (g_X3_rows S 0)) wc (wX2 (fun i => a (i + 2)) cI cF T) wc') : LN (wX3 a cI cF S) wc (wX3 a cI cF (s_X3_rows S (va_up (g_X3_rows S) 0 T))) wc' := (LN_l (LN_l (LN_l (LN_l (LN_l (LN_r h))))))
theorem LX3_row1 (a : Nat → Nat) (cI cF : ClassId) (S : S_X3) (T : S_X2) {wc wc' : va_W} (h : LN (wX2 (fun i => a (i + 9)) cI cF (g_X3_rows S 1)) wc (wX2 (fun i => a (i + 9)) cI cF T) wc') : LN (wX3 a cI cF S) wc (wX3 a cI cF (s_X3_rows S (va_up (g_X3_rows S) 1 T))) wc' := (LN_l (LN_l (LN_l (LN_l (LN_r h)))))
theorem LX3_row2 (a : Nat → Nat) (cI cF : ClassId) (S : S_X3) (T : S_X2) {wc wc' : va_W} (h : LN (wX2 (fun i => a (i + 16)) cI cF (g_X3_rows S 2)) wc (wX2 (fun i => a (i + 16)) cI cF T) wc') : LN (wX3 a cI cF S) wc (wX3 a cI cF (s_X3_rows S (va_up (g_X3_rows S) 2 T))) wc' := (LN_l (LN_l (LN_l (LN_r h))))
theorem LX3_row3 (a : Nat → Nat) (cI cF : ClassId) (S : S_X3) (T : S_X2) {wc wc' : va_W} (h : LN (wX2 (fun i => a (i + 23)) cI cF (g_X3_rows S 3)) wc (wX2 (fun i => a (i + 23)) cI cF T) wc') : LN (wX3 a cI cF S) wc (wX3 a cI cF (s_X3_rows S (va_up (g_X3_rows S) 3 T))) wc' := (LN_l (LN_l (LN_r h)))
theorem LX3_row4 (a : Nat → Nat) (cI cF : ClassId) (S : S_X3) (T : S_X2) {wc wc' : va_W} (h : LN (wX2 (fun i => a (i + 30)) cI cF (g_X3_rows S 4)) wc (wX2 (fun i => a (i + 30)) cI cF T) wc') : LN (wX3 a cI cF S) wc (wX3 a cI cF (s_X3_rows S (va_up (g_X3_rows S) 4 T))) wc' := (LN_l (LN_r h))
theorem LX3_row5 (a : Nat → Nat) (cI cF : ClassId) (S : S_X3) (T : S_X2) {wc wc' : va_W} (h : LN (wX2 (fun i => a (i + 37)) cI cF (g_X3_rows S 5)) wc (wX2 (fun i => a (i + 37)) cI cF T) wc') : LN (wX3 a cI cF S) wc (wX3 a cI cF (s_X3_rows S (va_up (g_X3_rows S) 5 T))) wc' := (LN_r h)
theorem LX5_hasSnapshot (a : Nat → Nat) (cI cF : ClassId) (S : S_X5) (v : Int32) : LN (wX5 a cI cF S) [oX5 a S] (wX5 a cI cF (s_X5_hasSnapshot S v)) [oX5 a (s_X5_hasSnapshot S v)] := (LN_l (LN_l (LN_l (LN_l (LN_l (LN_id rfl))))))
theorem LX5_frame (a : Nat → Nat) (cI cF : ClassId) (S : S_X5) (T : S_X2) {wc wc' : va_W} (h : LN (wX2 (fun i => a (i + 1)) cI cF (g_X5_frame S)) wc (wX2 (fun i => a (i + 1)) cI cF T) wc') : LN (wX5 a cI cF S) wc (wX5 a cI cF (s_X5_frame S T)) wc' := (LN_l (LN_l (LN_l (LN_l (LN_r h)))))
theorem LX5_snapshot (a : Nat → Nat) (cI cF : ClassId) (S : S_X5) (T : S_X2) {wc wc' : va_W} (h : LN (wX2 (fun i => a (i + 8)) cI cF (g_X5_snapshot S)) wc (wX2 (fun i => a (i + 8)) cI cF T) wc') : LN (wX5 a cI cF S) wc (wX5 a cI cF (s_X5_snapshot S T)) wc' := (LN_l (LN_l (LN_l (LN_r h))))
theorem LX5_trial (a : Nat → Nat) (cI cF : ClassId) (S : S_X5) (T : S_X2) {wc wc' : va_W} (h : LN (wX2 (fun i => a (i + 15)) cI cF (g_X5_trial S)) wc (wX2 (fun i => a (i + 15)) cI cF T) wc') : LN (wX5 a cI cF S) wc (wX5 a cI cF (s_X5_trial S T)) wc' := (LN_l (LN_l (LN_r h)))
theorem LX5_text (a : Nat → Nat) (cI cF : ClassId) (S : S_X5) (T : S_X4) {wc wc' : va_W} (h : LN (wX4 (fun i => a (i + 22)) cI cF (g_X5_text S)) wc (wX4 (fun i => a (i + 22)) cI cF T) wc') : LN (wX5 a cI cF S) wc (wX5 a cI cF (s_X5_text S T)) wc' := (LN_l (LN_r h))
theorem LX5_history (a : Nat → Nat) (cI cF : ClassId) (S : S_X5) (T : S_X3) {wc wc' : va_W} (h : LN (wX3 (fun i => a (i + 26)) cI cF (g_X5_history S)) wc (wX3 (fun i => a (i + 26)) cI cF T) wc') : LN (wX5 a cI cF S) wc (wX5 a cI cF (s_X5_history S T)) wc' := (LN_r h)
theorem LX5_frame_snapshot (a : Nat → Nat) (cI cF : ClassId) (S : S_X5) (T1 : S_X2) (T2 : S_X2) : LN (wX5 a cI cF S) (wX2 (fun i => a (i + 1)) cI cF (g_X5_frame S) ++ wX2 (fun i => a (i + 8)) cI cF (g_X5_snapshot S)) (wX5 a cI cF (s_X5_snapshot (s_X5_frame S T1) T2)) (wX2 (fun i => a (i + 1)) cI cF T1 ++ wX2 (fun i => a (i + 8)) cI cF T2) := (LN_l (LN_l (LN_l (LN_two (LN_r (LN_id (fX2 _ cI cF _ _))) (LN_id (fX2 _ cI cF _ _))))))
theorem LX5_frame_trial (a : Nat → Nat) (cI cF : ClassId) (S : S_X5) (T1 : S_X2) (T2 : S_X2) : LN (wX5 a cI cF S) (wX2 (fun i => a (i + 1)) cI cF (g_X5_frame S) ++ wX2 (fun i => a (i + 15)) cI cF (g_X5_trial S)) (wX5 a cI cF (s_X5_trial (s_X5_frame S T1) T2)) (wX2 (fun i => a (i + 1)) cI cF T1 ++ wX2 (fun i => a (i + 15)) cI cF T2) := (LN_l (LN_l (LN_two (LN_l (LN_r (LN_id (fX2 _ cI cF _ _)))) (LN_id (fX2 _ cI cF _ _)))))
theorem LX5_frame_text (a : Nat → Nat) (cI cF : ClassId) (S : S_X5) (T1 : S_X2) (T2 : S_X4) : LN (wX5 a cI cF S) (wX2 (fun i => a (i + 1)) cI cF (g_X5_frame S) ++ wX4 (fun i => a (i + 22)) cI cF (g_X5_text S)) (wX5 a cI cF (s_X5_text (s_X5_frame S T1) T2)) (wX2 (fun i => a (i + 1)) cI cF T1 ++ wX4 (fun i => a (i + 22)) cI cF T2) := (LN_l (LN_two (LN_l (LN_l (LN_r (LN_id (fX2 _ cI cF _ _))))) (LN_id (fX4 _ cI cF _ _))))
theorem LX5_frame_history (a : Nat → Nat) (cI cF : ClassId) (S : S_X5) (T1 : S_X2) (T2 : S_X3) : LN (wX5 a cI cF S) (wX2 (fun i => a (i + 1)) cI cF (g_X5_frame S) ++ wX3 (fun i => a (i + 26)) cI cF (g_X5_history S)) (wX5 a cI cF (s_X5_history (s_X5_frame S T1) T2)) (wX2 (fun i => a (i + 1)) cI cF T1 ++ wX3 (fun i => a (i + 26)) cI cF T2) := (LN_two (LN_l (LN_l (LN_l (LN_r (LN_id (fX2 _ cI cF _ _)))))) (LN_id (fX3 _ cI cF _ _)))
theorem LX5_snapshot_trial (a : Nat → Nat) (cI cF : ClassId) (S : S_X5) (T1 : S_X2) (T2 : S_X2) : LN (wX5 a cI cF S) (wX2 (fun i => a (i + 8)) cI cF (g_X5_snapshot S) ++ wX2 (fun i => a (i + 15)) cI cF (g_X5_trial S)) (wX5 a cI cF (s_X5_trial (s_X5_snapshot S T1) T2)) (wX2 (fun i => a (i + 8)) cI cF T1 ++ wX2 (fun i => a (i + 15)) cI cF T2) := (LN_l (LN_l (LN_two (LN_r (LN_id (fX2 _ cI cF _ _))) (LN_id (fX2 _ cI cF _ _)))))
theorem LX5_snapshot_text (a : Nat → Nat) (cI cF : ClassId) (S : S_X5) (T1 : S_X2) (T2 : S_X4) : LN (wX5 a cI cF S) (wX2 (fun i => a (i + 8)) cI cF (g_X5_snapshot S) ++ wX4 (fun i => a (i + 22)) cI cF (g_X5_text S)) (wX5 a cI cF (s_X5_text (s_X5_snapshot S T1) T2)) (wX2 (fun i => a (i + 8)) cI cF T1 ++ wX4 (fun i => a (i + 22)) cI cF T2) := (LN_l (LN_two (LN_l (LN_r (LN_id (fX2 _ cI cF _ _)))) (LN_id (fX4 _ cI cF _ _))))
theorem LX5_snapshot_history (a : Nat → Nat) (cI cF : ClassId) (S : S_X5) (T1 : S_X2) (T2 : S_X3) : LN (wX5 a cI cF S) (wX2 (fun i => a (i + 8)) cI cF (g_X5_snapshot S) ++ wX3 (fun i => a (i + 26)) cI cF (g_X5_history S)) (wX5 a cI cF (s_X5_history (s_X5_snapshot S T1) T2)) (wX2 (fun i => a (i + 8)) cI cF T1 ++ wX3 (fun i => a (i + 26)) cI cF T2) := (LN_two (LN_l (LN_l (LN_r (LN_id (fX2 _ cI cF _ _))))) (LN_id (fX3 _ cI cF _ _)))
theorem LX5_trial_text (a : Nat → Nat) (cI cF : ClassId) (S : S_X5) (T1 : S_X2) (T2 : S_X4) : LN (wX5 a cI cF S) (wX2 (fun i => a (i + 15)) cI cF (g_X5_trial S) ++ wX4 (fun i => a (i + 22)) cI cF (g_X5_text S)) (wX5 a cI cF (s_X5_text (s_X5_trial S T1) T2)) (wX2 (fun i => a (i + 15)) cI cF T1 ++ wX4 (fun i => a (i + 22)) cI cF T2) := (LN_l (LN_two (LN_r (LN_id (fX2 _ cI cF _ _))) (LN_id (fX4 _ cI cF _ _))))
theorem LX5_trial_history (a : Nat → Nat) (cI cF : ClassId) (S : S_X5) (T1 : S_X2) (T2 : S_X3) : LN (wX5 a cI cF S) (wX2 (fun i => a (i + 15)) cI cF (g_X5_trial S) ++ wX3 (fun i => a (i + 26)) cI cF (g_X5_history S)) (wX5 a cI cF (s_X5_history (s_X5_trial S T1) T2)) (wX2 (fun i => a (i + 15)) cI cF T1 ++ wX3 (fun i => a (i + 26)) cI cF T2) := (LN_two (LN_l (LN_r (LN_id (fX2 _ cI cF _ _)))) (LN_id (fX3 _ cI cF _ _)))
theorem LX5_text_history (a : Nat → Nat) (cI cF : ClassId) (S : S_X5) (T1 : S_X4) (T2 : S_X3) : LN (wX5 a cI cF S) (wX4 (fun i => a (i + 22)) cI cF (g_X5_text S) ++ wX3 (fun i => a (i + 26)) cI cF (g_X5_history S)) (wX5 a cI cF (s_X5_history (s_X5_text S T1) T2)) (wX4 (fun i => a (i + 22)) cI cF T1 ++ wX3 (fun i => a (i + 26)) cI cF T2) := (LN_two (LN_r (LN_id (fX4 _ cI cF _ _))) (LN_id (fX3 _ cI cF _ _)))
