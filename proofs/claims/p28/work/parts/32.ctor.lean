/-! constructors: an object with its parts, made anew -/
theorem arrV_congr (cI : ClassId) (N : Nat) {f g : Nat → Value} (h : ∀ j, j < N → f j = g j) : arrV cI N f = arrV cI N g := by
  have e : (Array.ofFn (n := N) fun j => f j.val) = Array.ofFn (n := N) fun j => g j.val := by
    congr 1
    funext j
    exact h j.val j.isLt
  unfold arrV
  rw [e]
def xI (U : State) : Prop := va_Nw (.methodLinkNest RX2 11 yX0_init "DrawnSlivers") U ∧ va_Nw (.methodLinkNest RX2 20 yX1_init "DrawnSlivers") U ∧ va_Nw (.methodLinkNest RX3 24 yX2_init "DrawnSlivers") U ∧ va_Nw (.methodLinkNest RX5 9 yX2_init "DrawnSlivers") U ∧ va_Nw (.methodLinkNest RX5 31 yX4_init "DrawnSlivers") U ∧ va_AO RX2 U
theorem xI.warm {s U : State} (hW : s.WarmedH U.vm) (h : xI s) : xI U := ⟨va_Nw.warmM hW h.1, va_Nw.warmM hW h.2.1, va_Nw.warmM hW h.2.2.1, va_Nw.warmM hW h.2.2.2.1, va_Nw.warmM hW h.2.2.2.2.1, h.2.2.2.2.2.moved hW.alike⟩
abbrev pIN (D : va_G) (cI cF : ClassId) (c0 : Nat × va_E) (sz : Nat) : State → Prop := fun U => U.heap.size = sz ∧ va_P D vwCl [c0] U.heap ∧ va_K D vwCl (tysU cI cF) U ∧ va_D (fun _ => True) [c0] ∧ xI U
abbrev qIN (D : va_G) (W9 : (Nat → Nat) → va_W) (c0 : Nat × va_E) (sz : Nat) : Array Value → State → Outcome → State → Prop := fun _ st o t => (o = .returned none ∧ ∃ a : Nat → Nat, a 0 = c0.1 ∧ va_P D vwCl (W9 a) t.heap ∧ va_D (va_A [c0] sz) (W9 a)) ∧ va_F (va_A [c0] sz) st t
section KI
variable {p : Program} {l : Launch} {e : Env} {R : Room} {s : State} {m : MethodId} {args : Array Value} {below : List Frame} {meth : Method} {c : Code} {H : Heap} {locs : List Loc} {cells slots : Nat} {Q : State → Prop}
variable {pc : Nat} {ls : Array Slot} {rest st0 : List Value} {a9 : Array Value} {A : Nat → Prop} {H0 : Heap} {D : va_G} {cI cF : ClassId} {cc : ByteArray} {ws : va_W}
theorem k_newi (hexec : p.tables.exec = Jvm.exec) (hb : c.code = cc) (harr : (Cond.arrayClass .int).before args s = true) (hK : va_K D vwCl (tysU cI cF) s) (hP : va_P D vwCl ws H) (hD : va_D A ws) (hS : va_S A H0 H locs) (hA : ∀ q, H0.size ≤ q → A q) {n : Int32} (N' : Nat) (hn : ¬ n < 0) (hN : n.toNatClampNeg = N') (hbytes : N' * 4 ≤ 536870912) (hcells : cells + 1 ≤ R.cells) (hslots : slots + N' ≤ R.slots) (hdg : decode cc pc = .ok (.newarray .int, 2))
    (kk : ∀ (q : Nat) (H1 : Heap), va_P D vwCl (ws ++ [(q, .inl (cI, N', .inl (fun _ => 0)))]) H1 → va_D A (ws ++ [(q, .inl (cI, N', .inl (fun _ => 0)))]) → va_S A H0 H1 locs → W p l e R s m args below meth c H1 locs (cells + 1) (slots + N') Q (F0 m (pc + 2) ls (.ref q :: rest))) : W p l e R s m args below meth c H locs cells slots Q (F0 m pc ls (.int n :: rest)) := by
  refine va_newa (atype := .int) (ty := .int) (a0 := (N', .inl (fun _ => 0))) hexec hb harr rfl hK hP hD hS hA (fun cA => rfl) hn hN hbytes hcells hslots hdg (fun q cA H1 hK2 hP2 hD2 hS2 => ?_)
  have e1 : cI = cA := Option.some.inj ((hK.2 0 (cI, .int) rfl).2.symm.trans (hK2.2 2 (cA, .int) rfl).2)
  subst e1
  exact kk q H1 hP2 hD2 hS2
theorem k_newf (hexec : p.tables.exec = Jvm.exec) (hb : c.code = cc) {own : String} {index : Nat} (hown : s.vm.findClass own = some m.cls) (hlink : (Cond.classLink own index RX2).before args s = true) (hover : va_AO RX2 s) (hK : va_K D vwCl (tysU cI cF) s) (hP : va_P D vwCl ws H) (hD : va_D A ws) (hS : va_S A H0 H locs) (hA : ∀ q, H0.size ≤ q → A q) {n : Int32} (N' : Nat) (hn : ¬ n < 0) (hN : n.toNatClampNeg = N') (hbytes : N' * 4 ≤ 536870912) (hcells : cells + 1 ≤ R.cells) (hslots : slots + N' ≤ R.slots) (hdg : decode cc pc = .ok (.anewarray index, 3))
    (kk : ∀ (q : Nat) (H1 : Heap), va_P D vwCl (ws ++ [(q, .inl (cF, N', .inr (.inr (.inr (.inr (fun _ => none))))))]) H1 → va_D A (ws ++ [(q, .inl (cF, N', .inr (.inr (.inr (.inr (fun _ => none))))))]) → va_S A H0 H1 locs → W p l e R s m args below meth c H1 locs (cells + 1) (slots + N') Q (F0 m (pc + 3) ls (.ref q :: rest))) : W p l e R s m args below meth c H locs cells slots Q (F0 m pc ls (.int n :: rest)) := by
  refine va_newq hexec hb hown hlink hover hK hP hD hS hA hn hN hbytes hcells hslots hdg (fun q cA H1 hK2 hP2 hD2 hS2 => ?_)
  obtain ⟨-, -, -, -, -, e1⟩ := (hK.2 1 (cF, .object RX2) rfl).2
  obtain ⟨-, -, -, -, -, e2⟩ := (hK2.2 2 (cA, .object RX2) rfl).2
  have e3 : cF = cA := Option.some.inj (e1.symm.trans e2)
  subst e3
  exact kk q H1 hP2 hD2 hS2
theorem k_in {mc ms : Nat} {X : va_W} {c0 : Nat × va_E} {W9 : (Nat → Nat) → va_W} (hr : va_Run p l e R s m args below meth c H locs cells slots mc ms (F0 m pc ls st0) rest (qIN D W9 c0 H.size a9) (va_A [c0] H.size))
    (hP : va_P D vwCl (X ++ [c0]) H) (hD : va_D A (X ++ [c0])) (hS : va_S A H0 H locs) (hA : ∀ q, H0.size ≤ q → A q)
    (kk : ∀ (a : Nat → Nat) (H1 : Heap) (locs1 : List Loc), a 0 = c0.1 → va_P D vwCl (X ++ W9 a) H1 → va_D A (X ++ W9 a) → va_S A H0 H1 locs1 → W p l e R s m args below meth c H1 locs1 (cells + mc) (slots + ms) Q (F0 m (pc + 3) ls rest)) : W p l e R s m args below meth c H locs cells slots Q (F0 m pc ls st0) := by
  intro T hT X9
  obtain ⟨v', st₀, t, T', L, h0, X', hLo, e1, e2, ⟨⟨hv, a, ha, hp, hd⟩, hz, hk⟩, st⟩ := hr T hT X9
  cases hv
  rw [h0] at hz hk
  have hlast : (X ++ [c0])[X.length]? = some c0 := by simp
  have hFc : ∀ q, va_A [c0] H.size q → A q := by
    intro q h
    rcases h with ⟨k, e9, h⟩ | h
    · have : k = 0 := by
        have := (List.getElem?_eq_some_iff.mp h).1
        simp at this
        exact this
      subst this
      cases h
      exact hD.2 X.length _ hlast
    · exact hA q (Nat.le_trans hS.1 h)
  have hX : ∀ (k : Nat) (z : Nat × va_E), X[k]? = some z → z.1 < H.size ∧ ¬ va_A [c0] H.size z.1 := by
    intro k z hk2
    have hk3 : (X ++ [c0])[k]? = some z := by rw [List.getElem?_append_left (List.getElem?_eq_some_iff.mp hk2).1]; exact hk2
    have hlt := (hP k z hk3).lt
    refine ⟨hlt, fun h => ?_⟩
    rcases h with ⟨k2, e9, h⟩ | h
    · have : k2 = 0 := by
        have := (List.getElem?_eq_some_iff.mp h).1
        simp at this
        exact this
      subst this
      have h9 : c0 = (z.1, e9) := Option.some.inj h
      have := hD.1 k X.length z c0 hk3 hlast (by rw [h9])
      have := (List.getElem?_eq_some_iff.mp hk2).1
      omega
    · omega
  have hXP : va_P D vwCl X T'.heap := fun k z hk2 => by
    obtain ⟨g1, g2⟩ := hX k z hk2
    have hk3 : (X ++ [c0])[k]? = some z := by rw [List.getElem?_append_left (List.getElem?_eq_some_iff.mp hk2).1]; exact hk2
    exact (hP k z hk3).kept (by rw [e1]; exact hk z.1 g1 g2)
  have hXD : va_D A X := ⟨dI_left hD.1, fun k z hk2 => hD.2 k z (by rw [List.getElem?_append_left (List.getElem?_eq_some_iff.mp hk2).1]; exact hk2)⟩
  obtain ⟨t2, a1, b1⟩ := kk a T'.heap (locs ++ L) ha (hXP.app (by rw [e1]; exact hp)) (va_D.app hXD (hd.weaken (fun k q _ h => hFc q.1 h)) (fun i j x y hx hy hxy => (hX i x hx).2 (by rw [hxy]; exact hd.2 j y hy)))
    ⟨Nat.le_trans hS.1 (by rw [e1]; exact hz), fun q h1 h2 => by rw [e1, hk q (Nat.lt_of_lt_of_le h1 hS.1) (fun z => h2 (hFc q z))]; exact hS.2.1 q h1 h2, fun q hq => by
      rcases List.mem_append.mp hq with h | h
      · exact hS.2.2 q h
      · exact hFc _ (hLo q h)⟩ T' rfl X'
  exact ⟨t2, st t2 a1, b1⟩
theorem k_preI {As : List Value} {X : va_W} {c0 : Nat × va_E} (hI : xI s) (hK : va_K D vwCl (tysU cI cF) s) (hP : va_P D vwCl (X ++ [c0]) H) : PreS s H (va_Pc As (pIN D cI cF c0 H.size)) As := by
  have hP0 : va_P D vwCl [c0] H := fun k z hk => by
    have : k = 0 := by
      have := (List.getElem?_eq_some_iff.mp hk).1
      simp at this
      exact this
    subst this
    exact hP X.length z (by rw [List.getElem?_append_right (Nat.le_refl _)]; simpa using hk)
  refine ⟨fun a U g mk z => ?_, fun U hU hW => ⟨rfl, by rw [hU], by rw [hU]; exact hP0, va_K.moved hW.alike hK, ⟨fun i j p q hp hq _ => ?_, fun _ _ _ => trivial⟩, hI.warm hW⟩⟩
  · obtain ⟨z0, z1, zP, zK, zD, zI⟩ := z
    exact ⟨z0, z1, zP, va_K.moved (u := U) (U := U.calling g mk a) (Vm.Alike.refl U.vm) zK, zD, zI.warm (U := U.calling g mk a) (State.WarmedH.refl U)⟩
  · have h1 := (List.getElem?_eq_some_iff.mp hp).1
    have h2 := (List.getElem?_eq_some_iff.mp hq).1
    simp at h1 h2
    omega
end KI
theorem k_cell {D : va_G} {cl : List vw_C} {X Y : va_W} {c1 c2 : Nat × va_E} {H : Heap} (h : va_at D cl c1 H → va_at D cl c2 H) (hP : va_P D cl (X ++ ([c1] ++ Y)) H) : va_P D cl (X ++ ([c2] ++ Y)) H := by
  intro k z hk
  rcases Nat.lt_or_ge k X.length with g | g
  · rw [List.getElem?_append_left g] at hk
    exact hP k z (by rw [List.getElem?_append_left g]; exact hk)
  · rw [List.getElem?_append_right g] at hk
    cases hd : k - X.length with
    | zero =>
      rw [hd] at hk
      cases hk
      exact h (hP k c1 (by rw [List.getElem?_append_right g, hd]; rfl))
    | succ n =>
      rw [hd] at hk
      exact hP k z (by rw [List.getElem?_append_right g, hd]; exact hk)
theorem eX0 (a b : Nat → Nat) (cI cF : ClassId) (S : S_X0) (h : ∀ i, i < 3 → a i = b i) : wX0 a cI cF S = wX0 b cI cF S := by simp only [wX0, oX0, h 0 (by decide), h 1 (by decide), h 2 (by decide)]
theorem eX1 (a b : Nat → Nat) (cI cF : ClassId) (S : S_X1) (h : ∀ i, i < 2 → a i = b i) : wX1 a cI cF S = wX1 b cI cF S := by simp only [wX1, oX1, h 0 (by decide), h 1 (by decide)]
theorem eX4 (a b : Nat → Nat) (cI cF : ClassId) (S : S_X4) (h : ∀ i, i < 4 → a i = b i) : wX4 a cI cF S = wX4 b cI cF S := by simp only [wX4, oX4, h 0 (by decide), h 1 (by decide), h 2 (by decide), h 3 (by decide)]
theorem eX2 (a b : Nat → Nat) (cI cF : ClassId) (S : S_X2) (h : ∀ i, i < 7 → a i = b i) : wX2 a cI cF S = wX2 b cI cF S := by
  unfold wX2
  rw [eX0 (fun i => a (i + 1)) (fun i => b (i + 1)) cI cF _ (fun i hi => h (i + 1) (by omega)), eX1 (fun i => a (i + 4)) (fun i => b (i + 4)) cI cF _ (fun i hi => h (i + 4) (by omega))]
  simp only [oX2, h 0 (by decide), h 1 (by decide), h 4 (by decide), h 6 (by decide)]
theorem eX3 (a b : Nat → Nat) (cI cF : ClassId) (S : S_X3) (h : ∀ i, a i = b i) : wX3 a cI cF S = wX3 b cI cF S := by rw [show a = b from funext h]
theorem k_swP {D : va_G} {cl : List vw_C} {A B C : va_W} {H : Heap} (h : va_P D cl ((A ++ B) ++ C) H) : va_P D cl ((A ++ C) ++ B) H := fun k z hk => by
  have hm : z ∈ (A ++ B) ++ C := by
    have := List.mem_of_getElem? hk
    simp only [List.mem_append] at this ⊢
    rcases this with (h | h) | h
    · exact Or.inl (Or.inl h)
    · exact Or.inr h
    · exact Or.inl (Or.inr h)
  obtain ⟨i, hi⟩ := List.getElem?_of_mem hm
  exact h i z hi
theorem k_swD {A0 : Nat → Prop} {A B C : va_W} (h : va_D A0 ((A ++ B) ++ C)) : va_D A0 ((A ++ C) ++ B) := by
  refine ⟨dI_app (dI_app (dI_left (dI_left h.1)) (dI_right h.1) (fun y hy z hz => dI_dis h.1 (List.mem_append_left _ hy) hz)) (dI_right (dI_left h.1)) (fun y hy z hz => ?_), fun k z hk => ?_⟩
  · rcases List.mem_append.mp hy with hy | hy
    · exact dI_dis (dI_left h.1) hy hz
    · exact (dI_dis h.1 (List.mem_append_right _ hz) hy).symm
  · have hm : z ∈ (A ++ B) ++ C := by
      have := List.mem_of_getElem? hk
      simp only [List.mem_append] at this ⊢
      rcases this with (h | h) | h
      · exact Or.inl (Or.inl h)
      · exact Or.inr h
      · exact Or.inl (Or.inr h)
    obtain ⟨i, hi⟩ := List.getElem?_of_mem hm
    exact h.2 i z hi
abbrev i_X0 : S_X0 := ((fun _ => 0), (fun _ => 0))
set_option maxHeartbeats 8000000 in
set_option maxRecDepth 100000 in
theorem c_X0_init (l : Launch) (dC : Nat → ClassId) (dI : Nat → Nat → Nat) (cI cF : ClassId) (h0 : Nat) : ∀ sz : Nat, Met l yX0_init wsX0_init ({ frames := 1, cells := 2, slots := 328, locals := 12 } : Room) (va_Pc [.ref h0] (pIN (dC, dI) cI cF (h0, .inr (0, [.null, .null])) sz)) (qIN (dC, dI) (fun a => wX0 a cI cF i_X0) (h0, .inr (0, [.null, .null])) sz) 2 328 (va_A [(h0, .inr (0, [.null, .null]))] sz) := by
  intro sz
  refine Met.ofW (cc := cX0_init) (maxL := 1) (ret := none) (by decide) rfl ?_
  intro p e s m args below meth c s₁ B hml hv
  obtain ⟨hargs, hsz, hP, hK, hD0, hI⟩ := hv
  subst hargs
  have hx := B.exec
  have hb := B.bytes
  have hr := B.returns
  have hts := atoms_spec (ws := wsX0_init) B.pre
  have hown : s.vm.findClass RX0 = some m.cls := findClass_of_methodNamed B.named
  have hlocks := B.notSynchronized
  have hin : meth.name = "<init>" := (name_of_methodNamed B.named B.method).1
  have hRc : (headSpec wsX0_init ({ frames := 1, cells := 2, slots := 328, locals := 12 } : Room)).room.cells = 2 := rfl
  have hRs : (headSpec wsX0_init ({ frames := 1, cells := 2, slots := 328, locals := 12 } : Room)).room.slots = 328 := rfl
  have w15 := hts (.fieldLink RX0 15 "DrawnSlivers$Cans" "sizes" "[I") (List.mem_of_getElem? (i := 6) rfl)
  have w3 := hts (.methodLink RX0 3 objectInit) (List.mem_of_getElem? (i := 1) rfl)
  have w9 := hts (.fieldLink RX0 9 "DrawnSlivers$Cans" "weights" "[I") (List.mem_of_getElem? (i := 5) rfl)
  have war := hts (.arrayClass .int) (List.mem_of_getElem? (i := 4) rfl)
  have woc := hts (.code objectInit ⟨#[0xb1]⟩ 1 none) (List.mem_of_getElem? (i := 3) rfl)
  have woi := hts (.instanceMethod objectInit) (List.mem_of_getElem? (i := 2) rfl)
  have huX0 : ∀ w ∈ u_ws RX0 TX0 2, w.before _ s = true := fun w h => hts w (List.mem_cons_of_mem _ (List.mem_append_right _ (h)))
  subst hsz
  have hD := hD0.self (sz := s.heap.size)
  generalize hAe : va_A [(h0, .inr (0, [.null, .null]))] s.heap.size = A at hD ⊢
  have hA : ∀ q : Nat, s.heap.size ≤ q → A q := fun q h => by rw [← hAe]; exact Or.inr h
  have hS : va_S A s.heap s.heap [] := va_S.rf
  have hl := lv_entry ([.ref h0]) (n := 1) (Nat.le_of_ble_eq_true rfl)
  rw [lg_entry_eq]
  generalize (lg_sl ([.ref h0]) ++ List.replicate (1 - (lg_sl ([.ref h0])).length) Slot.unset).toArray = ls at hl ⊢
  have hl : lv_has ls 1 [(0, .ref h0)] := hl
  refine lv_aload_n hx hb dX0_init_0 rfl (lv_at hl 0 rfl) ?_
  refine W.objInit hx hb hown w3 woi woc rfl (by rw [hml]; exact hl.1) rfl dX0_init_1 (Nat.le_of_ble_eq_true rfl) (Nat.le_of_ble_eq_true rfl) ?_
  refine W.eq (g2 := F0 m 4 ls []) rfl ?_
  refine lv_aload_n hx hb dX0_init_4 rfl (lv_at hl 0 rfl) ?_
  refine lv_sipush (v := (320 : Int32)) hx hb dX0_init_5 (by decide) ?_
  refine k_newi hx hb war hK hP hD hS hA 320 (by decide) (by decide +kernel) (by decide) (by omega) (by omega) dX0_init_8 (fun q1 H hP hD hS => ?_)
  have hP : va_P (dC, dI) vwCl ([(h0, .inr (0, [.null, .null]))] ++ [(q1, .inl (cI, 320, .inl (fun _ => 0)))]) H := hP
  have hD : va_D A ([(h0, .inr (0, [.null, .null]))] ++ [(q1, .inl (cI, 320, .inl (fun _ => 0)))]) := hD
  refine va_putF (D := (dC, dI)) (ci := 0) (v := .ref q1) (ty := (.array .int)) (C := RX0) (T := TX0) (N := 2) hx hb huX0 (fun _ h9 => h9) tyX0 tyX0_ok nmX0 hown hK hP hD hS 0 rfl rfl 0 (by decide) w9 (fun _ h9 => h9) rfl hin rfl (by decide +kernel) rfl rfl (Nat.le_of_ble_eq_true rfl) dX0_init_10 (fun H locs hP hD hS => ?_)
  have hP : va_P (dC, dI) vwCl ([(h0, .inr (0, [.ref q1, .null]))] ++ [(q1, .inl (cI, 320, .inl (fun _ => 0)))]) H := hP
  have hD : va_D A ([(h0, .inr (0, [.ref q1, .null]))] ++ [(q1, .inl (cI, 320, .inl (fun _ => 0)))]) := hD
  refine lv_aload_n hx hb dX0_init_13 rfl (lv_at hl 0 rfl) ?_
  refine lv_bipush (v := (8 : Int32)) hx hb dX0_init_14 (by decide) ?_
  refine k_newi hx hb war hK hP hD hS hA 8 (by decide) (by decide +kernel) (by decide) (by omega) (by omega) dX0_init_16 (fun q2 H hP hD hS => ?_)
  have hP : va_P (dC, dI) vwCl ([(h0, .inr (0, [.ref q1, .null]))] ++ [(q1, .inl (cI, 320, .inl (fun _ => 0)))] ++ [(q2, .inl (cI, 8, .inl (fun _ => 0)))]) H := hP
  have hD : va_D A ([(h0, .inr (0, [.ref q1, .null]))] ++ [(q1, .inl (cI, 320, .inl (fun _ => 0)))] ++ [(q2, .inl (cI, 8, .inl (fun _ => 0)))]) := hD
  refine va_putF (D := (dC, dI)) (ci := 0) (v := .ref q2) (ty := (.array .int)) (C := RX0) (T := TX0) (N := 2) hx hb huX0 (fun _ h9 => h9) tyX0 tyX0_ok nmX0 hown hK hP hD hS 0 rfl rfl 1 (by decide) w15 (fun _ h9 => h9) rfl hin rfl (by decide +kernel) rfl rfl (Nat.le_of_ble_eq_true rfl) dX0_init_18 (fun H locs hP hD hS => ?_)
  have hP : va_P (dC, dI) vwCl ([(h0, .inr (0, [.ref q1, .ref q2]))] ++ [(q1, .inl (cI, 320, .inl (fun _ => 0)))] ++ [(q2, .inl (cI, 8, .inl (fun _ => 0)))]) H := hP
  have hD : va_D A ([(h0, .inr (0, [.ref q1, .ref q2]))] ++ [(q1, .inl (cI, 320, .inl (fun _ => 0)))] ++ [(q2, .inl (cI, 8, .inl (fun _ => 0)))]) := hD
  obtain ⟨af, haf⟩ : ∃ af : Nat → Nat, af = fun i => if i < 1 then h0 else if i < 2 then q1 else q2 := ⟨_, rfl⟩
  have hP : va_P (dC, dI) vwCl (wX0 af cI cF i_X0) H := by subst haf; exact hP
  have hD : va_D A (wX0 af cI cF i_X0) := by subst haf; exact hD
  refine W.widen (k := 2) (n := 328) (by omega) (by omega) ?_
  exact W.vret hx hb hr (fun t ht hW => ⟨⟨rfl, af, by rw [haf]; rfl, by rw [ht]; exact hP, by rw [hAe]; exact hD⟩, by rw [hAe]; exact hS.F ht⟩) hS.2.2 dX0_init_21

abbrev i_X1 : S_X1 := ((fun _ => 0), (0 : Int32))
set_option maxHeartbeats 8000000 in
set_option maxRecDepth 100000 in
theorem c_X1_init (l : Launch) (dC : Nat → ClassId) (dI : Nat → Nat → Nat) (cI cF : ClassId) (h0 : Nat) : ∀ sz : Nat, Met l yX1_init wsX1_init ({ frames := 1, cells := 1, slots := 7, locals := 12 } : Room) (va_Pc [.ref h0] (pIN (dC, dI) cI cF (h0, .inr (1, [.null, .int 0])) sz)) (qIN (dC, dI) (fun a => wX1 a cI cF i_X1) (h0, .inr (1, [.null, .int 0])) sz) 1 7 (va_A [(h0, .inr (1, [.null, .int 0]))] sz) := by
  intro sz
  refine Met.ofW (cc := cX1_init) (maxL := 1) (ret := none) (by decide) rfl ?_
  intro p e s m args below meth c s₁ B hml hv
  obtain ⟨hargs, hsz, hP, hK, hD0, hI⟩ := hv
  subst hargs
  have hx := B.exec
  have hb := B.bytes
  have hr := B.returns
  have hts := atoms_spec (ws := wsX1_init) B.pre
  have hown : s.vm.findClass RX1 = some m.cls := findClass_of_methodNamed B.named
  have hlocks := B.notSynchronized
  have hin : meth.name = "<init>" := (name_of_methodNamed B.named B.method).1
  have hRc : (headSpec wsX1_init ({ frames := 1, cells := 1, slots := 7, locals := 12 } : Room)).room.cells = 1 := rfl
  have hRs : (headSpec wsX1_init ({ frames := 1, cells := 1, slots := 7, locals := 12 } : Room)).room.slots = 7 := rfl
  have w15 := hts (.fieldLink RX1 15 "DrawnSlivers$Feeler" "remembered" "I") (List.mem_of_getElem? (i := 6) rfl)
  have w3 := hts (.methodLink RX1 3 objectInit) (List.mem_of_getElem? (i := 1) rfl)
  have w9 := hts (.fieldLink RX1 9 "DrawnSlivers$Feeler" "feeds" "[I") (List.mem_of_getElem? (i := 5) rfl)
  have war := hts (.arrayClass .int) (List.mem_of_getElem? (i := 4) rfl)
  have woc := hts (.code objectInit ⟨#[0xb1]⟩ 1 none) (List.mem_of_getElem? (i := 3) rfl)
  have woi := hts (.instanceMethod objectInit) (List.mem_of_getElem? (i := 2) rfl)
  have huX1 : ∀ w ∈ u_ws RX1 TX1 2, w.before _ s = true := fun w h => hts w (List.mem_cons_of_mem _ (List.mem_append_right _ (h)))
  subst hsz
  have hD := hD0.self (sz := s.heap.size)
  generalize hAe : va_A [(h0, .inr (1, [.null, .int 0]))] s.heap.size = A at hD ⊢
  have hA : ∀ q : Nat, s.heap.size ≤ q → A q := fun q h => by rw [← hAe]; exact Or.inr h
  have hS : va_S A s.heap s.heap [] := va_S.rf
  have hl := lv_entry ([.ref h0]) (n := 1) (Nat.le_of_ble_eq_true rfl)
  rw [lg_entry_eq]
  generalize (lg_sl ([.ref h0]) ++ List.replicate (1 - (lg_sl ([.ref h0])).length) Slot.unset).toArray = ls at hl ⊢
  have hl : lv_has ls 1 [(0, .ref h0)] := hl
  refine lv_aload_n hx hb dX1_init_0 rfl (lv_at hl 0 rfl) ?_
  refine W.objInit hx hb hown w3 woi woc rfl (by rw [hml]; exact hl.1) rfl dX1_init_1 (Nat.le_of_ble_eq_true rfl) (Nat.le_of_ble_eq_true rfl) ?_
  refine W.eq (g2 := F0 m 4 ls []) rfl ?_
  refine lv_aload_n hx hb dX1_init_4 rfl (lv_at hl 0 rfl) ?_
  refine lv_bipush (v := (7 : Int32)) hx hb dX1_init_5 (by decide) ?_
  refine k_newi hx hb war hK hP hD hS hA 7 (by decide) (by decide +kernel) (by decide) (by omega) (by omega) dX1_init_7 (fun q1 H hP hD hS => ?_)
  have hP : va_P (dC, dI) vwCl ([(h0, .inr (1, [.null, .int 0]))] ++ [(q1, .inl (cI, 7, .inl (fun _ => 0)))]) H := hP
  have hD : va_D A ([(h0, .inr (1, [.null, .int 0]))] ++ [(q1, .inl (cI, 7, .inl (fun _ => 0)))]) := hD
  refine va_putF (D := (dC, dI)) (ci := 1) (v := .ref q1) (ty := (.array .int)) (C := RX1) (T := TX1) (N := 2) hx hb huX1 (fun _ h9 => h9) tyX1 tyX1_ok nmX1 hown hK hP hD hS 0 rfl rfl 0 (by decide) w9 (fun _ h9 => h9) rfl hin rfl (by decide +kernel) rfl rfl (Nat.le_of_ble_eq_true rfl) dX1_init_9 (fun H locs hP hD hS => ?_)
  have hP : va_P (dC, dI) vwCl ([(h0, .inr (1, [.ref q1, .int 0]))] ++ [(q1, .inl (cI, 7, .inl (fun _ => 0)))]) H := hP
  have hD : va_D A ([(h0, .inr (1, [.ref q1, .int 0]))] ++ [(q1, .inl (cI, 7, .inl (fun _ => 0)))]) := hD
  refine lv_aload_n hx hb dX1_init_12 rfl (lv_at hl 0 rfl) ?_
  refine lv_iconst (v := (0 : Int32)) hx hb dX1_init_13 (by decide) ?_
  refine va_put (D := (dC, dI)) (ci := 1) (v := .int (0 : Int32)) (ty := .int) (C := RX1) (T := TX1) (N := 2) hx hb huX1 (fun _ h9 => h9) tyX1 tyX1_ok nmX1 hown hK hP hD hS 0 rfl rfl 1 (by decide) w15 (fun _ h9 => h9) rfl (by decide +kernel) rfl rfl (Nat.le_of_ble_eq_true rfl) dX1_init_14 (fun H locs hP hD hS => ?_)
  have hP : va_P (dC, dI) vwCl ([(h0, .inr (1, [.ref q1, .int (0 : Int32)]))] ++ [(q1, .inl (cI, 7, .inl (fun _ => 0)))]) H := hP
  have hD : va_D A ([(h0, .inr (1, [.ref q1, .int (0 : Int32)]))] ++ [(q1, .inl (cI, 7, .inl (fun _ => 0)))]) := hD
  obtain ⟨af, haf⟩ : ∃ af : Nat → Nat, af = fun i => if i < 1 then h0 else q1 := ⟨_, rfl⟩
  have hP : va_P (dC, dI) vwCl (wX1 af cI cF i_X1) H := by subst haf; exact hP
  have hD : va_D A (wX1 af cI cF i_X1) := by subst haf; exact hD
  refine W.widen (k := 1) (n := 7) (by omega) (by omega) ?_
  exact W.vret hx hb hr (fun t ht hW => ⟨⟨rfl, af, by rw [haf]; rfl, by rw [ht]; exact hP, by rw [hAe]; exact hD⟩, by rw [hAe]; exact hS.F ht⟩) hS.2.2 dX1_init_17

abbrev i_X2 : S_X2 := (i_X0, i_X1, (upd (upd (upd (upd (upd (fun _ => 0) (0 : Int32).toNatClampNeg (0 : Int32)) (1 : Int32).toNatClampNeg (4 : Int32)) (2 : Int32).toNatClampNeg (20 : Int32)) (3 : Int32).toNatClampNeg (1 : Int32)) (4 : Int32).toNatClampNeg (60 : Int32)), (0 : Int32), (7 : Int32), (0 : Int32), (0 : Int32), (0 : Int32), (0 : Int32), (0 : Int32), (0 : Int32), (0 : Int32))
set_option maxHeartbeats 8000000 in
set_option maxRecDepth 100000 in
theorem c_X2_init (l : Launch) (dC : Nat → ClassId) (dI : Nat → Nat → Nat) (cI cF : ClassId) (h0 : Nat) : ∀ sz : Nat, Met l yX2_init wsX2_init ({ frames := 2, cells := 6, slots := 344, locals := 32 } : Room) (va_Pc [.ref h0] (pIN (dC, dI) cI cF (h0, .inr (2, [.null, .null, .null, .int 0, .int 0, .int 0, .int 0, .int 0, .int 0, .int 0, .int 0, .int 0])) sz)) (qIN (dC, dI) (fun a => wX2 a cI cF i_X2) (h0, .inr (2, [.null, .null, .null, .int 0, .int 0, .int 0, .int 0, .int 0, .int 0, .int 0, .int 0, .int 0])) sz) 6 344 (va_A [(h0, .inr (2, [.null, .null, .null, .int 0, .int 0, .int 0, .int 0, .int 0, .int 0, .int 0, .int 0, .int 0]))] sz) := by
  intro sz
  refine Met.ofW (cc := cX2_init) (maxL := 1) (ret := none) (by decide) rfl ?_
  intro p e s m args below meth c s₁ B hml hv
  obtain ⟨hargs, hsz, hP, hK, hD0, hI⟩ := hv
  subst hargs
  have hx := B.exec
  have hb := B.bytes
  have hr := B.returns
  have hts := atoms_spec (ws := wsX2_init) B.pre
  have hown : s.vm.findClass RX2 = some m.cls := findClass_of_methodNamed B.named
  have hlocks := B.notSynchronized
  have hin : meth.name = "<init>" := (name_of_methodNamed B.named B.method).1
  have hRc : (headSpec wsX2_init ({ frames := 2, cells := 6, slots := 344, locals := 32 } : Room)).room.cells = 6 := rfl
  have hRs : (headSpec wsX2_init ({ frames := 2, cells := 6, slots := 344, locals := 32 } : Room)).room.slots = 344 := rfl
  have w12 := hts (.fieldLink RX2 12 "DrawnSlivers$Frame" "cans" "LDrawnSlivers$Cans;") (List.mem_of_getElem? (i := 7) rfl)
  have w18 := hts (.classLink RX2 18 RX1) (List.mem_of_getElem? (i := 8) rfl)
  have w21 := hts (.fieldLink RX2 21 "DrawnSlivers$Frame" "feeler" "LDrawnSlivers$Feeler;") (List.mem_of_getElem? (i := 11) rfl)
  have w25 := hts (.fieldLink RX2 25 "DrawnSlivers$Frame" "settings" "[I") (List.mem_of_getElem? (i := 13) rfl)
  have w29 := hts (.fieldLink RX2 29 "DrawnSlivers$Frame" "fed" "I") (List.mem_of_getElem? (i := 14) rfl)
  have w3 := hts (.methodLink RX2 3 objectInit) (List.mem_of_getElem? (i := 1) rfl)
  have w33 := hts (.fieldLink RX2 33 "DrawnSlivers$Frame" "taker" "I") (List.mem_of_getElem? (i := 15) rfl)
  have w36 := hts (.fieldLink RX2 36 "DrawnSlivers$Frame" "stopped" "Z") (List.mem_of_getElem? (i := 16) rfl)
  have w40 := hts (.fieldLink RX2 40 "DrawnSlivers$Frame" "steps" "I") (List.mem_of_getElem? (i := 17) rfl)
  have w43 := hts (.fieldLink RX2 43 "DrawnSlivers$Frame" "latestDraft" "I") (List.mem_of_getElem? (i := 18) rfl)
  have w46 := hts (.fieldLink RX2 46 "DrawnSlivers$Frame" "lapped" "I") (List.mem_of_getElem? (i := 19) rfl)
  have w49 := hts (.fieldLink RX2 49 "DrawnSlivers$Frame" "waste" "I") (List.mem_of_getElem? (i := 20) rfl)
  have w52 := hts (.fieldLink RX2 52 "DrawnSlivers$Frame" "filled" "I") (List.mem_of_getElem? (i := 21) rfl)
  have w55 := hts (.fieldLink RX2 55 "DrawnSlivers$Frame" "cameOut" "I") (List.mem_of_getElem? (i := 22) rfl)
  have w9 := hts (.classLink RX2 9 RX0) (List.mem_of_getElem? (i := 4) rfl)
  have war := hts (.arrayClass .int) (List.mem_of_getElem? (i := 12) rfl)
  have wiX0 := hts (.instantiable RX0 2) (List.mem_of_getElem? (i := 5) rfl)
  have wiX1 := hts (.instantiable RX1 2) (List.mem_of_getElem? (i := 9) rfl)
  have wimX0 := hts (.instanceMethod yX0_init) (List.mem_of_getElem? (i := 23) rfl)
  have wimX1 := hts (.instanceMethod yX1_init) (List.mem_of_getElem? (i := 28) rfl)
  have woc := hts (.code objectInit ⟨#[0xb1]⟩ 1 none) (List.mem_of_getElem? (i := 3) rfl)
  have woi := hts (.instanceMethod objectInit) (List.mem_of_getElem? (i := 2) rfl)
  have wzX0 := hts (.initialized RX0) (List.mem_of_getElem? (i := 6) rfl)
  have wzX1 := hts (.initialized RX1) (List.mem_of_getElem? (i := 10) rfl)
  have huX0 : ∀ w ∈ u_ws RX0 TX0 2, w.before _ s = true := fun w h => hts w (List.mem_cons_of_mem _ (List.mem_append_left _ (List.mem_append_left _ (List.mem_append_right _ (h)))))
  have huX1 : ∀ w ∈ u_ws RX1 TX1 2, w.before _ s = true := fun w h => hts w (List.mem_cons_of_mem _ (List.mem_append_right _ (h)))
  have huX2 : ∀ w ∈ u_ws RX2 TX2 12, w.before _ s = true := fun w h => hts w (List.mem_cons_of_mem _ (List.mem_append_left _ (List.mem_append_right _ (h))))
  subst hsz
  have hD := hD0.self (sz := s.heap.size)
  generalize hAe : va_A [(h0, .inr (2, [.null, .null, .null, .int 0, .int 0, .int 0, .int 0, .int 0, .int 0, .int 0, .int 0, .int 0]))] s.heap.size = A at hD ⊢
  have hA : ∀ q : Nat, s.heap.size ≤ q → A q := fun q h => by rw [← hAe]; exact Or.inr h
  have hS : va_S A s.heap s.heap [] := va_S.rf
  have hl := lv_entry ([.ref h0]) (n := 1) (Nat.le_of_ble_eq_true rfl)
  rw [lg_entry_eq]
  generalize (lg_sl ([.ref h0]) ++ List.replicate (1 - (lg_sl ([.ref h0])).length) Slot.unset).toArray = ls at hl ⊢
  have hl : lv_has ls 1 [(0, .ref h0)] := hl
  refine lv_aload_n hx hb dX2_init_0 rfl (lv_at hl 0 rfl) ?_
  refine W.objInit hx hb hown w3 woi woc rfl (by rw [hml]; exact hl.1) rfl dX2_init_1 (Nat.le_of_ble_eq_true rfl) (Nat.le_of_ble_eq_true rfl) ?_
  refine W.eq (g2 := F0 m 4 ls []) rfl ?_
  refine lv_aload_n hx hb dX2_init_4 rfl (lv_at hl 0 rfl) ?_
  refine va_new (ci := 0) (fs := [.null, .null]) (C := RX0) (T := TX0) (N := 2) hx hb huX0 (fun _ h9 => h9) tyX0 tyX0_ok hown w9 wiX0 wzX0 hK hP hD hS hA rfl (fun j hj => by rcases (show j = 0 ∨ j = 1 by omega) with rfl | rfl <;> rfl) (by omega) (by omega) dX2_init_5 (fun q1 H hP hD hS => ?_)
  have hP : va_P (dC, dI) vwCl ([(h0, .inr (2, [.null, .null, .null, .int 0, .int 0, .int 0, .int 0, .int 0, .int 0, .int 0, .int 0, .int 0]))] ++ [(q1, .inr (0, [.null, .null]))]) H := hP
  have hD : va_D A ([(h0, .inr (2, [.null, .null, .null, .int 0, .int 0, .int 0, .int 0, .int 0, .int 0, .int 0, .int 0, .int 0]))] ++ [(q1, .inr (0, [.null, .null]))]) := hD
  refine lv_dup hx hb dX2_init_8 rfl ?_
  refine k_in (X := [(h0, .inr (2, [.null, .null, .null, .int 0, .int 0, .int 0, .int 0, .int 0, .int 0, .int 0, .int 0, .int 0]))]) (W9 := fun a => wX0 a cI cF i_X0) (va_runIN (As := []) (rest := [.ref q1, .ref h0]) ⟨hx, hb, hml, hown, hts⟩ (c_X0_init l dC dI cI cF q1 H.size) (⟨va_cnB 0 hts gX2_init_X0_init_n11 rfl rfl rfl hI.1 wzX0 (by decide +kernel) ⟨Nat.le_of_ble_eq_true rfl, Nat.le_of_ble_eq_true rfl⟩, rfl, wimX0⟩) (k_preI hI hK hP) rfl rfl hl.1 rfl (lv_room (Nat.le_of_ble_eq_true rfl)) dX2_init_9 ⟨by omega, by omega⟩) hP hD hS hA (fun a2 H locs ha hP2 hD2 hS => ?_)
  clear hP hD
  subst ha
  have hP : va_P (dC, dI) vwCl ([(h0, .inr (2, [.null, .null, .null, .int 0, .int 0, .int 0, .int 0, .int 0, .int 0, .int 0, .int 0, .int 0]))] ++ wX0 a2 cI cF i_X0) H := hP2
  have hD : va_D A ([(h0, .inr (2, [.null, .null, .null, .int 0, .int 0, .int 0, .int 0, .int 0, .int 0, .int 0, .int 0, .int 0]))] ++ wX0 a2 cI cF i_X0) := hD2
  clear hP2 hD2
  refine va_putF (D := (dC, dI)) (ci := 2) (v := .ref (a2 0)) (ty := (.object "DrawnSlivers$Cans")) (C := RX2) (T := TX2) (N := 12) hx hb huX2 (fun _ h9 => h9) tyX2 tyX2_ok nmX2 hown hK hP hD hS 0 rfl rfl 0 (by decide) w12 (fun _ h9 => h9) rfl hin rfl (by decide +kernel) rfl rfl (Nat.le_of_ble_eq_true rfl) dX2_init_12 (fun H locs hP hD hS => ?_)
  have hP : va_P (dC, dI) vwCl ([(h0, .inr (2, [.ref (a2 0), .null, .null, .int 0, .int 0, .int 0, .int 0, .int 0, .int 0, .int 0, .int 0, .int 0]))] ++ wX0 a2 cI cF i_X0) H := hP
  have hD : va_D A ([(h0, .inr (2, [.ref (a2 0), .null, .null, .int 0, .int 0, .int 0, .int 0, .int 0, .int 0, .int 0, .int 0, .int 0]))] ++ wX0 a2 cI cF i_X0) := hD
  refine lv_aload_n hx hb dX2_init_15 rfl (lv_at hl 0 rfl) ?_
  refine va_new (ci := 1) (fs := [.null, .int 0]) (C := RX1) (T := TX1) (N := 2) hx hb huX1 (fun _ h9 => h9) tyX1 tyX1_ok hown w18 wiX1 wzX1 hK hP hD hS hA rfl (fun j hj => by rcases (show j = 0 ∨ j = 1 by omega) with rfl | rfl <;> rfl) (by omega) (by omega) dX2_init_16 (fun q3 H hP hD hS => ?_)
  have hP : va_P (dC, dI) vwCl ([(h0, .inr (2, [.ref (a2 0), .null, .null, .int 0, .int 0, .int 0, .int 0, .int 0, .int 0, .int 0, .int 0, .int 0]))] ++ wX0 a2 cI cF i_X0 ++ [(q3, .inr (1, [.null, .int 0]))]) H := hP
  have hD : va_D A ([(h0, .inr (2, [.ref (a2 0), .null, .null, .int 0, .int 0, .int 0, .int 0, .int 0, .int 0, .int 0, .int 0, .int 0]))] ++ wX0 a2 cI cF i_X0 ++ [(q3, .inr (1, [.null, .int 0]))]) := hD
  refine lv_dup hx hb dX2_init_19 rfl ?_
  refine k_in (X := [(h0, .inr (2, [.ref (a2 0), .null, .null, .int 0, .int 0, .int 0, .int 0, .int 0, .int 0, .int 0, .int 0, .int 0]))] ++ wX0 a2 cI cF i_X0) (W9 := fun a => wX1 a cI cF i_X1) (va_runIN (As := []) (rest := [.ref q3, .ref h0]) ⟨hx, hb, hml, hown, hts⟩ (c_X1_init l dC dI cI cF q3 H.size) (⟨va_cnB 0 hts gX2_init_X1_init_n20 rfl rfl rfl hI.2.1 wzX1 (by decide +kernel) ⟨Nat.le_of_ble_eq_true rfl, Nat.le_of_ble_eq_true rfl⟩, rfl, wimX1⟩) (k_preI hI hK hP) rfl rfl hl.1 rfl (lv_room (Nat.le_of_ble_eq_true rfl)) dX2_init_20 ⟨by omega, by omega⟩) hP hD hS hA (fun a4 H locs ha hP2 hD2 hS => ?_)
  clear hP hD
  subst ha
  have hP : va_P (dC, dI) vwCl ([(h0, .inr (2, [.ref (a2 0), .null, .null, .int 0, .int 0, .int 0, .int 0, .int 0, .int 0, .int 0, .int 0, .int 0]))] ++ wX0 a2 cI cF i_X0 ++ wX1 a4 cI cF i_X1) H := hP2
  have hD : va_D A ([(h0, .inr (2, [.ref (a2 0), .null, .null, .int 0, .int 0, .int 0, .int 0, .int 0, .int 0, .int 0, .int 0, .int 0]))] ++ wX0 a2 cI cF i_X0 ++ wX1 a4 cI cF i_X1) := hD2
  clear hP2 hD2
  refine va_putF (D := (dC, dI)) (ci := 2) (v := .ref (a4 0)) (ty := (.object "DrawnSlivers$Feeler")) (C := RX2) (T := TX2) (N := 12) hx hb huX2 (fun _ h9 => h9) tyX2 tyX2_ok nmX2 hown hK hP hD hS 0 rfl rfl 1 (by decide) w21 (fun _ h9 => h9) rfl hin rfl (by decide +kernel) rfl rfl (Nat.le_of_ble_eq_true rfl) dX2_init_23 (fun H locs hP hD hS => ?_)
  have hP : va_P (dC, dI) vwCl ([(h0, .inr (2, [.ref (a2 0), .ref (a4 0), .null, .int 0, .int 0, .int 0, .int 0, .int 0, .int 0, .int 0, .int 0, .int 0]))] ++ wX0 a2 cI cF i_X0 ++ wX1 a4 cI cF i_X1) H := hP
  have hD : va_D A ([(h0, .inr (2, [.ref (a2 0), .ref (a4 0), .null, .int 0, .int 0, .int 0, .int 0, .int 0, .int 0, .int 0, .int 0, .int 0]))] ++ wX0 a2 cI cF i_X0 ++ wX1 a4 cI cF i_X1) := hD
  refine lv_aload_n hx hb dX2_init_26 rfl (lv_at hl 0 rfl) ?_
  refine lv_iconst (v := (5 : Int32)) hx hb dX2_init_27 (by decide) ?_
  refine k_newi hx hb war hK hP hD hS hA 5 (by decide) (by decide +kernel) (by decide) (by omega) (by omega) dX2_init_28 (fun q5 H hP hD hS => ?_)
  have hP : va_P (dC, dI) vwCl ([(h0, .inr (2, [.ref (a2 0), .ref (a4 0), .null, .int 0, .int 0, .int 0, .int 0, .int 0, .int 0, .int 0, .int 0, .int 0]))] ++ wX0 a2 cI cF i_X0 ++ wX1 a4 cI cF i_X1 ++ [(q5, .inl (cI, 5, .inl (fun _ => 0)))]) H := hP
  have hD : va_D A ([(h0, .inr (2, [.ref (a2 0), .ref (a4 0), .null, .int 0, .int 0, .int 0, .int 0, .int 0, .int 0, .int 0, .int 0, .int 0]))] ++ wX0 a2 cI cF i_X0 ++ wX1 a4 cI cF i_X1 ++ [(q5, .inl (cI, 5, .inl (fun _ => 0)))]) := hD
  refine lv_dup hx hb dX2_init_30 rfl ?_
  refine lv_iconst (v := (0 : Int32)) hx hb dX2_init_31 (by decide) ?_
  refine lv_iconst (v := (0 : Int32)) hx hb dX2_init_32 (by decide) ?_
  refine va_iast hx hb hK hP hD hS 6 0 rfl rfl (by unfold vp_in; decide) dX2_init_33 (fun H locs hP hD hS => ?_)
  have hP : va_P (dC, dI) vwCl ([(h0, .inr (2, [.ref (a2 0), .ref (a4 0), .null, .int 0, .int 0, .int 0, .int 0, .int 0, .int 0, .int 0, .int 0, .int 0]))] ++ wX0 a2 cI cF i_X0 ++ wX1 a4 cI cF i_X1 ++ [(q5, .inl (cI, 5, .inl (upd (fun _ => 0) (0 : Int32).toNatClampNeg (0 : Int32))))]) H := hP
  have hD : va_D A ([(h0, .inr (2, [.ref (a2 0), .ref (a4 0), .null, .int 0, .int 0, .int 0, .int 0, .int 0, .int 0, .int 0, .int 0, .int 0]))] ++ wX0 a2 cI cF i_X0 ++ wX1 a4 cI cF i_X1 ++ [(q5, .inl (cI, 5, .inl (upd (fun _ => 0) (0 : Int32).toNatClampNeg (0 : Int32))))]) := hD
  refine lv_dup hx hb dX2_init_34 rfl ?_
  refine lv_iconst (v := (1 : Int32)) hx hb dX2_init_35 (by decide) ?_
  refine lv_iconst (v := (4 : Int32)) hx hb dX2_init_36 (by decide) ?_
  refine va_iast hx hb hK hP hD hS 6 0 rfl rfl (by unfold vp_in; decide) dX2_init_37 (fun H locs hP hD hS => ?_)
  have hP : va_P (dC, dI) vwCl ([(h0, .inr (2, [.ref (a2 0), .ref (a4 0), .null, .int 0, .int 0, .int 0, .int 0, .int 0, .int 0, .int 0, .int 0, .int 0]))] ++ wX0 a2 cI cF i_X0 ++ wX1 a4 cI cF i_X1 ++ [(q5, .inl (cI, 5, .inl (upd (upd (fun _ => 0) (0 : Int32).toNatClampNeg (0 : Int32)) (1 : Int32).toNatClampNeg (4 : Int32))))]) H := hP
  have hD : va_D A ([(h0, .inr (2, [.ref (a2 0), .ref (a4 0), .null, .int 0, .int 0, .int 0, .int 0, .int 0, .int 0, .int 0, .int 0, .int 0]))] ++ wX0 a2 cI cF i_X0 ++ wX1 a4 cI cF i_X1 ++ [(q5, .inl (cI, 5, .inl (upd (upd (fun _ => 0) (0 : Int32).toNatClampNeg (0 : Int32)) (1 : Int32).toNatClampNeg (4 : Int32))))]) := hD
  refine lv_dup hx hb dX2_init_38 rfl ?_
  refine lv_iconst (v := (2 : Int32)) hx hb dX2_init_39 (by decide) ?_
  refine lv_bipush (v := (20 : Int32)) hx hb dX2_init_40 (by decide) ?_
  refine va_iast hx hb hK hP hD hS 6 0 rfl rfl (by unfold vp_in; decide) dX2_init_42 (fun H locs hP hD hS => ?_)
  have hP : va_P (dC, dI) vwCl ([(h0, .inr (2, [.ref (a2 0), .ref (a4 0), .null, .int 0, .int 0, .int 0, .int 0, .int 0, .int 0, .int 0, .int 0, .int 0]))] ++ wX0 a2 cI cF i_X0 ++ wX1 a4 cI cF i_X1 ++ [(q5, .inl (cI, 5, .inl (upd (upd (upd (fun _ => 0) (0 : Int32).toNatClampNeg (0 : Int32)) (1 : Int32).toNatClampNeg (4 : Int32)) (2 : Int32).toNatClampNeg (20 : Int32))))]) H := hP
  have hD : va_D A ([(h0, .inr (2, [.ref (a2 0), .ref (a4 0), .null, .int 0, .int 0, .int 0, .int 0, .int 0, .int 0, .int 0, .int 0, .int 0]))] ++ wX0 a2 cI cF i_X0 ++ wX1 a4 cI cF i_X1 ++ [(q5, .inl (cI, 5, .inl (upd (upd (upd (fun _ => 0) (0 : Int32).toNatClampNeg (0 : Int32)) (1 : Int32).toNatClampNeg (4 : Int32)) (2 : Int32).toNatClampNeg (20 : Int32))))]) := hD
  refine lv_dup hx hb dX2_init_43 rfl ?_
  refine lv_iconst (v := (3 : Int32)) hx hb dX2_init_44 (by decide) ?_
  refine lv_iconst (v := (1 : Int32)) hx hb dX2_init_45 (by decide) ?_
  refine va_iast hx hb hK hP hD hS 6 0 rfl rfl (by unfold vp_in; decide) dX2_init_46 (fun H locs hP hD hS => ?_)
  have hP : va_P (dC, dI) vwCl ([(h0, .inr (2, [.ref (a2 0), .ref (a4 0), .null, .int 0, .int 0, .int 0, .int 0, .int 0, .int 0, .int 0, .int 0, .int 0]))] ++ wX0 a2 cI cF i_X0 ++ wX1 a4 cI cF i_X1 ++ [(q5, .inl (cI, 5, .inl (upd (upd (upd (upd (fun _ => 0) (0 : Int32).toNatClampNeg (0 : Int32)) (1 : Int32).toNatClampNeg (4 : Int32)) (2 : Int32).toNatClampNeg (20 : Int32)) (3 : Int32).toNatClampNeg (1 : Int32))))]) H := hP
  have hD : va_D A ([(h0, .inr (2, [.ref (a2 0), .ref (a4 0), .null, .int 0, .int 0, .int 0, .int 0, .int 0, .int 0, .int 0, .int 0, .int 0]))] ++ wX0 a2 cI cF i_X0 ++ wX1 a4 cI cF i_X1 ++ [(q5, .inl (cI, 5, .inl (upd (upd (upd (upd (fun _ => 0) (0 : Int32).toNatClampNeg (0 : Int32)) (1 : Int32).toNatClampNeg (4 : Int32)) (2 : Int32).toNatClampNeg (20 : Int32)) (3 : Int32).toNatClampNeg (1 : Int32))))]) := hD
  refine lv_dup hx hb dX2_init_47 rfl ?_
  refine lv_iconst (v := (4 : Int32)) hx hb dX2_init_48 (by decide) ?_
  refine lv_bipush (v := (60 : Int32)) hx hb dX2_init_49 (by decide) ?_
  refine va_iast hx hb hK hP hD hS 6 0 rfl rfl (by unfold vp_in; decide) dX2_init_51 (fun H locs hP hD hS => ?_)
  have hP : va_P (dC, dI) vwCl ([(h0, .inr (2, [.ref (a2 0), .ref (a4 0), .null, .int 0, .int 0, .int 0, .int 0, .int 0, .int 0, .int 0, .int 0, .int 0]))] ++ wX0 a2 cI cF i_X0 ++ wX1 a4 cI cF i_X1 ++ [(q5, .inl (cI, 5, .inl (upd (upd (upd (upd (upd (fun _ => 0) (0 : Int32).toNatClampNeg (0 : Int32)) (1 : Int32).toNatClampNeg (4 : Int32)) (2 : Int32).toNatClampNeg (20 : Int32)) (3 : Int32).toNatClampNeg (1 : Int32)) (4 : Int32).toNatClampNeg (60 : Int32))))]) H := hP
  have hD : va_D A ([(h0, .inr (2, [.ref (a2 0), .ref (a4 0), .null, .int 0, .int 0, .int 0, .int 0, .int 0, .int 0, .int 0, .int 0, .int 0]))] ++ wX0 a2 cI cF i_X0 ++ wX1 a4 cI cF i_X1 ++ [(q5, .inl (cI, 5, .inl (upd (upd (upd (upd (upd (fun _ => 0) (0 : Int32).toNatClampNeg (0 : Int32)) (1 : Int32).toNatClampNeg (4 : Int32)) (2 : Int32).toNatClampNeg (20 : Int32)) (3 : Int32).toNatClampNeg (1 : Int32)) (4 : Int32).toNatClampNeg (60 : Int32))))]) := hD
  refine va_putF (D := (dC, dI)) (ci := 2) (v := .ref q5) (ty := (.array .int)) (C := RX2) (T := TX2) (N := 12) hx hb huX2 (fun _ h9 => h9) tyX2 tyX2_ok nmX2 hown hK hP hD hS 0 rfl rfl 2 (by decide) w25 (fun _ h9 => h9) rfl hin rfl (by decide +kernel) rfl rfl (Nat.le_of_ble_eq_true rfl) dX2_init_52 (fun H locs hP hD hS => ?_)
  have hP : va_P (dC, dI) vwCl ([(h0, .inr (2, [.ref (a2 0), .ref (a4 0), .ref q5, .int 0, .int 0, .int 0, .int 0, .int 0, .int 0, .int 0, .int 0, .int 0]))] ++ wX0 a2 cI cF i_X0 ++ wX1 a4 cI cF i_X1 ++ [(q5, .inl (cI, 5, .inl (upd (upd (upd (upd (upd (fun _ => 0) (0 : Int32).toNatClampNeg (0 : Int32)) (1 : Int32).toNatClampNeg (4 : Int32)) (2 : Int32).toNatClampNeg (20 : Int32)) (3 : Int32).toNatClampNeg (1 : Int32)) (4 : Int32).toNatClampNeg (60 : Int32))))]) H := hP
  have hD : va_D A ([(h0, .inr (2, [.ref (a2 0), .ref (a4 0), .ref q5, .int 0, .int 0, .int 0, .int 0, .int 0, .int 0, .int 0, .int 0, .int 0]))] ++ wX0 a2 cI cF i_X0 ++ wX1 a4 cI cF i_X1 ++ [(q5, .inl (cI, 5, .inl (upd (upd (upd (upd (upd (fun _ => 0) (0 : Int32).toNatClampNeg (0 : Int32)) (1 : Int32).toNatClampNeg (4 : Int32)) (2 : Int32).toNatClampNeg (20 : Int32)) (3 : Int32).toNatClampNeg (1 : Int32)) (4 : Int32).toNatClampNeg (60 : Int32))))]) := hD
  refine lv_aload_n hx hb dX2_init_55 rfl (lv_at hl 0 rfl) ?_
  refine lv_iconst (v := (0 : Int32)) hx hb dX2_init_56 (by decide) ?_
  refine va_put (D := (dC, dI)) (ci := 2) (v := .int (0 : Int32)) (ty := .int) (C := RX2) (T := TX2) (N := 12) hx hb huX2 (fun _ h9 => h9) tyX2 tyX2_ok nmX2 hown hK hP hD hS 0 rfl rfl 3 (by decide) w29 (fun _ h9 => h9) rfl (by decide +kernel) rfl rfl (Nat.le_of_ble_eq_true rfl) dX2_init_57 (fun H locs hP hD hS => ?_)
  have hP : va_P (dC, dI) vwCl ([(h0, .inr (2, [.ref (a2 0), .ref (a4 0), .ref q5, .int (0 : Int32), .int 0, .int 0, .int 0, .int 0, .int 0, .int 0, .int 0, .int 0]))] ++ wX0 a2 cI cF i_X0 ++ wX1 a4 cI cF i_X1 ++ [(q5, .inl (cI, 5, .inl (upd (upd (upd (upd (upd (fun _ => 0) (0 : Int32).toNatClampNeg (0 : Int32)) (1 : Int32).toNatClampNeg (4 : Int32)) (2 : Int32).toNatClampNeg (20 : Int32)) (3 : Int32).toNatClampNeg (1 : Int32)) (4 : Int32).toNatClampNeg (60 : Int32))))]) H := hP
  have hD : va_D A ([(h0, .inr (2, [.ref (a2 0), .ref (a4 0), .ref q5, .int (0 : Int32), .int 0, .int 0, .int 0, .int 0, .int 0, .int 0, .int 0, .int 0]))] ++ wX0 a2 cI cF i_X0 ++ wX1 a4 cI cF i_X1 ++ [(q5, .inl (cI, 5, .inl (upd (upd (upd (upd (upd (fun _ => 0) (0 : Int32).toNatClampNeg (0 : Int32)) (1 : Int32).toNatClampNeg (4 : Int32)) (2 : Int32).toNatClampNeg (20 : Int32)) (3 : Int32).toNatClampNeg (1 : Int32)) (4 : Int32).toNatClampNeg (60 : Int32))))]) := hD
  refine lv_aload_n hx hb dX2_init_60 rfl (lv_at hl 0 rfl) ?_
  refine lv_bipush (v := (7 : Int32)) hx hb dX2_init_61 (by decide) ?_
  refine va_put (D := (dC, dI)) (ci := 2) (v := .int (7 : Int32)) (ty := .int) (C := RX2) (T := TX2) (N := 12) hx hb huX2 (fun _ h9 => h9) tyX2 tyX2_ok nmX2 hown hK hP hD hS 0 rfl rfl 4 (by decide) w33 (fun _ h9 => h9) rfl (by decide +kernel) rfl rfl (Nat.le_of_ble_eq_true rfl) dX2_init_63 (fun H locs hP hD hS => ?_)
  have hP : va_P (dC, dI) vwCl ([(h0, .inr (2, [.ref (a2 0), .ref (a4 0), .ref q5, .int (0 : Int32), .int (7 : Int32), .int 0, .int 0, .int 0, .int 0, .int 0, .int 0, .int 0]))] ++ wX0 a2 cI cF i_X0 ++ wX1 a4 cI cF i_X1 ++ [(q5, .inl (cI, 5, .inl (upd (upd (upd (upd (upd (fun _ => 0) (0 : Int32).toNatClampNeg (0 : Int32)) (1 : Int32).toNatClampNeg (4 : Int32)) (2 : Int32).toNatClampNeg (20 : Int32)) (3 : Int32).toNatClampNeg (1 : Int32)) (4 : Int32).toNatClampNeg (60 : Int32))))]) H := hP
  have hD : va_D A ([(h0, .inr (2, [.ref (a2 0), .ref (a4 0), .ref q5, .int (0 : Int32), .int (7 : Int32), .int 0, .int 0, .int 0, .int 0, .int 0, .int 0, .int 0]))] ++ wX0 a2 cI cF i_X0 ++ wX1 a4 cI cF i_X1 ++ [(q5, .inl (cI, 5, .inl (upd (upd (upd (upd (upd (fun _ => 0) (0 : Int32).toNatClampNeg (0 : Int32)) (1 : Int32).toNatClampNeg (4 : Int32)) (2 : Int32).toNatClampNeg (20 : Int32)) (3 : Int32).toNatClampNeg (1 : Int32)) (4 : Int32).toNatClampNeg (60 : Int32))))]) := hD
  refine lv_aload_n hx hb dX2_init_66 rfl (lv_at hl 0 rfl) ?_
  refine lv_iconst (v := (0 : Int32)) hx hb dX2_init_67 (by decide) ?_
  refine va_put (D := (dC, dI)) (ci := 2) (v := .int (0 : Int32)) (ty := .boolean) (C := RX2) (T := TX2) (N := 12) hx hb huX2 (fun _ h9 => h9) tyX2 tyX2_ok nmX2 hown hK hP hD hS 0 rfl rfl 5 (by decide) w36 (fun _ h9 => h9) rfl (by decide +kernel) rfl rfl (Nat.le_of_ble_eq_true rfl) dX2_init_68 (fun H locs hP hD hS => ?_)
  have hP : va_P (dC, dI) vwCl ([(h0, .inr (2, [.ref (a2 0), .ref (a4 0), .ref q5, .int (0 : Int32), .int (7 : Int32), .int (0 : Int32), .int 0, .int 0, .int 0, .int 0, .int 0, .int 0]))] ++ wX0 a2 cI cF i_X0 ++ wX1 a4 cI cF i_X1 ++ [(q5, .inl (cI, 5, .inl (upd (upd (upd (upd (upd (fun _ => 0) (0 : Int32).toNatClampNeg (0 : Int32)) (1 : Int32).toNatClampNeg (4 : Int32)) (2 : Int32).toNatClampNeg (20 : Int32)) (3 : Int32).toNatClampNeg (1 : Int32)) (4 : Int32).toNatClampNeg (60 : Int32))))]) H := hP
  have hD : va_D A ([(h0, .inr (2, [.ref (a2 0), .ref (a4 0), .ref q5, .int (0 : Int32), .int (7 : Int32), .int (0 : Int32), .int 0, .int 0, .int 0, .int 0, .int 0, .int 0]))] ++ wX0 a2 cI cF i_X0 ++ wX1 a4 cI cF i_X1 ++ [(q5, .inl (cI, 5, .inl (upd (upd (upd (upd (upd (fun _ => 0) (0 : Int32).toNatClampNeg (0 : Int32)) (1 : Int32).toNatClampNeg (4 : Int32)) (2 : Int32).toNatClampNeg (20 : Int32)) (3 : Int32).toNatClampNeg (1 : Int32)) (4 : Int32).toNatClampNeg (60 : Int32))))]) := hD
  refine lv_aload_n hx hb dX2_init_71 rfl (lv_at hl 0 rfl) ?_
  refine lv_iconst (v := (0 : Int32)) hx hb dX2_init_72 (by decide) ?_
  refine va_put (D := (dC, dI)) (ci := 2) (v := .int (0 : Int32)) (ty := .int) (C := RX2) (T := TX2) (N := 12) hx hb huX2 (fun _ h9 => h9) tyX2 tyX2_ok nmX2 hown hK hP hD hS 0 rfl rfl 6 (by decide) w40 (fun _ h9 => h9) rfl (by decide +kernel) rfl rfl (Nat.le_of_ble_eq_true rfl) dX2_init_73 (fun H locs hP hD hS => ?_)
  have hP : va_P (dC, dI) vwCl ([(h0, .inr (2, [.ref (a2 0), .ref (a4 0), .ref q5, .int (0 : Int32), .int (7 : Int32), .int (0 : Int32), .int (0 : Int32), .int 0, .int 0, .int 0, .int 0, .int 0]))] ++ wX0 a2 cI cF i_X0 ++ wX1 a4 cI cF i_X1 ++ [(q5, .inl (cI, 5, .inl (upd (upd (upd (upd (upd (fun _ => 0) (0 : Int32).toNatClampNeg (0 : Int32)) (1 : Int32).toNatClampNeg (4 : Int32)) (2 : Int32).toNatClampNeg (20 : Int32)) (3 : Int32).toNatClampNeg (1 : Int32)) (4 : Int32).toNatClampNeg (60 : Int32))))]) H := hP
  have hD : va_D A ([(h0, .inr (2, [.ref (a2 0), .ref (a4 0), .ref q5, .int (0 : Int32), .int (7 : Int32), .int (0 : Int32), .int (0 : Int32), .int 0, .int 0, .int 0, .int 0, .int 0]))] ++ wX0 a2 cI cF i_X0 ++ wX1 a4 cI cF i_X1 ++ [(q5, .inl (cI, 5, .inl (upd (upd (upd (upd (upd (fun _ => 0) (0 : Int32).toNatClampNeg (0 : Int32)) (1 : Int32).toNatClampNeg (4 : Int32)) (2 : Int32).toNatClampNeg (20 : Int32)) (3 : Int32).toNatClampNeg (1 : Int32)) (4 : Int32).toNatClampNeg (60 : Int32))))]) := hD
  refine lv_aload_n hx hb dX2_init_76 rfl (lv_at hl 0 rfl) ?_
  refine lv_iconst (v := (0 : Int32)) hx hb dX2_init_77 (by decide) ?_
  refine va_put (D := (dC, dI)) (ci := 2) (v := .int (0 : Int32)) (ty := .int) (C := RX2) (T := TX2) (N := 12) hx hb huX2 (fun _ h9 => h9) tyX2 tyX2_ok nmX2 hown hK hP hD hS 0 rfl rfl 7 (by decide) w43 (fun _ h9 => h9) rfl (by decide +kernel) rfl rfl (Nat.le_of_ble_eq_true rfl) dX2_init_78 (fun H locs hP hD hS => ?_)
  have hP : va_P (dC, dI) vwCl ([(h0, .inr (2, [.ref (a2 0), .ref (a4 0), .ref q5, .int (0 : Int32), .int (7 : Int32), .int (0 : Int32), .int (0 : Int32), .int (0 : Int32), .int 0, .int 0, .int 0, .int 0]))] ++ wX0 a2 cI cF i_X0 ++ wX1 a4 cI cF i_X1 ++ [(q5, .inl (cI, 5, .inl (upd (upd (upd (upd (upd (fun _ => 0) (0 : Int32).toNatClampNeg (0 : Int32)) (1 : Int32).toNatClampNeg (4 : Int32)) (2 : Int32).toNatClampNeg (20 : Int32)) (3 : Int32).toNatClampNeg (1 : Int32)) (4 : Int32).toNatClampNeg (60 : Int32))))]) H := hP
  have hD : va_D A ([(h0, .inr (2, [.ref (a2 0), .ref (a4 0), .ref q5, .int (0 : Int32), .int (7 : Int32), .int (0 : Int32), .int (0 : Int32), .int (0 : Int32), .int 0, .int 0, .int 0, .int 0]))] ++ wX0 a2 cI cF i_X0 ++ wX1 a4 cI cF i_X1 ++ [(q5, .inl (cI, 5, .inl (upd (upd (upd (upd (upd (fun _ => 0) (0 : Int32).toNatClampNeg (0 : Int32)) (1 : Int32).toNatClampNeg (4 : Int32)) (2 : Int32).toNatClampNeg (20 : Int32)) (3 : Int32).toNatClampNeg (1 : Int32)) (4 : Int32).toNatClampNeg (60 : Int32))))]) := hD
  refine lv_aload_n hx hb dX2_init_81 rfl (lv_at hl 0 rfl) ?_
  refine lv_iconst (v := (0 : Int32)) hx hb dX2_init_82 (by decide) ?_
  refine va_put (D := (dC, dI)) (ci := 2) (v := .int (0 : Int32)) (ty := .int) (C := RX2) (T := TX2) (N := 12) hx hb huX2 (fun _ h9 => h9) tyX2 tyX2_ok nmX2 hown hK hP hD hS 0 rfl rfl 8 (by decide) w46 (fun _ h9 => h9) rfl (by decide +kernel) rfl rfl (Nat.le_of_ble_eq_true rfl) dX2_init_83 (fun H locs hP hD hS => ?_)
  have hP : va_P (dC, dI) vwCl ([(h0, .inr (2, [.ref (a2 0), .ref (a4 0), .ref q5, .int (0 : Int32), .int (7 : Int32), .int (0 : Int32), .int (0 : Int32), .int (0 : Int32), .int (0 : Int32), .int 0, .int 0, .int 0]))] ++ wX0 a2 cI cF i_X0 ++ wX1 a4 cI cF i_X1 ++ [(q5, .inl (cI, 5, .inl (upd (upd (upd (upd (upd (fun _ => 0) (0 : Int32).toNatClampNeg (0 : Int32)) (1 : Int32).toNatClampNeg (4 : Int32)) (2 : Int32).toNatClampNeg (20 : Int32)) (3 : Int32).toNatClampNeg (1 : Int32)) (4 : Int32).toNatClampNeg (60 : Int32))))]) H := hP
  have hD : va_D A ([(h0, .inr (2, [.ref (a2 0), .ref (a4 0), .ref q5, .int (0 : Int32), .int (7 : Int32), .int (0 : Int32), .int (0 : Int32), .int (0 : Int32), .int (0 : Int32), .int 0, .int 0, .int 0]))] ++ wX0 a2 cI cF i_X0 ++ wX1 a4 cI cF i_X1 ++ [(q5, .inl (cI, 5, .inl (upd (upd (upd (upd (upd (fun _ => 0) (0 : Int32).toNatClampNeg (0 : Int32)) (1 : Int32).toNatClampNeg (4 : Int32)) (2 : Int32).toNatClampNeg (20 : Int32)) (3 : Int32).toNatClampNeg (1 : Int32)) (4 : Int32).toNatClampNeg (60 : Int32))))]) := hD
  refine lv_aload_n hx hb dX2_init_86 rfl (lv_at hl 0 rfl) ?_
  refine lv_iconst (v := (0 : Int32)) hx hb dX2_init_87 (by decide) ?_
  refine va_put (D := (dC, dI)) (ci := 2) (v := .int (0 : Int32)) (ty := .int) (C := RX2) (T := TX2) (N := 12) hx hb huX2 (fun _ h9 => h9) tyX2 tyX2_ok nmX2 hown hK hP hD hS 0 rfl rfl 9 (by decide) w49 (fun _ h9 => h9) rfl (by decide +kernel) rfl rfl (Nat.le_of_ble_eq_true rfl) dX2_init_88 (fun H locs hP hD hS => ?_)
  have hP : va_P (dC, dI) vwCl ([(h0, .inr (2, [.ref (a2 0), .ref (a4 0), .ref q5, .int (0 : Int32), .int (7 : Int32), .int (0 : Int32), .int (0 : Int32), .int (0 : Int32), .int (0 : Int32), .int (0 : Int32), .int 0, .int 0]))] ++ wX0 a2 cI cF i_X0 ++ wX1 a4 cI cF i_X1 ++ [(q5, .inl (cI, 5, .inl (upd (upd (upd (upd (upd (fun _ => 0) (0 : Int32).toNatClampNeg (0 : Int32)) (1 : Int32).toNatClampNeg (4 : Int32)) (2 : Int32).toNatClampNeg (20 : Int32)) (3 : Int32).toNatClampNeg (1 : Int32)) (4 : Int32).toNatClampNeg (60 : Int32))))]) H := hP
  have hD : va_D A ([(h0, .inr (2, [.ref (a2 0), .ref (a4 0), .ref q5, .int (0 : Int32), .int (7 : Int32), .int (0 : Int32), .int (0 : Int32), .int (0 : Int32), .int (0 : Int32), .int (0 : Int32), .int 0, .int 0]))] ++ wX0 a2 cI cF i_X0 ++ wX1 a4 cI cF i_X1 ++ [(q5, .inl (cI, 5, .inl (upd (upd (upd (upd (upd (fun _ => 0) (0 : Int32).toNatClampNeg (0 : Int32)) (1 : Int32).toNatClampNeg (4 : Int32)) (2 : Int32).toNatClampNeg (20 : Int32)) (3 : Int32).toNatClampNeg (1 : Int32)) (4 : Int32).toNatClampNeg (60 : Int32))))]) := hD
  refine lv_aload_n hx hb dX2_init_91 rfl (lv_at hl 0 rfl) ?_
  refine lv_iconst (v := (0 : Int32)) hx hb dX2_init_92 (by decide) ?_
  refine va_put (D := (dC, dI)) (ci := 2) (v := .int (0 : Int32)) (ty := .int) (C := RX2) (T := TX2) (N := 12) hx hb huX2 (fun _ h9 => h9) tyX2 tyX2_ok nmX2 hown hK hP hD hS 0 rfl rfl 10 (by decide) w52 (fun _ h9 => h9) rfl (by decide +kernel) rfl rfl (Nat.le_of_ble_eq_true rfl) dX2_init_93 (fun H locs hP hD hS => ?_)
  have hP : va_P (dC, dI) vwCl ([(h0, .inr (2, [.ref (a2 0), .ref (a4 0), .ref q5, .int (0 : Int32), .int (7 : Int32), .int (0 : Int32), .int (0 : Int32), .int (0 : Int32), .int (0 : Int32), .int (0 : Int32), .int (0 : Int32), .int 0]))] ++ wX0 a2 cI cF i_X0 ++ wX1 a4 cI cF i_X1 ++ [(q5, .inl (cI, 5, .inl (upd (upd (upd (upd (upd (fun _ => 0) (0 : Int32).toNatClampNeg (0 : Int32)) (1 : Int32).toNatClampNeg (4 : Int32)) (2 : Int32).toNatClampNeg (20 : Int32)) (3 : Int32).toNatClampNeg (1 : Int32)) (4 : Int32).toNatClampNeg (60 : Int32))))]) H := hP
  have hD : va_D A ([(h0, .inr (2, [.ref (a2 0), .ref (a4 0), .ref q5, .int (0 : Int32), .int (7 : Int32), .int (0 : Int32), .int (0 : Int32), .int (0 : Int32), .int (0 : Int32), .int (0 : Int32), .int (0 : Int32), .int 0]))] ++ wX0 a2 cI cF i_X0 ++ wX1 a4 cI cF i_X1 ++ [(q5, .inl (cI, 5, .inl (upd (upd (upd (upd (upd (fun _ => 0) (0 : Int32).toNatClampNeg (0 : Int32)) (1 : Int32).toNatClampNeg (4 : Int32)) (2 : Int32).toNatClampNeg (20 : Int32)) (3 : Int32).toNatClampNeg (1 : Int32)) (4 : Int32).toNatClampNeg (60 : Int32))))]) := hD
  refine lv_aload_n hx hb dX2_init_96 rfl (lv_at hl 0 rfl) ?_
  refine lv_iconst (v := (0 : Int32)) hx hb dX2_init_97 (by decide) ?_
  refine va_put (D := (dC, dI)) (ci := 2) (v := .int (0 : Int32)) (ty := .int) (C := RX2) (T := TX2) (N := 12) hx hb huX2 (fun _ h9 => h9) tyX2 tyX2_ok nmX2 hown hK hP hD hS 0 rfl rfl 11 (by decide) w55 (fun _ h9 => h9) rfl (by decide +kernel) rfl rfl (Nat.le_of_ble_eq_true rfl) dX2_init_98 (fun H locs hP hD hS => ?_)
  have hP : va_P (dC, dI) vwCl ([(h0, .inr (2, [.ref (a2 0), .ref (a4 0), .ref q5, .int (0 : Int32), .int (7 : Int32), .int (0 : Int32), .int (0 : Int32), .int (0 : Int32), .int (0 : Int32), .int (0 : Int32), .int (0 : Int32), .int (0 : Int32)]))] ++ wX0 a2 cI cF i_X0 ++ wX1 a4 cI cF i_X1 ++ [(q5, .inl (cI, 5, .inl (upd (upd (upd (upd (upd (fun _ => 0) (0 : Int32).toNatClampNeg (0 : Int32)) (1 : Int32).toNatClampNeg (4 : Int32)) (2 : Int32).toNatClampNeg (20 : Int32)) (3 : Int32).toNatClampNeg (1 : Int32)) (4 : Int32).toNatClampNeg (60 : Int32))))]) H := hP
  have hD : va_D A ([(h0, .inr (2, [.ref (a2 0), .ref (a4 0), .ref q5, .int (0 : Int32), .int (7 : Int32), .int (0 : Int32), .int (0 : Int32), .int (0 : Int32), .int (0 : Int32), .int (0 : Int32), .int (0 : Int32), .int (0 : Int32)]))] ++ wX0 a2 cI cF i_X0 ++ wX1 a4 cI cF i_X1 ++ [(q5, .inl (cI, 5, .inl (upd (upd (upd (upd (upd (fun _ => 0) (0 : Int32).toNatClampNeg (0 : Int32)) (1 : Int32).toNatClampNeg (4 : Int32)) (2 : Int32).toNatClampNeg (20 : Int32)) (3 : Int32).toNatClampNeg (1 : Int32)) (4 : Int32).toNatClampNeg (60 : Int32))))]) := hD
  obtain ⟨af, haf⟩ : ∃ af : Nat → Nat, af = fun i => if i < 1 then h0 else if i < 4 then a2 (i - 1) else if i < 6 then a4 (i - 4) else q5 := ⟨_, rfl⟩
  have hP : va_P (dC, dI) vwCl (wX2 af cI cF i_X2) H := by subst haf; exact hP
  have hD : va_D A (wX2 af cI cF i_X2) := by subst haf; exact hD
  refine W.widen (k := 6) (n := 344) (by omega) (by omega) ?_
  exact W.vret hx hb hr (fun t ht hW => ⟨⟨rfl, af, by rw [haf]; rfl, by rw [ht]; exact hP, by rw [hAe]; exact hD⟩, by rw [hAe]; exact hS.F ht⟩) hS.2.2 dX2_init_101

abbrev i_X3 : S_X3 := ((fun _ => i_X2), (0 : Int32), (0 : Int32))
set_option maxHeartbeats 8000000 in
set_option maxRecDepth 100000 in
theorem c_X3_init (l : Launch) (dC : Nat → ClassId) (dI : Nat → Nat → Nat) (cI cF : ClassId) (h0 : Nat) : ∀ sz : Nat, Met l yX3_init wsX3_init ({ frames := 3, cells := 43, slots := 2142, locals := 52 } : Room) (va_Pc [.ref h0] (pIN (dC, dI) cI cF (h0, .inr (3, [.null, .int 0, .int 0])) sz)) (qIN (dC, dI) (fun a => wX3 a cI cF i_X3) (h0, .inr (3, [.null, .int 0, .int 0])) sz) 43 2142 (va_A [(h0, .inr (3, [.null, .int 0, .int 0]))] sz) := by
  intro sz
  refine Met.ofW (cc := cX3_init) (maxL := 2) (ret := none) (by decide) rfl ?_
  intro p e s m args below meth c s₁ B hml hv
  obtain ⟨hargs, hsz, hP, hK, hD0, hI⟩ := hv
  subst hargs
  have hx := B.exec
  have hb := B.bytes
  have hr := B.returns
  have hts := atoms_spec (ws := wsX3_init) B.pre
  have hown : s.vm.findClass RX3 = some m.cls := findClass_of_methodNamed B.named
  have hlocks := B.notSynchronized
  have hin : meth.name = "<init>" := (name_of_methodNamed B.named B.method).1
  have hRc : (headSpec wsX3_init ({ frames := 3, cells := 43, slots := 2142, locals := 52 } : Room)).room.cells = 43 := rfl
  have hRs : (headSpec wsX3_init ({ frames := 3, cells := 43, slots := 2142, locals := 52 } : Room)).room.slots = 2142 := rfl
  have w11 := hts (.fieldLink RX3 11 "DrawnSlivers$History" "rows" "[LDrawnSlivers$Frame;") (List.mem_of_getElem? (i := 5) rfl)
  have w17 := hts (.fieldLink RX3 17 "DrawnSlivers$History" "oldest" "I") (List.mem_of_getElem? (i := 6) rfl)
  have w21 := hts (.fieldLink RX3 21 "DrawnSlivers$History" "saved" "I") (List.mem_of_getElem? (i := 7) rfl)
  have w3 := hts (.methodLink RX3 3 objectInit) (List.mem_of_getElem? (i := 1) rfl)
  have w9 := hts (.classLink RX3 9 RX2) (List.mem_of_getElem? (i := 4) rfl)
  have wiX2 := hts (.instantiable RX2 12) (List.mem_of_getElem? (i := 8) rfl)
  have wimX2 := hts (.instanceMethod yX2_init) (List.mem_of_getElem? (i := 10) rfl)
  have woc := hts (.code objectInit ⟨#[0xb1]⟩ 1 none) (List.mem_of_getElem? (i := 3) rfl)
  have woi := hts (.instanceMethod objectInit) (List.mem_of_getElem? (i := 2) rfl)
  have wzX2 := hts (.initialized RX2) (List.mem_of_getElem? (i := 9) rfl)
  have huX2 : ∀ w ∈ u_ws RX2 TX2 12, w.before _ s = true := fun w h => hts w (List.mem_cons_of_mem _ (List.mem_append_left _ (List.mem_append_left _ (List.mem_append_right _ (h)))))
  have huX3 : ∀ w ∈ u_ws RX3 TX3 3, w.before _ s = true := fun w h => hts w (List.mem_cons_of_mem _ (List.mem_append_left _ (List.mem_append_left _ (List.mem_append_left _ (List.mem_append_right _ (h))))))
  subst hsz
  have hD := hD0.self (sz := s.heap.size)
  generalize hAe : va_A [(h0, .inr (3, [.null, .int 0, .int 0]))] s.heap.size = A at hD ⊢
  have hA : ∀ q : Nat, s.heap.size ≤ q → A q := fun q h => by rw [← hAe]; exact Or.inr h
  have hS : va_S A s.heap s.heap [] := va_S.rf
  have hl := lv_entry ([.ref h0]) (n := 2) (Nat.le_of_ble_eq_true rfl)
  rw [lg_entry_eq]
  generalize (lg_sl ([.ref h0]) ++ List.replicate (2 - (lg_sl ([.ref h0])).length) Slot.unset).toArray = ls at hl ⊢
  have hl : lv_has ls 2 [(0, .ref h0)] := hl
  refine lv_aload_n hx hb dX3_init_0 rfl (lv_at hl 0 rfl) ?_
  refine W.objInit hx hb hown w3 woi woc rfl (by rw [hml]; exact hl.1) rfl dX3_init_1 (Nat.le_of_ble_eq_true rfl) (Nat.le_of_ble_eq_true rfl) ?_
  refine W.eq (g2 := F0 m 4 ls []) rfl ?_
  refine lv_aload_n hx hb dX3_init_4 rfl (lv_at hl 0 rfl) ?_
  refine lv_bipush (v := (6 : Int32)) hx hb dX3_init_5 (by decide) ?_
  refine k_newf hx hb hown w9 hI.2.2.2.2.2 hK hP hD hS hA 6 (by decide) (by decide +kernel) (by decide) (by omega) (by omega) dX3_init_7 (fun q1 H hP hD hS => ?_)
  have hP : va_P (dC, dI) vwCl ([(h0, .inr (3, [.null, .int 0, .int 0]))] ++ [(q1, .inl (cF, 6, .inr (.inr (.inr (.inr (fun _ => none))))))]) H := hP
  have hD : va_D A ([(h0, .inr (3, [.null, .int 0, .int 0]))] ++ [(q1, .inl (cF, 6, .inr (.inr (.inr (.inr (fun _ => none))))))]) := hD
  refine va_putF (D := (dC, dI)) (ci := 3) (v := .ref q1) (ty := (.array (.object RX2))) (C := RX3) (T := TX3) (N := 3) hx hb huX3 (fun _ h9 => h9) tyX3 tyX3_ok nmX3 hown hK hP hD hS 0 rfl rfl 0 (by decide) w11 (fun _ h9 => h9) rfl hin rfl (by decide +kernel) rfl rfl (Nat.le_of_ble_eq_true rfl) dX3_init_10 (fun H locs hP hD hS => ?_)
  have hP : va_P (dC, dI) vwCl ([(h0, .inr (3, [.ref q1, .int 0, .int 0]))] ++ [(q1, .inl (cF, 6, .inr (.inr (.inr (.inr (fun _ => none))))))]) H := hP
  have hD : va_D A ([(h0, .inr (3, [.ref q1, .int 0, .int 0]))] ++ [(q1, .inl (cF, 6, .inr (.inr (.inr (.inr (fun _ => none))))))]) := hD
  refine lv_aload_n hx hb dX3_init_13 rfl (lv_at hl 0 rfl) ?_
  refine lv_iconst (v := (0 : Int32)) hx hb dX3_init_14 (by decide) ?_
  refine va_put (D := (dC, dI)) (ci := 3) (v := .int (0 : Int32)) (ty := .int) (C := RX3) (T := TX3) (N := 3) hx hb huX3 (fun _ h9 => h9) tyX3 tyX3_ok nmX3 hown hK hP hD hS 0 rfl rfl 1 (by decide) w17 (fun _ h9 => h9) rfl (by decide +kernel) rfl rfl (Nat.le_of_ble_eq_true rfl) dX3_init_15 (fun H locs hP hD hS => ?_)
  have hP : va_P (dC, dI) vwCl ([(h0, .inr (3, [.ref q1, .int (0 : Int32), .int 0]))] ++ [(q1, .inl (cF, 6, .inr (.inr (.inr (.inr (fun _ => none))))))]) H := hP
  have hD : va_D A ([(h0, .inr (3, [.ref q1, .int (0 : Int32), .int 0]))] ++ [(q1, .inl (cF, 6, .inr (.inr (.inr (.inr (fun _ => none))))))]) := hD
  refine lv_aload_n hx hb dX3_init_18 rfl (lv_at hl 0 rfl) ?_
  refine lv_iconst (v := (0 : Int32)) hx hb dX3_init_19 (by decide) ?_
  refine va_put (D := (dC, dI)) (ci := 3) (v := .int (0 : Int32)) (ty := .int) (C := RX3) (T := TX3) (N := 3) hx hb huX3 (fun _ h9 => h9) tyX3 tyX3_ok nmX3 hown hK hP hD hS 0 rfl rfl 2 (by decide) w21 (fun _ h9 => h9) rfl (by decide +kernel) rfl rfl (Nat.le_of_ble_eq_true rfl) dX3_init_20 (fun H locs hP hD hS => ?_)
  have hP : va_P (dC, dI) vwCl ([(h0, .inr (3, [.ref q1, .int (0 : Int32), .int (0 : Int32)]))] ++ [(q1, .inl (cF, 6, .inr (.inr (.inr (.inr (fun _ => none))))))]) H := hP
  have hD : va_D A ([(h0, .inr (3, [.ref q1, .int (0 : Int32), .int (0 : Int32)]))] ++ [(q1, .inl (cF, 6, .inr (.inr (.inr (.inr (fun _ => none))))))]) := hD
  refine lv_iconst (v := (0 : Int32)) hx hb dX3_init_23 (by decide) ?_
  refine lv_istore_n (lv' := [(1, .int (0 : Int32)), (0, .ref h0)]) hx hb dX3_init_24 rfl hl (by decide) rfl (fun ls hl => ?_)
  refine lv_iload_n hx hb dX3_init_25 rfl (lv_at hl 0 rfl) ?_
  refine lv_aload_n hx hb dX3_init_26 rfl (lv_at hl 1 rfl) ?_
  refine va_get (D := (dC, dI)) (ci := 3) (v := .ref q1) (C := RX3) (T := TX3) (N := 3) hx hb huX3 (fun _ h9 => h9) hown hK hP 0 rfl rfl 0 (by decide) w11 (fun _ h9 => h9) rfl dX3_init_27 ?_
  refine va_alen (v := 6) hx hb hK hP 1 1 rfl rfl rfl dX3_init_30 ?_
  refine lv_icmp_ge (tgt := 53) hx hb dX3_init_31 (by decide) (fun c9 => absurd c9 (by decide)) (fun _ => ?_)
  refine lv_aload_n hx hb dX3_init_34 rfl (lv_at hl 1 rfl) ?_
  refine va_get (D := (dC, dI)) (ci := 3) (v := .ref q1) (C := RX3) (T := TX3) (N := 3) hx hb huX3 (fun _ h9 => h9) hown hK hP 0 rfl rfl 0 (by decide) w11 (fun _ h9 => h9) rfl dX3_init_35 ?_
  refine lv_iload_n hx hb dX3_init_38 rfl (lv_at hl 0 rfl) ?_
  refine va_new (ci := 2) (fs := [.null, .null, .null, .int 0, .int 0, .int 0, .int 0, .int 0, .int 0, .int 0, .int 0, .int 0]) (C := RX2) (T := TX2) (N := 12) hx hb huX2 (fun _ h9 => h9) tyX2 tyX2_ok hown w9 wiX2 wzX2 hK hP hD hS hA rfl (fun j hj => by rcases (show j = 0 ∨ j = 1 ∨ j = 2 ∨ j = 3 ∨ j = 4 ∨ j = 5 ∨ j = 6 ∨ j = 7 ∨ j = 8 ∨ j = 9 ∨ j = 10 ∨ j = 11 by omega) with rfl | rfl | rfl | rfl | rfl | rfl | rfl | rfl | rfl | rfl | rfl | rfl <;> rfl) (by omega) (by omega) dX3_init_39 (fun q2 H hP hD hS => ?_)
  have hP : va_P (dC, dI) vwCl ([(h0, .inr (3, [.ref q1, .int (0 : Int32), .int (0 : Int32)]))] ++ [(q1, .inl (cF, 6, .inr (.inr (.inr (.inr (fun _ => none))))))] ++ [(q2, .inr (2, [.null, .null, .null, .int 0, .int 0, .int 0, .int 0, .int 0, .int 0, .int 0, .int 0, .int 0]))]) H := hP
  have hD : va_D A ([(h0, .inr (3, [.ref q1, .int (0 : Int32), .int (0 : Int32)]))] ++ [(q1, .inl (cF, 6, .inr (.inr (.inr (.inr (fun _ => none))))))] ++ [(q2, .inr (2, [.null, .null, .null, .int 0, .int 0, .int 0, .int 0, .int 0, .int 0, .int 0, .int 0, .int 0]))]) := hD
  refine lv_dup hx hb dX3_init_42 rfl ?_
  refine k_in (X := [(h0, .inr (3, [.ref q1, .int (0 : Int32), .int (0 : Int32)]))] ++ [(q1, .inl (cF, 6, .inr (.inr (.inr (.inr (fun _ => none))))))]) (W9 := fun a => wX2 a cI cF i_X2) (va_runIN (As := []) (rest := [.ref q2, .int (0 : Int32), .ref q1]) ⟨hx, hb, hml, hown, hts⟩ (c_X2_init l dC dI cI cF q2 H.size) (⟨va_cnB 0 hts gX3_init_X2_init_n24 rfl rfl rfl hI.2.2.1 wzX2 (by decide +kernel) ⟨Nat.le_of_ble_eq_true rfl, Nat.le_of_ble_eq_true rfl⟩, rfl, wimX2⟩) (k_preI hI hK hP) rfl rfl hl.1 rfl (lv_room (Nat.le_of_ble_eq_true rfl)) dX3_init_43 ⟨by omega, by omega⟩) hP hD hS hA (fun a3 H locs ha hP2 hD2 hS => ?_)
  clear hP hD
  subst ha
  have hP : va_P (dC, dI) vwCl ([(h0, .inr (3, [.ref q1, .int (0 : Int32), .int (0 : Int32)]))] ++ [(q1, .inl (cF, 6, .inr (.inr (.inr (.inr (fun _ => none))))))] ++ wX2 a3 cI cF i_X2) H := hP2
  have hD : va_D A ([(h0, .inr (3, [.ref q1, .int (0 : Int32), .int (0 : Int32)]))] ++ [(q1, .inl (cF, 6, .inr (.inr (.inr (.inr (fun _ => none))))))] ++ wX2 a3 cI cF i_X2) := hD2
  clear hP2 hD2
  refine va_astq (r := (RX2, TX2, 12)) hx hb hK hP hD hS 1 1 2 2 rfl rfl rfl rfl (by unfold vp_in; decide) dX3_init_46 (fun H locs hP hD hS => ?_)
  have hP : va_P (dC, dI) vwCl ([(h0, .inr (3, [.ref q1, .int (0 : Int32), .int (0 : Int32)]))] ++ [(q1, .inl (cF, 6, .inr (.inr (.inr (.inr (va_up (fun _ => none) (0 : Int32).toNatClampNeg (some (a3 0))))))))] ++ wX2 a3 cI cF i_X2) H := hP
  have hD : va_D A ([(h0, .inr (3, [.ref q1, .int (0 : Int32), .int (0 : Int32)]))] ++ [(q1, .inl (cF, 6, .inr (.inr (.inr (.inr (va_up (fun _ => none) (0 : Int32).toNatClampNeg (some (a3 0))))))))] ++ wX2 a3 cI cF i_X2) := hD
  refine lv_iinc (v := (1 : Int32)) (lv' := [(1, .int (1 : Int32)), (0, .ref h0)]) hx hb dX3_init_47 hl (k := 0) rfl (by decide) (by decide) rfl (fun ls hl => ?_)
  refine lv_goto (tgt := 25) hx hb dX3_init_50 (by decide) ?_
  refine lv_iload_n hx hb dX3_init_25 rfl (lv_at hl 0 rfl) ?_
  refine lv_aload_n hx hb dX3_init_26 rfl (lv_at hl 1 rfl) ?_
  refine va_get (D := (dC, dI)) (ci := 3) (v := .ref q1) (C := RX3) (T := TX3) (N := 3) hx hb huX3 (fun _ h9 => h9) hown hK hP 0 rfl rfl 0 (by decide) w11 (fun _ h9 => h9) rfl dX3_init_27 ?_
  refine va_alen (v := 6) hx hb hK hP 1 1 rfl rfl rfl dX3_init_30 ?_
  refine lv_icmp_ge (tgt := 53) hx hb dX3_init_31 (by decide) (fun c9 => absurd c9 (by decide)) (fun _ => ?_)
  refine lv_aload_n hx hb dX3_init_34 rfl (lv_at hl 1 rfl) ?_
  refine va_get (D := (dC, dI)) (ci := 3) (v := .ref q1) (C := RX3) (T := TX3) (N := 3) hx hb huX3 (fun _ h9 => h9) hown hK hP 0 rfl rfl 0 (by decide) w11 (fun _ h9 => h9) rfl dX3_init_35 ?_
  refine lv_iload_n hx hb dX3_init_38 rfl (lv_at hl 0 rfl) ?_
  refine va_new (ci := 2) (fs := [.null, .null, .null, .int 0, .int 0, .int 0, .int 0, .int 0, .int 0, .int 0, .int 0, .int 0]) (C := RX2) (T := TX2) (N := 12) hx hb huX2 (fun _ h9 => h9) tyX2 tyX2_ok hown w9 wiX2 wzX2 hK hP hD hS hA rfl (fun j hj => by rcases (show j = 0 ∨ j = 1 ∨ j = 2 ∨ j = 3 ∨ j = 4 ∨ j = 5 ∨ j = 6 ∨ j = 7 ∨ j = 8 ∨ j = 9 ∨ j = 10 ∨ j = 11 by omega) with rfl | rfl | rfl | rfl | rfl | rfl | rfl | rfl | rfl | rfl | rfl | rfl <;> rfl) (by omega) (by omega) dX3_init_39 (fun q4 H hP hD hS => ?_)
  have hP : va_P (dC, dI) vwCl ([(h0, .inr (3, [.ref q1, .int (0 : Int32), .int (0 : Int32)]))] ++ [(q1, .inl (cF, 6, .inr (.inr (.inr (.inr (va_up (fun _ => none) (0 : Int32).toNatClampNeg (some (a3 0))))))))] ++ wX2 a3 cI cF i_X2 ++ [(q4, .inr (2, [.null, .null, .null, .int 0, .int 0, .int 0, .int 0, .int 0, .int 0, .int 0, .int 0, .int 0]))]) H := hP
  have hD : va_D A ([(h0, .inr (3, [.ref q1, .int (0 : Int32), .int (0 : Int32)]))] ++ [(q1, .inl (cF, 6, .inr (.inr (.inr (.inr (va_up (fun _ => none) (0 : Int32).toNatClampNeg (some (a3 0))))))))] ++ wX2 a3 cI cF i_X2 ++ [(q4, .inr (2, [.null, .null, .null, .int 0, .int 0, .int 0, .int 0, .int 0, .int 0, .int 0, .int 0, .int 0]))]) := hD
  refine lv_dup hx hb dX3_init_42 rfl ?_
  refine k_in (X := [(h0, .inr (3, [.ref q1, .int (0 : Int32), .int (0 : Int32)]))] ++ [(q1, .inl (cF, 6, .inr (.inr (.inr (.inr (va_up (fun _ => none) (0 : Int32).toNatClampNeg (some (a3 0))))))))] ++ wX2 a3 cI cF i_X2) (W9 := fun a => wX2 a cI cF i_X2) (va_runIN (As := []) (rest := [.ref q4, .int (1 : Int32), .ref q1]) ⟨hx, hb, hml, hown, hts⟩ (c_X2_init l dC dI cI cF q4 H.size) (⟨va_cnB 0 hts gX3_init_X2_init_n24 rfl rfl rfl hI.2.2.1 wzX2 (by decide +kernel) ⟨Nat.le_of_ble_eq_true rfl, Nat.le_of_ble_eq_true rfl⟩, rfl, wimX2⟩) (k_preI hI hK hP) rfl rfl hl.1 rfl (lv_room (Nat.le_of_ble_eq_true rfl)) dX3_init_43 ⟨by omega, by omega⟩) hP hD hS hA (fun a5 H locs ha hP2 hD2 hS => ?_)
  clear hP hD
  subst ha
  have hP : va_P (dC, dI) vwCl ([(h0, .inr (3, [.ref q1, .int (0 : Int32), .int (0 : Int32)]))] ++ [(q1, .inl (cF, 6, .inr (.inr (.inr (.inr (va_up (fun _ => none) (0 : Int32).toNatClampNeg (some (a3 0))))))))] ++ wX2 a3 cI cF i_X2 ++ wX2 a5 cI cF i_X2) H := hP2
  have hD : va_D A ([(h0, .inr (3, [.ref q1, .int (0 : Int32), .int (0 : Int32)]))] ++ [(q1, .inl (cF, 6, .inr (.inr (.inr (.inr (va_up (fun _ => none) (0 : Int32).toNatClampNeg (some (a3 0))))))))] ++ wX2 a3 cI cF i_X2 ++ wX2 a5 cI cF i_X2) := hD2
  clear hP2 hD2
  refine va_astq (r := (RX2, TX2, 12)) hx hb hK hP hD hS 1 1 9 2 rfl rfl rfl rfl (by unfold vp_in; decide) dX3_init_46 (fun H locs hP hD hS => ?_)
  have hP : va_P (dC, dI) vwCl ([(h0, .inr (3, [.ref q1, .int (0 : Int32), .int (0 : Int32)]))] ++ [(q1, .inl (cF, 6, .inr (.inr (.inr (.inr (va_up (va_up (fun _ => none) (0 : Int32).toNatClampNeg (some (a3 0))) (1 : Int32).toNatClampNeg (some (a5 0))))))))] ++ wX2 a3 cI cF i_X2 ++ wX2 a5 cI cF i_X2) H := hP
  have hD : va_D A ([(h0, .inr (3, [.ref q1, .int (0 : Int32), .int (0 : Int32)]))] ++ [(q1, .inl (cF, 6, .inr (.inr (.inr (.inr (va_up (va_up (fun _ => none) (0 : Int32).toNatClampNeg (some (a3 0))) (1 : Int32).toNatClampNeg (some (a5 0))))))))] ++ wX2 a3 cI cF i_X2 ++ wX2 a5 cI cF i_X2) := hD
  refine lv_iinc (v := (2 : Int32)) (lv' := [(1, .int (2 : Int32)), (0, .ref h0)]) hx hb dX3_init_47 hl (k := 0) rfl (by decide) (by decide) rfl (fun ls hl => ?_)
  refine lv_goto (tgt := 25) hx hb dX3_init_50 (by decide) ?_
  refine lv_iload_n hx hb dX3_init_25 rfl (lv_at hl 0 rfl) ?_
  refine lv_aload_n hx hb dX3_init_26 rfl (lv_at hl 1 rfl) ?_
  refine va_get (D := (dC, dI)) (ci := 3) (v := .ref q1) (C := RX3) (T := TX3) (N := 3) hx hb huX3 (fun _ h9 => h9) hown hK hP 0 rfl rfl 0 (by decide) w11 (fun _ h9 => h9) rfl dX3_init_27 ?_
  refine va_alen (v := 6) hx hb hK hP 1 1 rfl rfl rfl dX3_init_30 ?_
  refine lv_icmp_ge (tgt := 53) hx hb dX3_init_31 (by decide) (fun c9 => absurd c9 (by decide)) (fun _ => ?_)
  refine lv_aload_n hx hb dX3_init_34 rfl (lv_at hl 1 rfl) ?_
  refine va_get (D := (dC, dI)) (ci := 3) (v := .ref q1) (C := RX3) (T := TX3) (N := 3) hx hb huX3 (fun _ h9 => h9) hown hK hP 0 rfl rfl 0 (by decide) w11 (fun _ h9 => h9) rfl dX3_init_35 ?_
  refine lv_iload_n hx hb dX3_init_38 rfl (lv_at hl 0 rfl) ?_
  refine va_new (ci := 2) (fs := [.null, .null, .null, .int 0, .int 0, .int 0, .int 0, .int 0, .int 0, .int 0, .int 0, .int 0]) (C := RX2) (T := TX2) (N := 12) hx hb huX2 (fun _ h9 => h9) tyX2 tyX2_ok hown w9 wiX2 wzX2 hK hP hD hS hA rfl (fun j hj => by rcases (show j = 0 ∨ j = 1 ∨ j = 2 ∨ j = 3 ∨ j = 4 ∨ j = 5 ∨ j = 6 ∨ j = 7 ∨ j = 8 ∨ j = 9 ∨ j = 10 ∨ j = 11 by omega) with rfl | rfl | rfl | rfl | rfl | rfl | rfl | rfl | rfl | rfl | rfl | rfl <;> rfl) (by omega) (by omega) dX3_init_39 (fun q6 H hP hD hS => ?_)
  have hP : va_P (dC, dI) vwCl ([(h0, .inr (3, [.ref q1, .int (0 : Int32), .int (0 : Int32)]))] ++ [(q1, .inl (cF, 6, .inr (.inr (.inr (.inr (va_up (va_up (fun _ => none) (0 : Int32).toNatClampNeg (some (a3 0))) (1 : Int32).toNatClampNeg (some (a5 0))))))))] ++ wX2 a3 cI cF i_X2 ++ wX2 a5 cI cF i_X2 ++ [(q6, .inr (2, [.null, .null, .null, .int 0, .int 0, .int 0, .int 0, .int 0, .int 0, .int 0, .int 0, .int 0]))]) H := hP
  have hD : va_D A ([(h0, .inr (3, [.ref q1, .int (0 : Int32), .int (0 : Int32)]))] ++ [(q1, .inl (cF, 6, .inr (.inr (.inr (.inr (va_up (va_up (fun _ => none) (0 : Int32).toNatClampNeg (some (a3 0))) (1 : Int32).toNatClampNeg (some (a5 0))))))))] ++ wX2 a3 cI cF i_X2 ++ wX2 a5 cI cF i_X2 ++ [(q6, .inr (2, [.null, .null, .null, .int 0, .int 0, .int 0, .int 0, .int 0, .int 0, .int 0, .int 0, .int 0]))]) := hD
  refine lv_dup hx hb dX3_init_42 rfl ?_
  refine k_in (X := [(h0, .inr (3, [.ref q1, .int (0 : Int32), .int (0 : Int32)]))] ++ [(q1, .inl (cF, 6, .inr (.inr (.inr (.inr (va_up (va_up (fun _ => none) (0 : Int32).toNatClampNeg (some (a3 0))) (1 : Int32).toNatClampNeg (some (a5 0))))))))] ++ wX2 a3 cI cF i_X2 ++ wX2 a5 cI cF i_X2) (W9 := fun a => wX2 a cI cF i_X2) (va_runIN (As := []) (rest := [.ref q6, .int (2 : Int32), .ref q1]) ⟨hx, hb, hml, hown, hts⟩ (c_X2_init l dC dI cI cF q6 H.size) (⟨va_cnB 0 hts gX3_init_X2_init_n24 rfl rfl rfl hI.2.2.1 wzX2 (by decide +kernel) ⟨Nat.le_of_ble_eq_true rfl, Nat.le_of_ble_eq_true rfl⟩, rfl, wimX2⟩) (k_preI hI hK hP) rfl rfl hl.1 rfl (lv_room (Nat.le_of_ble_eq_true rfl)) dX3_init_43 ⟨by omega, by omega⟩) hP hD hS hA (fun a7 H locs ha hP2 hD2 hS => ?_)
  clear hP hD
  subst ha
  have hP : va_P (dC, dI) vwCl ([(h0, .inr (3, [.ref q1, .int (0 : Int32), .int (0 : Int32)]))] ++ [(q1, .inl (cF, 6, .inr (.inr (.inr (.inr (va_up (va_up (fun _ => none) (0 : Int32).toNatClampNeg (some (a3 0))) (1 : Int32).toNatClampNeg (some (a5 0))))))))] ++ wX2 a3 cI cF i_X2 ++ wX2 a5 cI cF i_X2 ++ wX2 a7 cI cF i_X2) H := hP2
  have hD : va_D A ([(h0, .inr (3, [.ref q1, .int (0 : Int32), .int (0 : Int32)]))] ++ [(q1, .inl (cF, 6, .inr (.inr (.inr (.inr (va_up (va_up (fun _ => none) (0 : Int32).toNatClampNeg (some (a3 0))) (1 : Int32).toNatClampNeg (some (a5 0))))))))] ++ wX2 a3 cI cF i_X2 ++ wX2 a5 cI cF i_X2 ++ wX2 a7 cI cF i_X2) := hD2
  clear hP2 hD2
  refine va_astq (r := (RX2, TX2, 12)) hx hb hK hP hD hS 1 1 16 2 rfl rfl rfl rfl (by unfold vp_in; decide) dX3_init_46 (fun H locs hP hD hS => ?_)
  have hP : va_P (dC, dI) vwCl ([(h0, .inr (3, [.ref q1, .int (0 : Int32), .int (0 : Int32)]))] ++ [(q1, .inl (cF, 6, .inr (.inr (.inr (.inr (va_up (va_up (va_up (fun _ => none) (0 : Int32).toNatClampNeg (some (a3 0))) (1 : Int32).toNatClampNeg (some (a5 0))) (2 : Int32).toNatClampNeg (some (a7 0))))))))] ++ wX2 a3 cI cF i_X2 ++ wX2 a5 cI cF i_X2 ++ wX2 a7 cI cF i_X2) H := hP
  have hD : va_D A ([(h0, .inr (3, [.ref q1, .int (0 : Int32), .int (0 : Int32)]))] ++ [(q1, .inl (cF, 6, .inr (.inr (.inr (.inr (va_up (va_up (va_up (fun _ => none) (0 : Int32).toNatClampNeg (some (a3 0))) (1 : Int32).toNatClampNeg (some (a5 0))) (2 : Int32).toNatClampNeg (some (a7 0))))))))] ++ wX2 a3 cI cF i_X2 ++ wX2 a5 cI cF i_X2 ++ wX2 a7 cI cF i_X2) := hD
  refine lv_iinc (v := (3 : Int32)) (lv' := [(1, .int (3 : Int32)), (0, .ref h0)]) hx hb dX3_init_47 hl (k := 0) rfl (by decide) (by decide) rfl (fun ls hl => ?_)
  refine lv_goto (tgt := 25) hx hb dX3_init_50 (by decide) ?_
  refine lv_iload_n hx hb dX3_init_25 rfl (lv_at hl 0 rfl) ?_
  refine lv_aload_n hx hb dX3_init_26 rfl (lv_at hl 1 rfl) ?_
  refine va_get (D := (dC, dI)) (ci := 3) (v := .ref q1) (C := RX3) (T := TX3) (N := 3) hx hb huX3 (fun _ h9 => h9) hown hK hP 0 rfl rfl 0 (by decide) w11 (fun _ h9 => h9) rfl dX3_init_27 ?_
  refine va_alen (v := 6) hx hb hK hP 1 1 rfl rfl rfl dX3_init_30 ?_
  refine lv_icmp_ge (tgt := 53) hx hb dX3_init_31 (by decide) (fun c9 => absurd c9 (by decide)) (fun _ => ?_)
  refine lv_aload_n hx hb dX3_init_34 rfl (lv_at hl 1 rfl) ?_
  refine va_get (D := (dC, dI)) (ci := 3) (v := .ref q1) (C := RX3) (T := TX3) (N := 3) hx hb huX3 (fun _ h9 => h9) hown hK hP 0 rfl rfl 0 (by decide) w11 (fun _ h9 => h9) rfl dX3_init_35 ?_
  refine lv_iload_n hx hb dX3_init_38 rfl (lv_at hl 0 rfl) ?_
  refine va_new (ci := 2) (fs := [.null, .null, .null, .int 0, .int 0, .int 0, .int 0, .int 0, .int 0, .int 0, .int 0, .int 0]) (C := RX2) (T := TX2) (N := 12) hx hb huX2 (fun _ h9 => h9) tyX2 tyX2_ok hown w9 wiX2 wzX2 hK hP hD hS hA rfl (fun j hj => by rcases (show j = 0 ∨ j = 1 ∨ j = 2 ∨ j = 3 ∨ j = 4 ∨ j = 5 ∨ j = 6 ∨ j = 7 ∨ j = 8 ∨ j = 9 ∨ j = 10 ∨ j = 11 by omega) with rfl | rfl | rfl | rfl | rfl | rfl | rfl | rfl | rfl | rfl | rfl | rfl <;> rfl) (by omega) (by omega) dX3_init_39 (fun q8 H hP hD hS => ?_)
  have hP : va_P (dC, dI) vwCl ([(h0, .inr (3, [.ref q1, .int (0 : Int32), .int (0 : Int32)]))] ++ [(q1, .inl (cF, 6, .inr (.inr (.inr (.inr (va_up (va_up (va_up (fun _ => none) (0 : Int32).toNatClampNeg (some (a3 0))) (1 : Int32).toNatClampNeg (some (a5 0))) (2 : Int32).toNatClampNeg (some (a7 0))))))))] ++ wX2 a3 cI cF i_X2 ++ wX2 a5 cI cF i_X2 ++ wX2 a7 cI cF i_X2 ++ [(q8, .inr (2, [.null, .null, .null, .int 0, .int 0, .int 0, .int 0, .int 0, .int 0, .int 0, .int 0, .int 0]))]) H := hP
  have hD : va_D A ([(h0, .inr (3, [.ref q1, .int (0 : Int32), .int (0 : Int32)]))] ++ [(q1, .inl (cF, 6, .inr (.inr (.inr (.inr (va_up (va_up (va_up (fun _ => none) (0 : Int32).toNatClampNeg (some (a3 0))) (1 : Int32).toNatClampNeg (some (a5 0))) (2 : Int32).toNatClampNeg (some (a7 0))))))))] ++ wX2 a3 cI cF i_X2 ++ wX2 a5 cI cF i_X2 ++ wX2 a7 cI cF i_X2 ++ [(q8, .inr (2, [.null, .null, .null, .int 0, .int 0, .int 0, .int 0, .int 0, .int 0, .int 0, .int 0, .int 0]))]) := hD
  refine lv_dup hx hb dX3_init_42 rfl ?_
  refine k_in (X := [(h0, .inr (3, [.ref q1, .int (0 : Int32), .int (0 : Int32)]))] ++ [(q1, .inl (cF, 6, .inr (.inr (.inr (.inr (va_up (va_up (va_up (fun _ => none) (0 : Int32).toNatClampNeg (some (a3 0))) (1 : Int32).toNatClampNeg (some (a5 0))) (2 : Int32).toNatClampNeg (some (a7 0))))))))] ++ wX2 a3 cI cF i_X2 ++ wX2 a5 cI cF i_X2 ++ wX2 a7 cI cF i_X2) (W9 := fun a => wX2 a cI cF i_X2) (va_runIN (As := []) (rest := [.ref q8, .int (3 : Int32), .ref q1]) ⟨hx, hb, hml, hown, hts⟩ (c_X2_init l dC dI cI cF q8 H.size) (⟨va_cnB 0 hts gX3_init_X2_init_n24 rfl rfl rfl hI.2.2.1 wzX2 (by decide +kernel) ⟨Nat.le_of_ble_eq_true rfl, Nat.le_of_ble_eq_true rfl⟩, rfl, wimX2⟩) (k_preI hI hK hP) rfl rfl hl.1 rfl (lv_room (Nat.le_of_ble_eq_true rfl)) dX3_init_43 ⟨by omega, by omega⟩) hP hD hS hA (fun a9 H locs ha hP2 hD2 hS => ?_)
  clear hP hD
  subst ha
  have hP : va_P (dC, dI) vwCl ([(h0, .inr (3, [.ref q1, .int (0 : Int32), .int (0 : Int32)]))] ++ [(q1, .inl (cF, 6, .inr (.inr (.inr (.inr (va_up (va_up (va_up (fun _ => none) (0 : Int32).toNatClampNeg (some (a3 0))) (1 : Int32).toNatClampNeg (some (a5 0))) (2 : Int32).toNatClampNeg (some (a7 0))))))))] ++ wX2 a3 cI cF i_X2 ++ wX2 a5 cI cF i_X2 ++ wX2 a7 cI cF i_X2 ++ wX2 a9 cI cF i_X2) H := hP2
  have hD : va_D A ([(h0, .inr (3, [.ref q1, .int (0 : Int32), .int (0 : Int32)]))] ++ [(q1, .inl (cF, 6, .inr (.inr (.inr (.inr (va_up (va_up (va_up (fun _ => none) (0 : Int32).toNatClampNeg (some (a3 0))) (1 : Int32).toNatClampNeg (some (a5 0))) (2 : Int32).toNatClampNeg (some (a7 0))))))))] ++ wX2 a3 cI cF i_X2 ++ wX2 a5 cI cF i_X2 ++ wX2 a7 cI cF i_X2 ++ wX2 a9 cI cF i_X2) := hD2
  clear hP2 hD2
  refine va_astq (r := (RX2, TX2, 12)) hx hb hK hP hD hS 1 1 23 2 rfl rfl rfl rfl (by unfold vp_in; decide) dX3_init_46 (fun H locs hP hD hS => ?_)
  have hP : va_P (dC, dI) vwCl ([(h0, .inr (3, [.ref q1, .int (0 : Int32), .int (0 : Int32)]))] ++ [(q1, .inl (cF, 6, .inr (.inr (.inr (.inr (va_up (va_up (va_up (va_up (fun _ => none) (0 : Int32).toNatClampNeg (some (a3 0))) (1 : Int32).toNatClampNeg (some (a5 0))) (2 : Int32).toNatClampNeg (some (a7 0))) (3 : Int32).toNatClampNeg (some (a9 0))))))))] ++ wX2 a3 cI cF i_X2 ++ wX2 a5 cI cF i_X2 ++ wX2 a7 cI cF i_X2 ++ wX2 a9 cI cF i_X2) H := hP
  have hD : va_D A ([(h0, .inr (3, [.ref q1, .int (0 : Int32), .int (0 : Int32)]))] ++ [(q1, .inl (cF, 6, .inr (.inr (.inr (.inr (va_up (va_up (va_up (va_up (fun _ => none) (0 : Int32).toNatClampNeg (some (a3 0))) (1 : Int32).toNatClampNeg (some (a5 0))) (2 : Int32).toNatClampNeg (some (a7 0))) (3 : Int32).toNatClampNeg (some (a9 0))))))))] ++ wX2 a3 cI cF i_X2 ++ wX2 a5 cI cF i_X2 ++ wX2 a7 cI cF i_X2 ++ wX2 a9 cI cF i_X2) := hD
  refine lv_iinc (v := (4 : Int32)) (lv' := [(1, .int (4 : Int32)), (0, .ref h0)]) hx hb dX3_init_47 hl (k := 0) rfl (by decide) (by decide) rfl (fun ls hl => ?_)
  refine lv_goto (tgt := 25) hx hb dX3_init_50 (by decide) ?_
  refine lv_iload_n hx hb dX3_init_25 rfl (lv_at hl 0 rfl) ?_
  refine lv_aload_n hx hb dX3_init_26 rfl (lv_at hl 1 rfl) ?_
  refine va_get (D := (dC, dI)) (ci := 3) (v := .ref q1) (C := RX3) (T := TX3) (N := 3) hx hb huX3 (fun _ h9 => h9) hown hK hP 0 rfl rfl 0 (by decide) w11 (fun _ h9 => h9) rfl dX3_init_27 ?_
  refine va_alen (v := 6) hx hb hK hP 1 1 rfl rfl rfl dX3_init_30 ?_
  refine lv_icmp_ge (tgt := 53) hx hb dX3_init_31 (by decide) (fun c9 => absurd c9 (by decide)) (fun _ => ?_)
  refine lv_aload_n hx hb dX3_init_34 rfl (lv_at hl 1 rfl) ?_
  refine va_get (D := (dC, dI)) (ci := 3) (v := .ref q1) (C := RX3) (T := TX3) (N := 3) hx hb huX3 (fun _ h9 => h9) hown hK hP 0 rfl rfl 0 (by decide) w11 (fun _ h9 => h9) rfl dX3_init_35 ?_
  refine lv_iload_n hx hb dX3_init_38 rfl (lv_at hl 0 rfl) ?_
  refine va_new (ci := 2) (fs := [.null, .null, .null, .int 0, .int 0, .int 0, .int 0, .int 0, .int 0, .int 0, .int 0, .int 0]) (C := RX2) (T := TX2) (N := 12) hx hb huX2 (fun _ h9 => h9) tyX2 tyX2_ok hown w9 wiX2 wzX2 hK hP hD hS hA rfl (fun j hj => by rcases (show j = 0 ∨ j = 1 ∨ j = 2 ∨ j = 3 ∨ j = 4 ∨ j = 5 ∨ j = 6 ∨ j = 7 ∨ j = 8 ∨ j = 9 ∨ j = 10 ∨ j = 11 by omega) with rfl | rfl | rfl | rfl | rfl | rfl | rfl | rfl | rfl | rfl | rfl | rfl <;> rfl) (by omega) (by omega) dX3_init_39 (fun q10 H hP hD hS => ?_)
  have hP : va_P (dC, dI) vwCl ([(h0, .inr (3, [.ref q1, .int (0 : Int32), .int (0 : Int32)]))] ++ [(q1, .inl (cF, 6, .inr (.inr (.inr (.inr (va_up (va_up (va_up (va_up (fun _ => none) (0 : Int32).toNatClampNeg (some (a3 0))) (1 : Int32).toNatClampNeg (some (a5 0))) (2 : Int32).toNatClampNeg (some (a7 0))) (3 : Int32).toNatClampNeg (some (a9 0))))))))] ++ wX2 a3 cI cF i_X2 ++ wX2 a5 cI cF i_X2 ++ wX2 a7 cI cF i_X2 ++ wX2 a9 cI cF i_X2 ++ [(q10, .inr (2, [.null, .null, .null, .int 0, .int 0, .int 0, .int 0, .int 0, .int 0, .int 0, .int 0, .int 0]))]) H := hP
  have hD : va_D A ([(h0, .inr (3, [.ref q1, .int (0 : Int32), .int (0 : Int32)]))] ++ [(q1, .inl (cF, 6, .inr (.inr (.inr (.inr (va_up (va_up (va_up (va_up (fun _ => none) (0 : Int32).toNatClampNeg (some (a3 0))) (1 : Int32).toNatClampNeg (some (a5 0))) (2 : Int32).toNatClampNeg (some (a7 0))) (3 : Int32).toNatClampNeg (some (a9 0))))))))] ++ wX2 a3 cI cF i_X2 ++ wX2 a5 cI cF i_X2 ++ wX2 a7 cI cF i_X2 ++ wX2 a9 cI cF i_X2 ++ [(q10, .inr (2, [.null, .null, .null, .int 0, .int 0, .int 0, .int 0, .int 0, .int 0, .int 0, .int 0, .int 0]))]) := hD
  refine lv_dup hx hb dX3_init_42 rfl ?_
  refine k_in (X := [(h0, .inr (3, [.ref q1, .int (0 : Int32), .int (0 : Int32)]))] ++ [(q1, .inl (cF, 6, .inr (.inr (.inr (.inr (va_up (va_up (va_up (va_up (fun _ => none) (0 : Int32).toNatClampNeg (some (a3 0))) (1 : Int32).toNatClampNeg (some (a5 0))) (2 : Int32).toNatClampNeg (some (a7 0))) (3 : Int32).toNatClampNeg (some (a9 0))))))))] ++ wX2 a3 cI cF i_X2 ++ wX2 a5 cI cF i_X2 ++ wX2 a7 cI cF i_X2 ++ wX2 a9 cI cF i_X2) (W9 := fun a => wX2 a cI cF i_X2) (va_runIN (As := []) (rest := [.ref q10, .int (4 : Int32), .ref q1]) ⟨hx, hb, hml, hown, hts⟩ (c_X2_init l dC dI cI cF q10 H.size) (⟨va_cnB 0 hts gX3_init_X2_init_n24 rfl rfl rfl hI.2.2.1 wzX2 (by decide +kernel) ⟨Nat.le_of_ble_eq_true rfl, Nat.le_of_ble_eq_true rfl⟩, rfl, wimX2⟩) (k_preI hI hK hP) rfl rfl hl.1 rfl (lv_room (Nat.le_of_ble_eq_true rfl)) dX3_init_43 ⟨by omega, by omega⟩) hP hD hS hA (fun a11 H locs ha hP2 hD2 hS => ?_)
  clear hP hD
  subst ha
  have hP : va_P (dC, dI) vwCl ([(h0, .inr (3, [.ref q1, .int (0 : Int32), .int (0 : Int32)]))] ++ [(q1, .inl (cF, 6, .inr (.inr (.inr (.inr (va_up (va_up (va_up (va_up (fun _ => none) (0 : Int32).toNatClampNeg (some (a3 0))) (1 : Int32).toNatClampNeg (some (a5 0))) (2 : Int32).toNatClampNeg (some (a7 0))) (3 : Int32).toNatClampNeg (some (a9 0))))))))] ++ wX2 a3 cI cF i_X2 ++ wX2 a5 cI cF i_X2 ++ wX2 a7 cI cF i_X2 ++ wX2 a9 cI cF i_X2 ++ wX2 a11 cI cF i_X2) H := hP2
  have hD : va_D A ([(h0, .inr (3, [.ref q1, .int (0 : Int32), .int (0 : Int32)]))] ++ [(q1, .inl (cF, 6, .inr (.inr (.inr (.inr (va_up (va_up (va_up (va_up (fun _ => none) (0 : Int32).toNatClampNeg (some (a3 0))) (1 : Int32).toNatClampNeg (some (a5 0))) (2 : Int32).toNatClampNeg (some (a7 0))) (3 : Int32).toNatClampNeg (some (a9 0))))))))] ++ wX2 a3 cI cF i_X2 ++ wX2 a5 cI cF i_X2 ++ wX2 a7 cI cF i_X2 ++ wX2 a9 cI cF i_X2 ++ wX2 a11 cI cF i_X2) := hD2
  clear hP2 hD2
  refine va_astq (r := (RX2, TX2, 12)) hx hb hK hP hD hS 1 1 30 2 rfl rfl rfl rfl (by unfold vp_in; decide) dX3_init_46 (fun H locs hP hD hS => ?_)
  have hP : va_P (dC, dI) vwCl ([(h0, .inr (3, [.ref q1, .int (0 : Int32), .int (0 : Int32)]))] ++ [(q1, .inl (cF, 6, .inr (.inr (.inr (.inr (va_up (va_up (va_up (va_up (va_up (fun _ => none) (0 : Int32).toNatClampNeg (some (a3 0))) (1 : Int32).toNatClampNeg (some (a5 0))) (2 : Int32).toNatClampNeg (some (a7 0))) (3 : Int32).toNatClampNeg (some (a9 0))) (4 : Int32).toNatClampNeg (some (a11 0))))))))] ++ wX2 a3 cI cF i_X2 ++ wX2 a5 cI cF i_X2 ++ wX2 a7 cI cF i_X2 ++ wX2 a9 cI cF i_X2 ++ wX2 a11 cI cF i_X2) H := hP
  have hD : va_D A ([(h0, .inr (3, [.ref q1, .int (0 : Int32), .int (0 : Int32)]))] ++ [(q1, .inl (cF, 6, .inr (.inr (.inr (.inr (va_up (va_up (va_up (va_up (va_up (fun _ => none) (0 : Int32).toNatClampNeg (some (a3 0))) (1 : Int32).toNatClampNeg (some (a5 0))) (2 : Int32).toNatClampNeg (some (a7 0))) (3 : Int32).toNatClampNeg (some (a9 0))) (4 : Int32).toNatClampNeg (some (a11 0))))))))] ++ wX2 a3 cI cF i_X2 ++ wX2 a5 cI cF i_X2 ++ wX2 a7 cI cF i_X2 ++ wX2 a9 cI cF i_X2 ++ wX2 a11 cI cF i_X2) := hD
  refine lv_iinc (v := (5 : Int32)) (lv' := [(1, .int (5 : Int32)), (0, .ref h0)]) hx hb dX3_init_47 hl (k := 0) rfl (by decide) (by decide) rfl (fun ls hl => ?_)
  refine lv_goto (tgt := 25) hx hb dX3_init_50 (by decide) ?_
  refine lv_iload_n hx hb dX3_init_25 rfl (lv_at hl 0 rfl) ?_
  refine lv_aload_n hx hb dX3_init_26 rfl (lv_at hl 1 rfl) ?_
  refine va_get (D := (dC, dI)) (ci := 3) (v := .ref q1) (C := RX3) (T := TX3) (N := 3) hx hb huX3 (fun _ h9 => h9) hown hK hP 0 rfl rfl 0 (by decide) w11 (fun _ h9 => h9) rfl dX3_init_27 ?_
  refine va_alen (v := 6) hx hb hK hP 1 1 rfl rfl rfl dX3_init_30 ?_
  refine lv_icmp_ge (tgt := 53) hx hb dX3_init_31 (by decide) (fun c9 => absurd c9 (by decide)) (fun _ => ?_)
  refine lv_aload_n hx hb dX3_init_34 rfl (lv_at hl 1 rfl) ?_
  refine va_get (D := (dC, dI)) (ci := 3) (v := .ref q1) (C := RX3) (T := TX3) (N := 3) hx hb huX3 (fun _ h9 => h9) hown hK hP 0 rfl rfl 0 (by decide) w11 (fun _ h9 => h9) rfl dX3_init_35 ?_
  refine lv_iload_n hx hb dX3_init_38 rfl (lv_at hl 0 rfl) ?_
  refine va_new (ci := 2) (fs := [.null, .null, .null, .int 0, .int 0, .int 0, .int 0, .int 0, .int 0, .int 0, .int 0, .int 0]) (C := RX2) (T := TX2) (N := 12) hx hb huX2 (fun _ h9 => h9) tyX2 tyX2_ok hown w9 wiX2 wzX2 hK hP hD hS hA rfl (fun j hj => by rcases (show j = 0 ∨ j = 1 ∨ j = 2 ∨ j = 3 ∨ j = 4 ∨ j = 5 ∨ j = 6 ∨ j = 7 ∨ j = 8 ∨ j = 9 ∨ j = 10 ∨ j = 11 by omega) with rfl | rfl | rfl | rfl | rfl | rfl | rfl | rfl | rfl | rfl | rfl | rfl <;> rfl) (by omega) (by omega) dX3_init_39 (fun q12 H hP hD hS => ?_)
  have hP : va_P (dC, dI) vwCl ([(h0, .inr (3, [.ref q1, .int (0 : Int32), .int (0 : Int32)]))] ++ [(q1, .inl (cF, 6, .inr (.inr (.inr (.inr (va_up (va_up (va_up (va_up (va_up (fun _ => none) (0 : Int32).toNatClampNeg (some (a3 0))) (1 : Int32).toNatClampNeg (some (a5 0))) (2 : Int32).toNatClampNeg (some (a7 0))) (3 : Int32).toNatClampNeg (some (a9 0))) (4 : Int32).toNatClampNeg (some (a11 0))))))))] ++ wX2 a3 cI cF i_X2 ++ wX2 a5 cI cF i_X2 ++ wX2 a7 cI cF i_X2 ++ wX2 a9 cI cF i_X2 ++ wX2 a11 cI cF i_X2 ++ [(q12, .inr (2, [.null, .null, .null, .int 0, .int 0, .int 0, .int 0, .int 0, .int 0, .int 0, .int 0, .int 0]))]) H := hP
  have hD : va_D A ([(h0, .inr (3, [.ref q1, .int (0 : Int32), .int (0 : Int32)]))] ++ [(q1, .inl (cF, 6, .inr (.inr (.inr (.inr (va_up (va_up (va_up (va_up (va_up (fun _ => none) (0 : Int32).toNatClampNeg (some (a3 0))) (1 : Int32).toNatClampNeg (some (a5 0))) (2 : Int32).toNatClampNeg (some (a7 0))) (3 : Int32).toNatClampNeg (some (a9 0))) (4 : Int32).toNatClampNeg (some (a11 0))))))))] ++ wX2 a3 cI cF i_X2 ++ wX2 a5 cI cF i_X2 ++ wX2 a7 cI cF i_X2 ++ wX2 a9 cI cF i_X2 ++ wX2 a11 cI cF i_X2 ++ [(q12, .inr (2, [.null, .null, .null, .int 0, .int 0, .int 0, .int 0, .int 0, .int 0, .int 0, .int 0, .int 0]))]) := hD
  refine lv_dup hx hb dX3_init_42 rfl ?_
  refine k_in (X := [(h0, .inr (3, [.ref q1, .int (0 : Int32), .int (0 : Int32)]))] ++ [(q1, .inl (cF, 6, .inr (.inr (.inr (.inr (va_up (va_up (va_up (va_up (va_up (fun _ => none) (0 : Int32).toNatClampNeg (some (a3 0))) (1 : Int32).toNatClampNeg (some (a5 0))) (2 : Int32).toNatClampNeg (some (a7 0))) (3 : Int32).toNatClampNeg (some (a9 0))) (4 : Int32).toNatClampNeg (some (a11 0))))))))] ++ wX2 a3 cI cF i_X2 ++ wX2 a5 cI cF i_X2 ++ wX2 a7 cI cF i_X2 ++ wX2 a9 cI cF i_X2 ++ wX2 a11 cI cF i_X2) (W9 := fun a => wX2 a cI cF i_X2) (va_runIN (As := []) (rest := [.ref q12, .int (5 : Int32), .ref q1]) ⟨hx, hb, hml, hown, hts⟩ (c_X2_init l dC dI cI cF q12 H.size) (⟨va_cnB 0 hts gX3_init_X2_init_n24 rfl rfl rfl hI.2.2.1 wzX2 (by decide +kernel) ⟨Nat.le_of_ble_eq_true rfl, Nat.le_of_ble_eq_true rfl⟩, rfl, wimX2⟩) (k_preI hI hK hP) rfl rfl hl.1 rfl (lv_room (Nat.le_of_ble_eq_true rfl)) dX3_init_43 ⟨by omega, by omega⟩) hP hD hS hA (fun a13 H locs ha hP2 hD2 hS => ?_)
  clear hP hD
  subst ha
  have hP : va_P (dC, dI) vwCl ([(h0, .inr (3, [.ref q1, .int (0 : Int32), .int (0 : Int32)]))] ++ [(q1, .inl (cF, 6, .inr (.inr (.inr (.inr (va_up (va_up (va_up (va_up (va_up (fun _ => none) (0 : Int32).toNatClampNeg (some (a3 0))) (1 : Int32).toNatClampNeg (some (a5 0))) (2 : Int32).toNatClampNeg (some (a7 0))) (3 : Int32).toNatClampNeg (some (a9 0))) (4 : Int32).toNatClampNeg (some (a11 0))))))))] ++ wX2 a3 cI cF i_X2 ++ wX2 a5 cI cF i_X2 ++ wX2 a7 cI cF i_X2 ++ wX2 a9 cI cF i_X2 ++ wX2 a11 cI cF i_X2 ++ wX2 a13 cI cF i_X2) H := hP2
  have hD : va_D A ([(h0, .inr (3, [.ref q1, .int (0 : Int32), .int (0 : Int32)]))] ++ [(q1, .inl (cF, 6, .inr (.inr (.inr (.inr (va_up (va_up (va_up (va_up (va_up (fun _ => none) (0 : Int32).toNatClampNeg (some (a3 0))) (1 : Int32).toNatClampNeg (some (a5 0))) (2 : Int32).toNatClampNeg (some (a7 0))) (3 : Int32).toNatClampNeg (some (a9 0))) (4 : Int32).toNatClampNeg (some (a11 0))))))))] ++ wX2 a3 cI cF i_X2 ++ wX2 a5 cI cF i_X2 ++ wX2 a7 cI cF i_X2 ++ wX2 a9 cI cF i_X2 ++ wX2 a11 cI cF i_X2 ++ wX2 a13 cI cF i_X2) := hD2
  clear hP2 hD2
  refine va_astq (r := (RX2, TX2, 12)) hx hb hK hP hD hS 1 1 37 2 rfl rfl rfl rfl (by unfold vp_in; decide) dX3_init_46 (fun H locs hP hD hS => ?_)
  have hP : va_P (dC, dI) vwCl ([(h0, .inr (3, [.ref q1, .int (0 : Int32), .int (0 : Int32)]))] ++ [(q1, .inl (cF, 6, .inr (.inr (.inr (.inr (va_up (va_up (va_up (va_up (va_up (va_up (fun _ => none) (0 : Int32).toNatClampNeg (some (a3 0))) (1 : Int32).toNatClampNeg (some (a5 0))) (2 : Int32).toNatClampNeg (some (a7 0))) (3 : Int32).toNatClampNeg (some (a9 0))) (4 : Int32).toNatClampNeg (some (a11 0))) (5 : Int32).toNatClampNeg (some (a13 0))))))))] ++ wX2 a3 cI cF i_X2 ++ wX2 a5 cI cF i_X2 ++ wX2 a7 cI cF i_X2 ++ wX2 a9 cI cF i_X2 ++ wX2 a11 cI cF i_X2 ++ wX2 a13 cI cF i_X2) H := hP
  have hD : va_D A ([(h0, .inr (3, [.ref q1, .int (0 : Int32), .int (0 : Int32)]))] ++ [(q1, .inl (cF, 6, .inr (.inr (.inr (.inr (va_up (va_up (va_up (va_up (va_up (va_up (fun _ => none) (0 : Int32).toNatClampNeg (some (a3 0))) (1 : Int32).toNatClampNeg (some (a5 0))) (2 : Int32).toNatClampNeg (some (a7 0))) (3 : Int32).toNatClampNeg (some (a9 0))) (4 : Int32).toNatClampNeg (some (a11 0))) (5 : Int32).toNatClampNeg (some (a13 0))))))))] ++ wX2 a3 cI cF i_X2 ++ wX2 a5 cI cF i_X2 ++ wX2 a7 cI cF i_X2 ++ wX2 a9 cI cF i_X2 ++ wX2 a11 cI cF i_X2 ++ wX2 a13 cI cF i_X2) := hD
  refine lv_iinc (v := (6 : Int32)) (lv' := [(1, .int (6 : Int32)), (0, .ref h0)]) hx hb dX3_init_47 hl (k := 0) rfl (by decide) (by decide) rfl (fun ls hl => ?_)
  refine lv_goto (tgt := 25) hx hb dX3_init_50 (by decide) ?_
  refine lv_iload_n hx hb dX3_init_25 rfl (lv_at hl 0 rfl) ?_
  refine lv_aload_n hx hb dX3_init_26 rfl (lv_at hl 1 rfl) ?_
  refine va_get (D := (dC, dI)) (ci := 3) (v := .ref q1) (C := RX3) (T := TX3) (N := 3) hx hb huX3 (fun _ h9 => h9) hown hK hP 0 rfl rfl 0 (by decide) w11 (fun _ h9 => h9) rfl dX3_init_27 ?_
  refine va_alen (v := 6) hx hb hK hP 1 1 rfl rfl rfl dX3_init_30 ?_
  refine lv_icmp_ge (tgt := 53) hx hb dX3_init_31 (by decide) (fun _ => ?_) (fun c9 => absurd (by decide) c9)
  obtain ⟨af, haf⟩ : ∃ af : Nat → Nat, af = fun i => if i < 1 then h0 else if i < 2 then q1 else if i < 9 then a3 (i - 2) else if i < 16 then a5 (i - 9) else if i < 23 then a7 (i - 16) else if i < 30 then a9 (i - 23) else if i < 37 then a11 (i - 30) else a13 (i - 37) := ⟨_, rfl⟩
  have hP : va_P (dC, dI) vwCl (wX3 af cI cF i_X3) H := by
    subst haf
    intro j z hz
    by_cases hj : j = 1
    · subst hj
      have h1 := hP 1 _ rfl
      cases hz
      refine Eq.trans h1 ?_
      refine congrArg some ?_
      show vp_cell cF (6, .inr (.inr (.inr (.inr _)))) = vp_cell cF (6, .inr (.inr (.inr (.inr _))))
      rw [vp_cell_q, vp_cell_q]
      refine arrV_congr cF 6 (fun i hi => ?_)
      rcases (show i = 0 ∨ i = 1 ∨ i = 2 ∨ i = 3 ∨ i = 4 ∨ i = 5 by omega) with rfl | rfl | rfl | rfl | rfl | rfl <;> rfl
    · exact hP j z (by rw [← hz]; rcases j with _ | _ | j
                       · rfl
                       · exact absurd rfl hj
                       · rfl)
  have hD : va_D A (wX3 af cI cF i_X3) := k_Dfst (by subst haf; rfl) hD
  refine W.widen (k := 43) (n := 2142) (by omega) (by omega) ?_
  exact W.vret hx hb hr (fun t ht hW => ⟨⟨rfl, af, by rw [haf]; rfl, by rw [ht]; exact hP, by rw [hAe]; exact hD⟩, by rw [hAe]; exact hS.F ht⟩) hS.2.2 dX3_init_53

abbrev i_X4 : S_X4 := ((fun _ => 0), (0 : Int32), (fun _ => 0), (fun _ => 0), (0 : Int32), (0 : Int32), (0 : Int32), (0 : Int32), (0 : Int32))
set_option maxHeartbeats 8000000 in
set_option maxRecDepth 100000 in
theorem c_X4_init (l : Launch) (dC : Nat → ClassId) (dI : Nat → Nat → Nat) (cI cF : ClassId) (h0 : Nat) : ∀ sz : Nat, Met l yX4_init wsX4_init ({ frames := 1, cells := 3, slots := 180, locals := 12 } : Room) (va_Pc [.ref h0] (pIN (dC, dI) cI cF (h0, .inr (4, [.null, .int 0, .null, .null, .int 0, .int 0, .int 0, .int 0, .int 0])) sz)) (qIN (dC, dI) (fun a => wX4 a cI cF i_X4) (h0, .inr (4, [.null, .int 0, .null, .null, .int 0, .int 0, .int 0, .int 0, .int 0])) sz) 3 180 (va_A [(h0, .inr (4, [.null, .int 0, .null, .null, .int 0, .int 0, .int 0, .int 0, .int 0]))] sz) := by
  intro sz
  refine Met.ofW (cc := cX4_init) (maxL := 1) (ret := none) (by decide) rfl ?_
  intro p e s m args below meth c s₁ B hml hv
  obtain ⟨hargs, hsz, hP, hK, hD0, hI⟩ := hv
  subst hargs
  have hx := B.exec
  have hb := B.bytes
  have hr := B.returns
  have hts := atoms_spec (ws := wsX4_init) B.pre
  have hown : s.vm.findClass RX4 = some m.cls := findClass_of_methodNamed B.named
  have hlocks := B.notSynchronized
  have hin : meth.name = "<init>" := (name_of_methodNamed B.named B.method).1
  have hRc : (headSpec wsX4_init ({ frames := 1, cells := 3, slots := 180, locals := 12 } : Room)).room.cells = 3 := rfl
  have hRs : (headSpec wsX4_init ({ frames := 1, cells := 3, slots := 180, locals := 12 } : Room)).room.slots = 180 := rfl
  have w15 := hts (.fieldLink RX4 15 "DrawnSlivers$SliverText" "length" "I") (List.mem_of_getElem? (i := 6) rfl)
  have w19 := hts (.fieldLink RX4 19 "DrawnSlivers$SliverText" "partWeights" "[I") (List.mem_of_getElem? (i := 7) rfl)
  have w22 := hts (.fieldLink RX4 22 "DrawnSlivers$SliverText" "partTimes" "[I") (List.mem_of_getElem? (i := 8) rfl)
  have w25 := hts (.fieldLink RX4 25 "DrawnSlivers$SliverText" "parts" "I") (List.mem_of_getElem? (i := 9) rfl)
  have w28 := hts (.fieldLink RX4 28 "DrawnSlivers$SliverText" "inTimes" "Z") (List.mem_of_getElem? (i := 10) rfl)
  have w3 := hts (.methodLink RX4 3 objectInit) (List.mem_of_getElem? (i := 1) rfl)
  have w32 := hts (.fieldLink RX4 32 "DrawnSlivers$SliverText" "digits" "I") (List.mem_of_getElem? (i := 11) rfl)
  have w35 := hts (.fieldLink RX4 35 "DrawnSlivers$SliverText" "value" "I") (List.mem_of_getElem? (i := 12) rfl)
  have w38 := hts (.fieldLink RX4 38 "DrawnSlivers$SliverText" "weight" "I") (List.mem_of_getElem? (i := 13) rfl)
  have w9 := hts (.fieldLink RX4 9 "DrawnSlivers$SliverText" "codes" "[I") (List.mem_of_getElem? (i := 5) rfl)
  have war := hts (.arrayClass .int) (List.mem_of_getElem? (i := 4) rfl)
  have woc := hts (.code objectInit ⟨#[0xb1]⟩ 1 none) (List.mem_of_getElem? (i := 3) rfl)
  have woi := hts (.instanceMethod objectInit) (List.mem_of_getElem? (i := 2) rfl)
  have huX4 : ∀ w ∈ u_ws RX4 TX4 9, w.before _ s = true := fun w h => hts w (List.mem_cons_of_mem _ (List.mem_append_right _ (h)))
  subst hsz
  have hD := hD0.self (sz := s.heap.size)
  generalize hAe : va_A [(h0, .inr (4, [.null, .int 0, .null, .null, .int 0, .int 0, .int 0, .int 0, .int 0]))] s.heap.size = A at hD ⊢
  have hA : ∀ q : Nat, s.heap.size ≤ q → A q := fun q h => by rw [← hAe]; exact Or.inr h
  have hS : va_S A s.heap s.heap [] := va_S.rf
  have hl := lv_entry ([.ref h0]) (n := 1) (Nat.le_of_ble_eq_true rfl)
  rw [lg_entry_eq]
  generalize (lg_sl ([.ref h0]) ++ List.replicate (1 - (lg_sl ([.ref h0])).length) Slot.unset).toArray = ls at hl ⊢
  have hl : lv_has ls 1 [(0, .ref h0)] := hl
  refine lv_aload_n hx hb dX4_init_0 rfl (lv_at hl 0 rfl) ?_
  refine W.objInit hx hb hown w3 woi woc rfl (by rw [hml]; exact hl.1) rfl dX4_init_1 (Nat.le_of_ble_eq_true rfl) (Nat.le_of_ble_eq_true rfl) ?_
  refine W.eq (g2 := F0 m 4 ls []) rfl ?_
  refine lv_aload_n hx hb dX4_init_4 rfl (lv_at hl 0 rfl) ?_
  refine lv_bipush (v := (60 : Int32)) hx hb dX4_init_5 (by decide) ?_
  refine k_newi hx hb war hK hP hD hS hA 60 (by decide) (by decide +kernel) (by decide) (by omega) (by omega) dX4_init_7 (fun q1 H hP hD hS => ?_)
  have hP : va_P (dC, dI) vwCl ([(h0, .inr (4, [.null, .int 0, .null, .null, .int 0, .int 0, .int 0, .int 0, .int 0]))] ++ [(q1, .inl (cI, 60, .inl (fun _ => 0)))]) H := hP
  have hD : va_D A ([(h0, .inr (4, [.null, .int 0, .null, .null, .int 0, .int 0, .int 0, .int 0, .int 0]))] ++ [(q1, .inl (cI, 60, .inl (fun _ => 0)))]) := hD
  refine va_putF (D := (dC, dI)) (ci := 4) (v := .ref q1) (ty := (.array .int)) (C := RX4) (T := TX4) (N := 9) hx hb huX4 (fun _ h9 => h9) tyX4 tyX4_ok nmX4 hown hK hP hD hS 0 rfl rfl 0 (by decide) w9 (fun _ h9 => h9) rfl hin rfl (by decide +kernel) rfl rfl (Nat.le_of_ble_eq_true rfl) dX4_init_9 (fun H locs hP hD hS => ?_)
  have hP : va_P (dC, dI) vwCl ([(h0, .inr (4, [.ref q1, .int 0, .null, .null, .int 0, .int 0, .int 0, .int 0, .int 0]))] ++ [(q1, .inl (cI, 60, .inl (fun _ => 0)))]) H := hP
  have hD : va_D A ([(h0, .inr (4, [.ref q1, .int 0, .null, .null, .int 0, .int 0, .int 0, .int 0, .int 0]))] ++ [(q1, .inl (cI, 60, .inl (fun _ => 0)))]) := hD
  refine lv_aload_n hx hb dX4_init_12 rfl (lv_at hl 0 rfl) ?_
  refine lv_iconst (v := (0 : Int32)) hx hb dX4_init_13 (by decide) ?_
  refine va_put (D := (dC, dI)) (ci := 4) (v := .int (0 : Int32)) (ty := .int) (C := RX4) (T := TX4) (N := 9) hx hb huX4 (fun _ h9 => h9) tyX4 tyX4_ok nmX4 hown hK hP hD hS 0 rfl rfl 1 (by decide) w15 (fun _ h9 => h9) rfl (by decide +kernel) rfl rfl (Nat.le_of_ble_eq_true rfl) dX4_init_14 (fun H locs hP hD hS => ?_)
  have hP : va_P (dC, dI) vwCl ([(h0, .inr (4, [.ref q1, .int (0 : Int32), .null, .null, .int 0, .int 0, .int 0, .int 0, .int 0]))] ++ [(q1, .inl (cI, 60, .inl (fun _ => 0)))]) H := hP
  have hD : va_D A ([(h0, .inr (4, [.ref q1, .int (0 : Int32), .null, .null, .int 0, .int 0, .int 0, .int 0, .int 0]))] ++ [(q1, .inl (cI, 60, .inl (fun _ => 0)))]) := hD
  refine lv_aload_n hx hb dX4_init_17 rfl (lv_at hl 0 rfl) ?_
  refine lv_bipush (v := (60 : Int32)) hx hb dX4_init_18 (by decide) ?_
  refine k_newi hx hb war hK hP hD hS hA 60 (by decide) (by decide +kernel) (by decide) (by omega) (by omega) dX4_init_20 (fun q2 H hP hD hS => ?_)
  have hP : va_P (dC, dI) vwCl ([(h0, .inr (4, [.ref q1, .int (0 : Int32), .null, .null, .int 0, .int 0, .int 0, .int 0, .int 0]))] ++ [(q1, .inl (cI, 60, .inl (fun _ => 0)))] ++ [(q2, .inl (cI, 60, .inl (fun _ => 0)))]) H := hP
  have hD : va_D A ([(h0, .inr (4, [.ref q1, .int (0 : Int32), .null, .null, .int 0, .int 0, .int 0, .int 0, .int 0]))] ++ [(q1, .inl (cI, 60, .inl (fun _ => 0)))] ++ [(q2, .inl (cI, 60, .inl (fun _ => 0)))]) := hD
  refine va_putF (D := (dC, dI)) (ci := 4) (v := .ref q2) (ty := (.array .int)) (C := RX4) (T := TX4) (N := 9) hx hb huX4 (fun _ h9 => h9) tyX4 tyX4_ok nmX4 hown hK hP hD hS 0 rfl rfl 2 (by decide) w19 (fun _ h9 => h9) rfl hin rfl (by decide +kernel) rfl rfl (Nat.le_of_ble_eq_true rfl) dX4_init_22 (fun H locs hP hD hS => ?_)
  have hP : va_P (dC, dI) vwCl ([(h0, .inr (4, [.ref q1, .int (0 : Int32), .ref q2, .null, .int 0, .int 0, .int 0, .int 0, .int 0]))] ++ [(q1, .inl (cI, 60, .inl (fun _ => 0)))] ++ [(q2, .inl (cI, 60, .inl (fun _ => 0)))]) H := hP
  have hD : va_D A ([(h0, .inr (4, [.ref q1, .int (0 : Int32), .ref q2, .null, .int 0, .int 0, .int 0, .int 0, .int 0]))] ++ [(q1, .inl (cI, 60, .inl (fun _ => 0)))] ++ [(q2, .inl (cI, 60, .inl (fun _ => 0)))]) := hD
  refine lv_aload_n hx hb dX4_init_25 rfl (lv_at hl 0 rfl) ?_
  refine lv_bipush (v := (60 : Int32)) hx hb dX4_init_26 (by decide) ?_
  refine k_newi hx hb war hK hP hD hS hA 60 (by decide) (by decide +kernel) (by decide) (by omega) (by omega) dX4_init_28 (fun q3 H hP hD hS => ?_)
  have hP : va_P (dC, dI) vwCl ([(h0, .inr (4, [.ref q1, .int (0 : Int32), .ref q2, .null, .int 0, .int 0, .int 0, .int 0, .int 0]))] ++ [(q1, .inl (cI, 60, .inl (fun _ => 0)))] ++ [(q2, .inl (cI, 60, .inl (fun _ => 0)))] ++ [(q3, .inl (cI, 60, .inl (fun _ => 0)))]) H := hP
  have hD : va_D A ([(h0, .inr (4, [.ref q1, .int (0 : Int32), .ref q2, .null, .int 0, .int 0, .int 0, .int 0, .int 0]))] ++ [(q1, .inl (cI, 60, .inl (fun _ => 0)))] ++ [(q2, .inl (cI, 60, .inl (fun _ => 0)))] ++ [(q3, .inl (cI, 60, .inl (fun _ => 0)))]) := hD
  refine va_putF (D := (dC, dI)) (ci := 4) (v := .ref q3) (ty := (.array .int)) (C := RX4) (T := TX4) (N := 9) hx hb huX4 (fun _ h9 => h9) tyX4 tyX4_ok nmX4 hown hK hP hD hS 0 rfl rfl 3 (by decide) w22 (fun _ h9 => h9) rfl hin rfl (by decide +kernel) rfl rfl (Nat.le_of_ble_eq_true rfl) dX4_init_30 (fun H locs hP hD hS => ?_)
  have hP : va_P (dC, dI) vwCl ([(h0, .inr (4, [.ref q1, .int (0 : Int32), .ref q2, .ref q3, .int 0, .int 0, .int 0, .int 0, .int 0]))] ++ [(q1, .inl (cI, 60, .inl (fun _ => 0)))] ++ [(q2, .inl (cI, 60, .inl (fun _ => 0)))] ++ [(q3, .inl (cI, 60, .inl (fun _ => 0)))]) H := hP
  have hD : va_D A ([(h0, .inr (4, [.ref q1, .int (0 : Int32), .ref q2, .ref q3, .int 0, .int 0, .int 0, .int 0, .int 0]))] ++ [(q1, .inl (cI, 60, .inl (fun _ => 0)))] ++ [(q2, .inl (cI, 60, .inl (fun _ => 0)))] ++ [(q3, .inl (cI, 60, .inl (fun _ => 0)))]) := hD
  refine lv_aload_n hx hb dX4_init_33 rfl (lv_at hl 0 rfl) ?_
  refine lv_iconst (v := (0 : Int32)) hx hb dX4_init_34 (by decide) ?_
  refine va_put (D := (dC, dI)) (ci := 4) (v := .int (0 : Int32)) (ty := .int) (C := RX4) (T := TX4) (N := 9) hx hb huX4 (fun _ h9 => h9) tyX4 tyX4_ok nmX4 hown hK hP hD hS 0 rfl rfl 4 (by decide) w25 (fun _ h9 => h9) rfl (by decide +kernel) rfl rfl (Nat.le_of_ble_eq_true rfl) dX4_init_35 (fun H locs hP hD hS => ?_)
  have hP : va_P (dC, dI) vwCl ([(h0, .inr (4, [.ref q1, .int (0 : Int32), .ref q2, .ref q3, .int (0 : Int32), .int 0, .int 0, .int 0, .int 0]))] ++ [(q1, .inl (cI, 60, .inl (fun _ => 0)))] ++ [(q2, .inl (cI, 60, .inl (fun _ => 0)))] ++ [(q3, .inl (cI, 60, .inl (fun _ => 0)))]) H := hP
  have hD : va_D A ([(h0, .inr (4, [.ref q1, .int (0 : Int32), .ref q2, .ref q3, .int (0 : Int32), .int 0, .int 0, .int 0, .int 0]))] ++ [(q1, .inl (cI, 60, .inl (fun _ => 0)))] ++ [(q2, .inl (cI, 60, .inl (fun _ => 0)))] ++ [(q3, .inl (cI, 60, .inl (fun _ => 0)))]) := hD
  refine lv_aload_n hx hb dX4_init_38 rfl (lv_at hl 0 rfl) ?_
  refine lv_iconst (v := (0 : Int32)) hx hb dX4_init_39 (by decide) ?_
  refine va_put (D := (dC, dI)) (ci := 4) (v := .int (0 : Int32)) (ty := .boolean) (C := RX4) (T := TX4) (N := 9) hx hb huX4 (fun _ h9 => h9) tyX4 tyX4_ok nmX4 hown hK hP hD hS 0 rfl rfl 5 (by decide) w28 (fun _ h9 => h9) rfl (by decide +kernel) rfl rfl (Nat.le_of_ble_eq_true rfl) dX4_init_40 (fun H locs hP hD hS => ?_)
  have hP : va_P (dC, dI) vwCl ([(h0, .inr (4, [.ref q1, .int (0 : Int32), .ref q2, .ref q3, .int (0 : Int32), .int (0 : Int32), .int 0, .int 0, .int 0]))] ++ [(q1, .inl (cI, 60, .inl (fun _ => 0)))] ++ [(q2, .inl (cI, 60, .inl (fun _ => 0)))] ++ [(q3, .inl (cI, 60, .inl (fun _ => 0)))]) H := hP
  have hD : va_D A ([(h0, .inr (4, [.ref q1, .int (0 : Int32), .ref q2, .ref q3, .int (0 : Int32), .int (0 : Int32), .int 0, .int 0, .int 0]))] ++ [(q1, .inl (cI, 60, .inl (fun _ => 0)))] ++ [(q2, .inl (cI, 60, .inl (fun _ => 0)))] ++ [(q3, .inl (cI, 60, .inl (fun _ => 0)))]) := hD
  refine lv_aload_n hx hb dX4_init_43 rfl (lv_at hl 0 rfl) ?_
  refine lv_iconst (v := (0 : Int32)) hx hb dX4_init_44 (by decide) ?_
  refine va_put (D := (dC, dI)) (ci := 4) (v := .int (0 : Int32)) (ty := .int) (C := RX4) (T := TX4) (N := 9) hx hb huX4 (fun _ h9 => h9) tyX4 tyX4_ok nmX4 hown hK hP hD hS 0 rfl rfl 6 (by decide) w32 (fun _ h9 => h9) rfl (by decide +kernel) rfl rfl (Nat.le_of_ble_eq_true rfl) dX4_init_45 (fun H locs hP hD hS => ?_)
  have hP : va_P (dC, dI) vwCl ([(h0, .inr (4, [.ref q1, .int (0 : Int32), .ref q2, .ref q3, .int (0 : Int32), .int (0 : Int32), .int (0 : Int32), .int 0, .int 0]))] ++ [(q1, .inl (cI, 60, .inl (fun _ => 0)))] ++ [(q2, .inl (cI, 60, .inl (fun _ => 0)))] ++ [(q3, .inl (cI, 60, .inl (fun _ => 0)))]) H := hP
  have hD : va_D A ([(h0, .inr (4, [.ref q1, .int (0 : Int32), .ref q2, .ref q3, .int (0 : Int32), .int (0 : Int32), .int (0 : Int32), .int 0, .int 0]))] ++ [(q1, .inl (cI, 60, .inl (fun _ => 0)))] ++ [(q2, .inl (cI, 60, .inl (fun _ => 0)))] ++ [(q3, .inl (cI, 60, .inl (fun _ => 0)))]) := hD
  refine lv_aload_n hx hb dX4_init_48 rfl (lv_at hl 0 rfl) ?_
  refine lv_iconst (v := (0 : Int32)) hx hb dX4_init_49 (by decide) ?_
  refine va_put (D := (dC, dI)) (ci := 4) (v := .int (0 : Int32)) (ty := .int) (C := RX4) (T := TX4) (N := 9) hx hb huX4 (fun _ h9 => h9) tyX4 tyX4_ok nmX4 hown hK hP hD hS 0 rfl rfl 7 (by decide) w35 (fun _ h9 => h9) rfl (by decide +kernel) rfl rfl (Nat.le_of_ble_eq_true rfl) dX4_init_50 (fun H locs hP hD hS => ?_)
  have hP : va_P (dC, dI) vwCl ([(h0, .inr (4, [.ref q1, .int (0 : Int32), .ref q2, .ref q3, .int (0 : Int32), .int (0 : Int32), .int (0 : Int32), .int (0 : Int32), .int 0]))] ++ [(q1, .inl (cI, 60, .inl (fun _ => 0)))] ++ [(q2, .inl (cI, 60, .inl (fun _ => 0)))] ++ [(q3, .inl (cI, 60, .inl (fun _ => 0)))]) H := hP
  have hD : va_D A ([(h0, .inr (4, [.ref q1, .int (0 : Int32), .ref q2, .ref q3, .int (0 : Int32), .int (0 : Int32), .int (0 : Int32), .int (0 : Int32), .int 0]))] ++ [(q1, .inl (cI, 60, .inl (fun _ => 0)))] ++ [(q2, .inl (cI, 60, .inl (fun _ => 0)))] ++ [(q3, .inl (cI, 60, .inl (fun _ => 0)))]) := hD
  refine lv_aload_n hx hb dX4_init_53 rfl (lv_at hl 0 rfl) ?_
  refine lv_iconst (v := (0 : Int32)) hx hb dX4_init_54 (by decide) ?_
  refine va_put (D := (dC, dI)) (ci := 4) (v := .int (0 : Int32)) (ty := .int) (C := RX4) (T := TX4) (N := 9) hx hb huX4 (fun _ h9 => h9) tyX4 tyX4_ok nmX4 hown hK hP hD hS 0 rfl rfl 8 (by decide) w38 (fun _ h9 => h9) rfl (by decide +kernel) rfl rfl (Nat.le_of_ble_eq_true rfl) dX4_init_55 (fun H locs hP hD hS => ?_)
  have hP : va_P (dC, dI) vwCl ([(h0, .inr (4, [.ref q1, .int (0 : Int32), .ref q2, .ref q3, .int (0 : Int32), .int (0 : Int32), .int (0 : Int32), .int (0 : Int32), .int (0 : Int32)]))] ++ [(q1, .inl (cI, 60, .inl (fun _ => 0)))] ++ [(q2, .inl (cI, 60, .inl (fun _ => 0)))] ++ [(q3, .inl (cI, 60, .inl (fun _ => 0)))]) H := hP
  have hD : va_D A ([(h0, .inr (4, [.ref q1, .int (0 : Int32), .ref q2, .ref q3, .int (0 : Int32), .int (0 : Int32), .int (0 : Int32), .int (0 : Int32), .int (0 : Int32)]))] ++ [(q1, .inl (cI, 60, .inl (fun _ => 0)))] ++ [(q2, .inl (cI, 60, .inl (fun _ => 0)))] ++ [(q3, .inl (cI, 60, .inl (fun _ => 0)))]) := hD
  obtain ⟨af, haf⟩ : ∃ af : Nat → Nat, af = fun i => if i < 1 then h0 else if i < 2 then q1 else if i < 3 then q2 else q3 := ⟨_, rfl⟩
  have hP : va_P (dC, dI) vwCl (wX4 af cI cF i_X4) H := by subst haf; exact hP
  have hD : va_D A (wX4 af cI cF i_X4) := by subst haf; exact hD
  refine W.widen (k := 3) (n := 180) (by omega) (by omega) ?_
  exact W.vret hx hb hr (fun t ht hW => ⟨⟨rfl, af, by rw [haf]; rfl, by rw [ht]; exact hP, by rw [hAe]; exact hD⟩, by rw [hAe]; exact hS.F ht⟩) hS.2.2 dX4_init_58

abbrev i_X5 : S_X5 := (i_X2, i_X2, i_X2, i_X3, i_X4, (0 : Int32))
set_option maxHeartbeats 8000000 in
set_option maxRecDepth 100000 in
theorem c_X5_init (l : Launch) (dC : Nat → ClassId) (dI : Nat → Nat → Nat) (cI cF : ClassId) (h0 : Nat) : ∀ sz : Nat, Met l yX5_init wsX5_init ({ frames := 4, cells := 69, slots := 3402, locals := 73 } : Room) (va_Pc [.ref h0] (pIN (dC, dI) cI cF (h0, .inr (5, [.null, .null, .null, .null, .null, .int 0])) sz)) (qIN (dC, dI) (fun a => wX5 a cI cF i_X5) (h0, .inr (5, [.null, .null, .null, .null, .null, .int 0])) sz) 69 3402 (va_A [(h0, .inr (5, [.null, .null, .null, .null, .null, .int 0]))] sz) := by
  intro sz
  refine Met.ofW (cc := cX5_init) (maxL := 1) (ret := none) (by decide) rfl ?_
  intro p e s m args below meth c s₁ B hml hv
  obtain ⟨hargs, hsz, hP, hK, hD0, hI⟩ := hv
  subst hargs
  have hx := B.exec
  have hb := B.bytes
  have hr := B.returns
  have hts := atoms_spec (ws := wsX5_init) B.pre
  have hown : s.vm.findClass RX5 = some m.cls := findClass_of_methodNamed B.named
  have hlocks := B.notSynchronized
  have hin : meth.name = "<init>" := (name_of_methodNamed B.named B.method).1
  have hRc : (headSpec wsX5_init ({ frames := 4, cells := 69, slots := 3402, locals := 73 } : Room)).room.cells = 69 := rfl
  have hRs : (headSpec wsX5_init ({ frames := 4, cells := 69, slots := 3402, locals := 73 } : Room)).room.slots = 3402 := rfl
  have w1 := hts (.methodLink RX5 1 objectInit) (List.mem_of_getElem? (i := 1) rfl)
  have w10 := hts (.fieldLink RX5 10 "DrawnSlivers" "frame" "LDrawnSlivers$Frame;") (List.mem_of_getElem? (i := 7) rfl)
  have w16 := hts (.fieldLink RX5 16 "DrawnSlivers" "snapshot" "LDrawnSlivers$Frame;") (List.mem_of_getElem? (i := 8) rfl)
  have w19 := hts (.fieldLink RX5 19 "DrawnSlivers" "trial" "LDrawnSlivers$Frame;") (List.mem_of_getElem? (i := 9) rfl)
  have w22 := hts (.classLink RX5 22 RX3) (List.mem_of_getElem? (i := 10) rfl)
  have w24 := hts (.methodLink RX5 24 yX3_init) (List.mem_of_getElem? (i := 51) rfl)
  have w25 := hts (.fieldLink RX5 25 "DrawnSlivers" "history" "LDrawnSlivers$History;") (List.mem_of_getElem? (i := 13) rfl)
  have w29 := hts (.classLink RX5 29 RX4) (List.mem_of_getElem? (i := 14) rfl)
  have w32 := hts (.fieldLink RX5 32 "DrawnSlivers" "text" "LDrawnSlivers$SliverText;") (List.mem_of_getElem? (i := 17) rfl)
  have w36 := hts (.fieldLink RX5 36 "DrawnSlivers" "hasSnapshot" "Z") (List.mem_of_getElem? (i := 18) rfl)
  have w7 := hts (.classLink RX5 7 RX2) (List.mem_of_getElem? (i := 4) rfl)
  have wiX2 := hts (.instantiable RX2 12) (List.mem_of_getElem? (i := 5) rfl)
  have wiX3 := hts (.instantiable RX3 3) (List.mem_of_getElem? (i := 11) rfl)
  have wiX4 := hts (.instantiable RX4 9) (List.mem_of_getElem? (i := 15) rfl)
  have wimX2 := hts (.instanceMethod yX2_init) (List.mem_of_getElem? (i := 19) rfl)
  have wimX3 := hts (.instanceMethod yX3_init) (List.mem_of_getElem? (i := 52) rfl)
  have wimX4 := hts (.instanceMethod yX4_init) (List.mem_of_getElem? (i := 59) rfl)
  have woc := hts (.code objectInit ⟨#[0xb1]⟩ 1 none) (List.mem_of_getElem? (i := 3) rfl)
  have woi := hts (.instanceMethod objectInit) (List.mem_of_getElem? (i := 2) rfl)
  have wzX2 := hts (.initialized RX2) (List.mem_of_getElem? (i := 6) rfl)
  have wzX3 := hts (.initialized RX3) (List.mem_of_getElem? (i := 12) rfl)
  have wzX4 := hts (.initialized RX4) (List.mem_of_getElem? (i := 16) rfl)
  have huX2 : ∀ w ∈ u_ws RX2 TX2 12, w.before _ s = true := fun w h => hts w (List.mem_cons_of_mem _ (List.mem_append_left _ (List.mem_append_left _ (List.mem_append_left _ (List.mem_append_left _ (List.mem_append_left _ (List.mem_append_right _ (h))))))))
  have huX3 : ∀ w ∈ u_ws RX3 TX3 3, w.before _ s = true := fun w h => hts w (List.mem_cons_of_mem _ (List.mem_append_left _ (List.mem_append_left _ (List.mem_append_left _ (List.mem_append_right _ (h))))))
  have huX4 : ∀ w ∈ u_ws RX4 TX4 9, w.before _ s = true := fun w h => hts w (List.mem_cons_of_mem _ (List.mem_append_left _ (List.mem_append_left _ (List.mem_append_right _ (h)))))
  have huX5 : ∀ w ∈ u_ws RX5 TX5 6, w.before _ s = true := fun w h => hts w (List.mem_cons_of_mem _ (List.mem_append_left _ (List.mem_append_left _ (List.mem_append_left _ (List.mem_append_left _ (List.mem_append_right _ (h)))))))
  subst hsz
  have hD := hD0.self (sz := s.heap.size)
  generalize hAe : va_A [(h0, .inr (5, [.null, .null, .null, .null, .null, .int 0]))] s.heap.size = A at hD ⊢
  have hA : ∀ q : Nat, s.heap.size ≤ q → A q := fun q h => by rw [← hAe]; exact Or.inr h
  have hS : va_S A s.heap s.heap [] := va_S.rf
  have hl := lv_entry ([.ref h0]) (n := 1) (Nat.le_of_ble_eq_true rfl)
  rw [lg_entry_eq]
  generalize (lg_sl ([.ref h0]) ++ List.replicate (1 - (lg_sl ([.ref h0])).length) Slot.unset).toArray = ls at hl ⊢
  have hl : lv_has ls 1 [(0, .ref h0)] := hl
  refine lv_aload_n hx hb dX5_init_0 rfl (lv_at hl 0 rfl) ?_
  refine W.objInit hx hb hown w1 woi woc rfl (by rw [hml]; exact hl.1) rfl dX5_init_1 (Nat.le_of_ble_eq_true rfl) (Nat.le_of_ble_eq_true rfl) ?_
  refine W.eq (g2 := F0 m 4 ls []) rfl ?_
  refine lv_aload_n hx hb dX5_init_4 rfl (lv_at hl 0 rfl) ?_
  refine va_new (ci := 2) (fs := [.null, .null, .null, .int 0, .int 0, .int 0, .int 0, .int 0, .int 0, .int 0, .int 0, .int 0]) (C := RX2) (T := TX2) (N := 12) hx hb huX2 (fun _ h9 => h9) tyX2 tyX2_ok hown w7 wiX2 wzX2 hK hP hD hS hA rfl (fun j hj => by rcases (show j = 0 ∨ j = 1 ∨ j = 2 ∨ j = 3 ∨ j = 4 ∨ j = 5 ∨ j = 6 ∨ j = 7 ∨ j = 8 ∨ j = 9 ∨ j = 10 ∨ j = 11 by omega) with rfl | rfl | rfl | rfl | rfl | rfl | rfl | rfl | rfl | rfl | rfl | rfl <;> rfl) (by omega) (by omega) dX5_init_5 (fun q1 H hP hD hS => ?_)
  have hP : va_P (dC, dI) vwCl ([(h0, .inr (5, [.null, .null, .null, .null, .null, .int 0]))] ++ [(q1, .inr (2, [.null, .null, .null, .int 0, .int 0, .int 0, .int 0, .int 0, .int 0, .int 0, .int 0, .int 0]))]) H := hP
  have hD : va_D A ([(h0, .inr (5, [.null, .null, .null, .null, .null, .int 0]))] ++ [(q1, .inr (2, [.null, .null, .null, .int 0, .int 0, .int 0, .int 0, .int 0, .int 0, .int 0, .int 0, .int 0]))]) := hD
  refine lv_dup hx hb dX5_init_8 rfl ?_
  refine k_in (X := [(h0, .inr (5, [.null, .null, .null, .null, .null, .int 0]))]) (W9 := fun a => wX2 a cI cF i_X2) (va_runIN (As := []) (rest := [.ref q1, .ref h0]) ⟨hx, hb, hml, hown, hts⟩ (c_X2_init l dC dI cI cF q1 H.size) (⟨va_cnB 0 hts gX5_init_X2_init_n9 rfl rfl rfl hI.2.2.2.1 wzX2 (by decide +kernel) ⟨Nat.le_of_ble_eq_true rfl, Nat.le_of_ble_eq_true rfl⟩, rfl, wimX2⟩) (k_preI hI hK hP) rfl rfl hl.1 rfl (lv_room (Nat.le_of_ble_eq_true rfl)) dX5_init_9 ⟨by omega, by omega⟩) hP hD hS hA (fun a2 H locs ha hP2 hD2 hS => ?_)
  clear hP hD
  subst ha
  have hP : va_P (dC, dI) vwCl ([(h0, .inr (5, [.null, .null, .null, .null, .null, .int 0]))] ++ wX2 a2 cI cF i_X2) H := hP2
  have hD : va_D A ([(h0, .inr (5, [.null, .null, .null, .null, .null, .int 0]))] ++ wX2 a2 cI cF i_X2) := hD2
  clear hP2 hD2
  refine va_putF (D := (dC, dI)) (ci := 5) (v := .ref (a2 0)) (ty := (.object "DrawnSlivers$Frame")) (C := RX5) (T := TX5) (N := 6) hx hb huX5 (fun _ h9 => h9) tyX5 tyX5_ok nmX5 hown hK hP hD hS 0 rfl rfl 0 (by decide) w10 (fun _ h9 => h9) rfl hin rfl (by decide +kernel) rfl rfl (Nat.le_of_ble_eq_true rfl) dX5_init_12 (fun H locs hP hD hS => ?_)
  have hP : va_P (dC, dI) vwCl ([(h0, .inr (5, [.ref (a2 0), .null, .null, .null, .null, .int 0]))] ++ wX2 a2 cI cF i_X2) H := hP
  have hD : va_D A ([(h0, .inr (5, [.ref (a2 0), .null, .null, .null, .null, .int 0]))] ++ wX2 a2 cI cF i_X2) := hD
  refine lv_aload_n hx hb dX5_init_15 rfl (lv_at hl 0 rfl) ?_
  refine va_new (ci := 2) (fs := [.null, .null, .null, .int 0, .int 0, .int 0, .int 0, .int 0, .int 0, .int 0, .int 0, .int 0]) (C := RX2) (T := TX2) (N := 12) hx hb huX2 (fun _ h9 => h9) tyX2 tyX2_ok hown w7 wiX2 wzX2 hK hP hD hS hA rfl (fun j hj => by rcases (show j = 0 ∨ j = 1 ∨ j = 2 ∨ j = 3 ∨ j = 4 ∨ j = 5 ∨ j = 6 ∨ j = 7 ∨ j = 8 ∨ j = 9 ∨ j = 10 ∨ j = 11 by omega) with rfl | rfl | rfl | rfl | rfl | rfl | rfl | rfl | rfl | rfl | rfl | rfl <;> rfl) (by omega) (by omega) dX5_init_16 (fun q3 H hP hD hS => ?_)
  have hP : va_P (dC, dI) vwCl ([(h0, .inr (5, [.ref (a2 0), .null, .null, .null, .null, .int 0]))] ++ wX2 a2 cI cF i_X2 ++ [(q3, .inr (2, [.null, .null, .null, .int 0, .int 0, .int 0, .int 0, .int 0, .int 0, .int 0, .int 0, .int 0]))]) H := hP
  have hD : va_D A ([(h0, .inr (5, [.ref (a2 0), .null, .null, .null, .null, .int 0]))] ++ wX2 a2 cI cF i_X2 ++ [(q3, .inr (2, [.null, .null, .null, .int 0, .int 0, .int 0, .int 0, .int 0, .int 0, .int 0, .int 0, .int 0]))]) := hD
  refine lv_dup hx hb dX5_init_19 rfl ?_
  refine k_in (X := [(h0, .inr (5, [.ref (a2 0), .null, .null, .null, .null, .int 0]))] ++ wX2 a2 cI cF i_X2) (W9 := fun a => wX2 a cI cF i_X2) (va_runIN (As := []) (rest := [.ref q3, .ref h0]) ⟨hx, hb, hml, hown, hts⟩ (c_X2_init l dC dI cI cF q3 H.size) (⟨va_cnB 0 hts gX5_init_X2_init_n9 rfl rfl rfl hI.2.2.2.1 wzX2 (by decide +kernel) ⟨Nat.le_of_ble_eq_true rfl, Nat.le_of_ble_eq_true rfl⟩, rfl, wimX2⟩) (k_preI hI hK hP) rfl rfl hl.1 rfl (lv_room (Nat.le_of_ble_eq_true rfl)) dX5_init_20 ⟨by omega, by omega⟩) hP hD hS hA (fun a4 H locs ha hP2 hD2 hS => ?_)
  clear hP hD
  subst ha
  have hP : va_P (dC, dI) vwCl ([(h0, .inr (5, [.ref (a2 0), .null, .null, .null, .null, .int 0]))] ++ wX2 a2 cI cF i_X2 ++ wX2 a4 cI cF i_X2) H := hP2
  have hD : va_D A ([(h0, .inr (5, [.ref (a2 0), .null, .null, .null, .null, .int 0]))] ++ wX2 a2 cI cF i_X2 ++ wX2 a4 cI cF i_X2) := hD2
  clear hP2 hD2
  refine va_putF (D := (dC, dI)) (ci := 5) (v := .ref (a4 0)) (ty := (.object "DrawnSlivers$Frame")) (C := RX5) (T := TX5) (N := 6) hx hb huX5 (fun _ h9 => h9) tyX5 tyX5_ok nmX5 hown hK hP hD hS 0 rfl rfl 1 (by decide) w16 (fun _ h9 => h9) rfl hin rfl (by decide +kernel) rfl rfl (Nat.le_of_ble_eq_true rfl) dX5_init_23 (fun H locs hP hD hS => ?_)
  have hP : va_P (dC, dI) vwCl ([(h0, .inr (5, [.ref (a2 0), .ref (a4 0), .null, .null, .null, .int 0]))] ++ wX2 a2 cI cF i_X2 ++ wX2 a4 cI cF i_X2) H := hP
  have hD : va_D A ([(h0, .inr (5, [.ref (a2 0), .ref (a4 0), .null, .null, .null, .int 0]))] ++ wX2 a2 cI cF i_X2 ++ wX2 a4 cI cF i_X2) := hD
  refine lv_aload_n hx hb dX5_init_26 rfl (lv_at hl 0 rfl) ?_
  refine va_new (ci := 2) (fs := [.null, .null, .null, .int 0, .int 0, .int 0, .int 0, .int 0, .int 0, .int 0, .int 0, .int 0]) (C := RX2) (T := TX2) (N := 12) hx hb huX2 (fun _ h9 => h9) tyX2 tyX2_ok hown w7 wiX2 wzX2 hK hP hD hS hA rfl (fun j hj => by rcases (show j = 0 ∨ j = 1 ∨ j = 2 ∨ j = 3 ∨ j = 4 ∨ j = 5 ∨ j = 6 ∨ j = 7 ∨ j = 8 ∨ j = 9 ∨ j = 10 ∨ j = 11 by omega) with rfl | rfl | rfl | rfl | rfl | rfl | rfl | rfl | rfl | rfl | rfl | rfl <;> rfl) (by omega) (by omega) dX5_init_27 (fun q5 H hP hD hS => ?_)
  have hP : va_P (dC, dI) vwCl ([(h0, .inr (5, [.ref (a2 0), .ref (a4 0), .null, .null, .null, .int 0]))] ++ wX2 a2 cI cF i_X2 ++ wX2 a4 cI cF i_X2 ++ [(q5, .inr (2, [.null, .null, .null, .int 0, .int 0, .int 0, .int 0, .int 0, .int 0, .int 0, .int 0, .int 0]))]) H := hP
  have hD : va_D A ([(h0, .inr (5, [.ref (a2 0), .ref (a4 0), .null, .null, .null, .int 0]))] ++ wX2 a2 cI cF i_X2 ++ wX2 a4 cI cF i_X2 ++ [(q5, .inr (2, [.null, .null, .null, .int 0, .int 0, .int 0, .int 0, .int 0, .int 0, .int 0, .int 0, .int 0]))]) := hD
  refine lv_dup hx hb dX5_init_30 rfl ?_
  refine k_in (X := [(h0, .inr (5, [.ref (a2 0), .ref (a4 0), .null, .null, .null, .int 0]))] ++ wX2 a2 cI cF i_X2 ++ wX2 a4 cI cF i_X2) (W9 := fun a => wX2 a cI cF i_X2) (va_runIN (As := []) (rest := [.ref q5, .ref h0]) ⟨hx, hb, hml, hown, hts⟩ (c_X2_init l dC dI cI cF q5 H.size) (⟨va_cnB 0 hts gX5_init_X2_init_n9 rfl rfl rfl hI.2.2.2.1 wzX2 (by decide +kernel) ⟨Nat.le_of_ble_eq_true rfl, Nat.le_of_ble_eq_true rfl⟩, rfl, wimX2⟩) (k_preI hI hK hP) rfl rfl hl.1 rfl (lv_room (Nat.le_of_ble_eq_true rfl)) dX5_init_31 ⟨by omega, by omega⟩) hP hD hS hA (fun a6 H locs ha hP2 hD2 hS => ?_)
  clear hP hD
  subst ha
  have hP : va_P (dC, dI) vwCl ([(h0, .inr (5, [.ref (a2 0), .ref (a4 0), .null, .null, .null, .int 0]))] ++ wX2 a2 cI cF i_X2 ++ wX2 a4 cI cF i_X2 ++ wX2 a6 cI cF i_X2) H := hP2
  have hD : va_D A ([(h0, .inr (5, [.ref (a2 0), .ref (a4 0), .null, .null, .null, .int 0]))] ++ wX2 a2 cI cF i_X2 ++ wX2 a4 cI cF i_X2 ++ wX2 a6 cI cF i_X2) := hD2
  clear hP2 hD2
  refine va_putF (D := (dC, dI)) (ci := 5) (v := .ref (a6 0)) (ty := (.object "DrawnSlivers$Frame")) (C := RX5) (T := TX5) (N := 6) hx hb huX5 (fun _ h9 => h9) tyX5 tyX5_ok nmX5 hown hK hP hD hS 0 rfl rfl 2 (by decide) w19 (fun _ h9 => h9) rfl hin rfl (by decide +kernel) rfl rfl (Nat.le_of_ble_eq_true rfl) dX5_init_34 (fun H locs hP hD hS => ?_)
  have hP : va_P (dC, dI) vwCl ([(h0, .inr (5, [.ref (a2 0), .ref (a4 0), .ref (a6 0), .null, .null, .int 0]))] ++ wX2 a2 cI cF i_X2 ++ wX2 a4 cI cF i_X2 ++ wX2 a6 cI cF i_X2) H := hP
  have hD : va_D A ([(h0, .inr (5, [.ref (a2 0), .ref (a4 0), .ref (a6 0), .null, .null, .int 0]))] ++ wX2 a2 cI cF i_X2 ++ wX2 a4 cI cF i_X2 ++ wX2 a6 cI cF i_X2) := hD
  refine lv_aload_n hx hb dX5_init_37 rfl (lv_at hl 0 rfl) ?_
  refine va_new (ci := 3) (fs := [.null, .int 0, .int 0]) (C := RX3) (T := TX3) (N := 3) hx hb huX3 (fun _ h9 => h9) tyX3 tyX3_ok hown w22 wiX3 wzX3 hK hP hD hS hA rfl (fun j hj => by rcases (show j = 0 ∨ j = 1 ∨ j = 2 by omega) with rfl | rfl | rfl <;> rfl) (by omega) (by omega) dX5_init_38 (fun q7 H hP hD hS => ?_)
  have hP : va_P (dC, dI) vwCl ([(h0, .inr (5, [.ref (a2 0), .ref (a4 0), .ref (a6 0), .null, .null, .int 0]))] ++ wX2 a2 cI cF i_X2 ++ wX2 a4 cI cF i_X2 ++ wX2 a6 cI cF i_X2 ++ [(q7, .inr (3, [.null, .int 0, .int 0]))]) H := hP
  have hD : va_D A ([(h0, .inr (5, [.ref (a2 0), .ref (a4 0), .ref (a6 0), .null, .null, .int 0]))] ++ wX2 a2 cI cF i_X2 ++ wX2 a4 cI cF i_X2 ++ wX2 a6 cI cF i_X2 ++ [(q7, .inr (3, [.null, .int 0, .int 0]))]) := hD
  refine lv_dup hx hb dX5_init_41 rfl ?_
  refine k_in (X := [(h0, .inr (5, [.ref (a2 0), .ref (a4 0), .ref (a6 0), .null, .null, .int 0]))] ++ wX2 a2 cI cF i_X2 ++ wX2 a4 cI cF i_X2 ++ wX2 a6 cI cF i_X2) (W9 := fun a => wX3 a cI cF i_X3) (va_runI (As := []) (rest := [.ref q7, .ref h0]) ⟨hx, hb, hml, hown, hts⟩ (c_X3_init l dC dI cI cF q7 H.size) (cwI 0 hts gX5_init_X3_init rfl rfl rfl wzX3 w24 wimX3 rfl (by decide +kernel) ⟨Nat.le_of_ble_eq_true rfl, Nat.le_of_ble_eq_true rfl⟩) (k_preI hI hK hP) rfl rfl hl.1 rfl (lv_room (Nat.le_of_ble_eq_true rfl)) dX5_init_42 ⟨by omega, by omega⟩) hP hD hS hA (fun a8 H locs ha hP2 hD2 hS => ?_)
  clear hP hD
  subst ha
  have hP : va_P (dC, dI) vwCl ([(h0, .inr (5, [.ref (a2 0), .ref (a4 0), .ref (a6 0), .null, .null, .int 0]))] ++ wX2 a2 cI cF i_X2 ++ wX2 a4 cI cF i_X2 ++ wX2 a6 cI cF i_X2 ++ wX3 a8 cI cF i_X3) H := hP2
  have hD : va_D A ([(h0, .inr (5, [.ref (a2 0), .ref (a4 0), .ref (a6 0), .null, .null, .int 0]))] ++ wX2 a2 cI cF i_X2 ++ wX2 a4 cI cF i_X2 ++ wX2 a6 cI cF i_X2 ++ wX3 a8 cI cF i_X3) := hD2
  clear hP2 hD2
  refine va_putF (D := (dC, dI)) (ci := 5) (v := .ref (a8 0)) (ty := (.object "DrawnSlivers$History")) (C := RX5) (T := TX5) (N := 6) hx hb huX5 (fun _ h9 => h9) tyX5 tyX5_ok nmX5 hown hK hP hD hS 0 rfl rfl 3 (by decide) w25 (fun _ h9 => h9) rfl hin rfl (by decide +kernel) rfl rfl (Nat.le_of_ble_eq_true rfl) dX5_init_45 (fun H locs hP hD hS => ?_)
  have hP : va_P (dC, dI) vwCl ([(h0, .inr (5, [.ref (a2 0), .ref (a4 0), .ref (a6 0), .ref (a8 0), .null, .int 0]))] ++ wX2 a2 cI cF i_X2 ++ wX2 a4 cI cF i_X2 ++ wX2 a6 cI cF i_X2 ++ wX3 a8 cI cF i_X3) H := hP
  have hD : va_D A ([(h0, .inr (5, [.ref (a2 0), .ref (a4 0), .ref (a6 0), .ref (a8 0), .null, .int 0]))] ++ wX2 a2 cI cF i_X2 ++ wX2 a4 cI cF i_X2 ++ wX2 a6 cI cF i_X2 ++ wX3 a8 cI cF i_X3) := hD
  refine lv_aload_n hx hb dX5_init_48 rfl (lv_at hl 0 rfl) ?_
  refine va_new (ci := 4) (fs := [.null, .int 0, .null, .null, .int 0, .int 0, .int 0, .int 0, .int 0]) (C := RX4) (T := TX4) (N := 9) hx hb huX4 (fun _ h9 => h9) tyX4 tyX4_ok hown w29 wiX4 wzX4 hK hP hD hS hA rfl (fun j hj => by rcases (show j = 0 ∨ j = 1 ∨ j = 2 ∨ j = 3 ∨ j = 4 ∨ j = 5 ∨ j = 6 ∨ j = 7 ∨ j = 8 by omega) with rfl | rfl | rfl | rfl | rfl | rfl | rfl | rfl | rfl <;> rfl) (by omega) (by omega) dX5_init_49 (fun q9 H hP hD hS => ?_)
  have hP : va_P (dC, dI) vwCl ([(h0, .inr (5, [.ref (a2 0), .ref (a4 0), .ref (a6 0), .ref (a8 0), .null, .int 0]))] ++ wX2 a2 cI cF i_X2 ++ wX2 a4 cI cF i_X2 ++ wX2 a6 cI cF i_X2 ++ wX3 a8 cI cF i_X3 ++ [(q9, .inr (4, [.null, .int 0, .null, .null, .int 0, .int 0, .int 0, .int 0, .int 0]))]) H := hP
  have hD : va_D A ([(h0, .inr (5, [.ref (a2 0), .ref (a4 0), .ref (a6 0), .ref (a8 0), .null, .int 0]))] ++ wX2 a2 cI cF i_X2 ++ wX2 a4 cI cF i_X2 ++ wX2 a6 cI cF i_X2 ++ wX3 a8 cI cF i_X3 ++ [(q9, .inr (4, [.null, .int 0, .null, .null, .int 0, .int 0, .int 0, .int 0, .int 0]))]) := hD
  refine lv_dup hx hb dX5_init_52 rfl ?_
  refine k_in (X := [(h0, .inr (5, [.ref (a2 0), .ref (a4 0), .ref (a6 0), .ref (a8 0), .null, .int 0]))] ++ wX2 a2 cI cF i_X2 ++ wX2 a4 cI cF i_X2 ++ wX2 a6 cI cF i_X2 ++ wX3 a8 cI cF i_X3) (W9 := fun a => wX4 a cI cF i_X4) (va_runIN (As := []) (rest := [.ref q9, .ref h0]) ⟨hx, hb, hml, hown, hts⟩ (c_X4_init l dC dI cI cF q9 H.size) (⟨va_cnB 0 hts gX5_init_X4_init_n31 rfl rfl rfl hI.2.2.2.2.1 wzX4 (by decide +kernel) ⟨Nat.le_of_ble_eq_true rfl, Nat.le_of_ble_eq_true rfl⟩, rfl, wimX4⟩) (k_preI hI hK hP) rfl rfl hl.1 rfl (lv_room (Nat.le_of_ble_eq_true rfl)) dX5_init_53 ⟨by omega, by omega⟩) hP hD hS hA (fun a10 H locs ha hP2 hD2 hS => ?_)
  clear hP hD
  subst ha
  have hP : va_P (dC, dI) vwCl ([(h0, .inr (5, [.ref (a2 0), .ref (a4 0), .ref (a6 0), .ref (a8 0), .null, .int 0]))] ++ wX2 a2 cI cF i_X2 ++ wX2 a4 cI cF i_X2 ++ wX2 a6 cI cF i_X2 ++ wX3 a8 cI cF i_X3 ++ wX4 a10 cI cF i_X4) H := hP2
  have hD : va_D A ([(h0, .inr (5, [.ref (a2 0), .ref (a4 0), .ref (a6 0), .ref (a8 0), .null, .int 0]))] ++ wX2 a2 cI cF i_X2 ++ wX2 a4 cI cF i_X2 ++ wX2 a6 cI cF i_X2 ++ wX3 a8 cI cF i_X3 ++ wX4 a10 cI cF i_X4) := hD2
  clear hP2 hD2
  refine va_putF (D := (dC, dI)) (ci := 5) (v := .ref (a10 0)) (ty := (.object "DrawnSlivers$SliverText")) (C := RX5) (T := TX5) (N := 6) hx hb huX5 (fun _ h9 => h9) tyX5 tyX5_ok nmX5 hown hK hP hD hS 0 rfl rfl 4 (by decide) w32 (fun _ h9 => h9) rfl hin rfl (by decide +kernel) rfl rfl (Nat.le_of_ble_eq_true rfl) dX5_init_56 (fun H locs hP hD hS => ?_)
  have hP : va_P (dC, dI) vwCl ([(h0, .inr (5, [.ref (a2 0), .ref (a4 0), .ref (a6 0), .ref (a8 0), .ref (a10 0), .int 0]))] ++ wX2 a2 cI cF i_X2 ++ wX2 a4 cI cF i_X2 ++ wX2 a6 cI cF i_X2 ++ wX3 a8 cI cF i_X3 ++ wX4 a10 cI cF i_X4) H := hP
  have hD : va_D A ([(h0, .inr (5, [.ref (a2 0), .ref (a4 0), .ref (a6 0), .ref (a8 0), .ref (a10 0), .int 0]))] ++ wX2 a2 cI cF i_X2 ++ wX2 a4 cI cF i_X2 ++ wX2 a6 cI cF i_X2 ++ wX3 a8 cI cF i_X3 ++ wX4 a10 cI cF i_X4) := hD
  refine lv_aload_n hx hb dX5_init_59 rfl (lv_at hl 0 rfl) ?_
  refine lv_iconst (v := (0 : Int32)) hx hb dX5_init_60 (by decide) ?_
  refine va_put (D := (dC, dI)) (ci := 5) (v := .int (0 : Int32)) (ty := .boolean) (C := RX5) (T := TX5) (N := 6) hx hb huX5 (fun _ h9 => h9) tyX5 tyX5_ok nmX5 hown hK hP hD hS 0 rfl rfl 5 (by decide) w36 (fun _ h9 => h9) rfl (by decide +kernel) rfl rfl (Nat.le_of_ble_eq_true rfl) dX5_init_61 (fun H locs hP hD hS => ?_)
  have hP : va_P (dC, dI) vwCl ([(h0, .inr (5, [.ref (a2 0), .ref (a4 0), .ref (a6 0), .ref (a8 0), .ref (a10 0), .int (0 : Int32)]))] ++ wX2 a2 cI cF i_X2 ++ wX2 a4 cI cF i_X2 ++ wX2 a6 cI cF i_X2 ++ wX3 a8 cI cF i_X3 ++ wX4 a10 cI cF i_X4) H := hP
  have hD : va_D A ([(h0, .inr (5, [.ref (a2 0), .ref (a4 0), .ref (a6 0), .ref (a8 0), .ref (a10 0), .int (0 : Int32)]))] ++ wX2 a2 cI cF i_X2 ++ wX2 a4 cI cF i_X2 ++ wX2 a6 cI cF i_X2 ++ wX3 a8 cI cF i_X3 ++ wX4 a10 cI cF i_X4) := hD
  obtain ⟨af, haf⟩ : ∃ af : Nat → Nat, af = fun i => if i < 1 then h0 else if i < 8 then a2 (i - 1) else if i < 15 then a4 (i - 8) else if i < 22 then a6 (i - 15) else if i < 26 then a10 (i - 22) else a8 (i - 26) := ⟨_, rfl⟩
  have hP := k_swP hP
  have hD := k_swD hD
  have h09 : a2 0 = af 1 := by subst haf; rfl
  have h19 : a4 0 = af 8 := by subst haf; rfl
  have h29 : a6 0 = af 15 := by subst haf; rfl
  have h39 : a10 0 = af 22 := by subst haf; rfl
  have h49 : a8 0 = af 26 := by subst haf; rfl
  have h59 : h0 = af 0 := by subst haf; rfl
  rw [eX2 a2 (fun i => af (i + 1)) cI cF i_X2 (fun i hi => by subst haf; dsimp only; rw [if_neg (by omega), if_pos (by omega), Nat.add_sub_cancel])] at hP hD
  rw [eX2 a4 (fun i => af (i + 8)) cI cF i_X2 (fun i hi => by subst haf; dsimp only; rw [if_neg (by omega), if_neg (by omega), if_pos (by omega), Nat.add_sub_cancel])] at hP hD
  rw [eX2 a6 (fun i => af (i + 15)) cI cF i_X2 (fun i hi => by subst haf; dsimp only; rw [if_neg (by omega), if_neg (by omega), if_neg (by omega), if_pos (by omega), Nat.add_sub_cancel])] at hP hD
  rw [eX4 a10 (fun i => af (i + 22)) cI cF i_X4 (fun i hi => by subst haf; dsimp only; rw [if_neg (by omega), if_neg (by omega), if_neg (by omega), if_neg (by omega), if_pos (by omega), Nat.add_sub_cancel])] at hP hD
  rw [eX3 a8 (fun i => af (i + 26)) cI cF i_X3 (fun i => by subst haf; dsimp only; rw [if_neg (by omega), if_neg (by omega), if_neg (by omega), if_neg (by omega), if_neg (by omega), Nat.add_sub_cancel])] at hP hD
  rw [h09, h19, h29, h39, h49, h59] at hP hD
  have hP : va_P (dC, dI) vwCl (wX5 af cI cF i_X5) H := hP
  have hD : va_D A (wX5 af cI cF i_X5) := hD
  refine W.widen (k := 69) (n := 3402) (by omega) (by omega) ?_
  exact W.vret hx hb hr (fun t ht hW => ⟨⟨rfl, af, by rw [haf]; rfl, by rw [ht]; exact hP, by rw [hAe]; exact hD⟩, by rw [hAe]; exact hS.F ht⟩) hS.2.2 dX5_init_64
