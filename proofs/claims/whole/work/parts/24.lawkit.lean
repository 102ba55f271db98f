/-! what the law's own walks need: calls of methods that throw, handlers, its two rows of one place -/
abbrev tysL (cI cF cL cD : ClassId) : List (ClassId × FieldType) := [(cI, .int), (cF, .object RX2), (cL, .long), (cD, .double)]
def wLA (a : Nat → Nat) (cL : ClassId) (O : Nat → Int64) : va_W := [(a 0, .inl (cL, 1, .inr (.inl O)))]
def wDA (a : Nat → Nat) (cD : ClassId) (O : Nat → UInt64) : va_W := [(a 0, .inl (cD, 1, .inr (.inr (.inr (.inl O)))))]
def o_S {ξ α β : Type} (r : ξ ⊕ α) (f : α → Option β) (g : ξ → Option β) : Option β := match r with
  | .inr u => f u
  | .inl e => g e
def xN (U : State) : Prop := va_Nc "java/lang/IllegalArgumentException" "java/lang/IndexOutOfBoundsException" U ∧ va_Nc "java/lang/IllegalStateException" "java/lang/IndexOutOfBoundsException" U ∧ va_Nc "java/lang/IllegalStateException" "java/lang/IllegalArgumentException" U
abbrev pRWL (D : va_G) (cI cF cL cD : ClassId) (w : va_W) (sz : Nat) : State → Prop := fun U => (U.heap.size = sz ∧ va_P D vwCl w U.heap ∧ va_K D vwCl (tysL cI cF cL cD) U ∧ va_D (fun _ => True) w) ∧ xE (va_A w sz) U.heap U ∧ xN U
theorem k_tysU {D : va_G} {cI cF cL cD : ClassId} {U : State} (h : va_K D vwCl (tysL cI cF cL cD) U) : va_K D vwCl (tysU cI cF) U := h.sub [0, 1] rfl
section LK
variable {p : Program} {l : Launch} {e : Env} {R : Room} {s : State} {m : MethodId} {args : Array Value} {below : List Frame} {meth : Method} {c : Code} {H : Heap} {locs : List Loc} {cells slots : Nat} {Q : State → Prop}
variable {pc : Nat} {ls : Array Slot} {rest st0 st1 : List Value} {a : Array Value} {A : Nat → Prop} {H0 : Heap} {v : Option Value} {D : va_G} {cI cF cL cD : ClassId}
theorem k_merge {wc wc' wo wn : va_W} {H1 : Heap} {L : List Loc} (hP : va_P D vwCl wo H) (hD : va_D A wo) (hS : va_S A H0 H locs) (hA : ∀ q, H0.size ≤ q → A q) (is : List Nat) (hwc : is.map (fun i => wo[i]?) = wc.map some) (hnd : va_nd is = true) (hwn : k_put wo is wc' = wn) (hlen : wc'.length = is.length) (hfst : wn.map Prod.fst = wo.map Prod.fst)
    (hp : va_P D vwCl wc' H1) (hz : H.size ≤ H1.size) (hk : ∀ q : Nat, q < H.size → ¬ va_A wc H.size q → H1[q]? = H[q]?) (hL : ∀ z ∈ L, va_A wc H.size z.base) : va_P D vwCl wn H1 ∧ va_D A wn ∧ va_S A H0 H1 (locs ++ L) := by
  subst hwn
  have hFc := va_free hD hS hA is hwc
  refine ⟨?_, k_Dfst hfst hD, ⟨Nat.le_trans hS.1 hz, fun q h1 h2 => by rw [hk q (Nat.lt_of_lt_of_le h1 hS.1) (fun z => h2 (hFc q z))]; exact hS.2.1 q h1 h2, fun q hq => ?_⟩⟩
  · intro j q hq
    by_cases hj : j ∈ is
    · obtain ⟨k, -, h2⟩ := k_put_in is wc' wo j q hj hnd hlen hq
      exact hp k q h2
    · rw [k_put_out is wc' wo j hj] at hq
      have hlt := (hP j q hq).lt
      refine (hP j q hq).kept (hk q.1 hlt (fun h => ?_))
      rcases h with ⟨k, e9, h⟩ | h
      · have h1 : (is.map (fun i => wo[i]?))[k]? = some (some (q.1, e9)) := by rw [hwc, List.getElem?_map, h]; rfl
        rw [List.getElem?_map] at h1
        cases hi : is[k]? with
        | none => rw [hi] at h1; cases h1
        | some i =>
          rw [hi] at h1
          have hij := hD.1 j i q (q.1, e9) hq (Option.some.inj h1) rfl
          subst hij
          exact hj (List.mem_of_getElem? hi)
      · omega
  · rcases List.mem_append.mp hq with h | h
    · exact hS.2.2 q h
    · exact hFc _ (hL q h)
theorem k_thr {wc wc' wo wn : va_W} {E0 : String} (hr : vx_Run p l e R s m args below meth c H locs cells slots 1 6 (F0 m pc ls st0) rest (fun _ _ _ => False) (qX D wc' E0 (va_A wc H.size)) (va_A wc H.size))
    (hP : va_P D vwCl wo H) (hD : va_D A wo) (hS : va_S A H0 H locs) (hA : ∀ q, H0.size ≤ q → A q) (is : List Nat) (hwc : is.map (fun i => wo[i]?) = wc.map some) (hnd : va_nd is = true) (hwn : k_put wo is wc' = wn) (hlen : wc'.length = is.length) (hfst : wn.map Prod.fst = wo.map Prod.fst)
    (kx : ∀ (ce : Cell) (q9 : Addr) (H1 : Heap) (locs1 : List Loc), va_P D vwCl wn H1 → va_D A wn → va_S A H0 H1 locs1 → H1[q9]? = some ce → ce.vm = .none → s.vm.findClass E0 = some ce.cls → vx_W p l e R s m args below meth c H1 locs1 (cells + 1) (slots + 6) Q (F0 m pc ls rest) q9) : W p l e R s m args below meth c H locs cells slots Q (F0 m pc ls st0) := by
  intro T hT X
  rcases hr T hT X with ⟨v, st₀, t, T', L, h0, X', hL, e1, e2, hf, st⟩ | ⟨q, st₀, t, T', L, E, ce, h0, X', hL, e1, e2, ⟨⟨hE, hp⟩, hz, hk⟩, hce, hcv, hcl, st⟩
  · exact hf.elim
  · subst hE
    rw [h0] at hz hk
    obtain ⟨k1, k2, k3⟩ := k_merge (H1 := T'.heap) hP hD hS hA is hwc hnd hwn hlen hfst (by rw [e1]; exact hp) (by rw [e1]; exact hz) (by rw [e1]; exact hk) hL
    obtain ⟨t2, a1, b1⟩ := kx ce q T'.heap (locs ++ L) k1 k2 k3 (by rw [e1]; exact hce) hcv hcl T' rfl X'
    exact ⟨t2, st.trans a1, b1⟩
theorem k_rwx {mc ms : Nat} {wc wc' wo wn : va_W} (hr : vx_Run p l e R s m args below meth c H locs cells slots mc ms (F0 m pc ls st0) rest (qRW D wc' v (va_A wc H.size) a) (fun _ _ _ => False) (va_A wc H.size)) (hst1 : v.toList ++ rest = st1)
    (hP : va_P D vwCl wo H) (hD : va_D A wo) (hS : va_S A H0 H locs) (hA : ∀ q, H0.size ≤ q → A q) (is : List Nat) (hwc : is.map (fun i => wo[i]?) = wc.map some) (hnd : va_nd is = true) (hwn : k_put wo is wc' = wn) (hlen : wc'.length = is.length) (hfst : wn.map Prod.fst = wo.map Prod.fst)
    (kk : ∀ (H1 : Heap) (locs1 : List Loc), va_P D vwCl wn H1 → va_D A wn → va_S A H0 H1 locs1 → W p l e R s m args below meth c H1 locs1 (cells + mc) (slots + ms) Q (F0 m (pc + 3) ls st1)) : W p l e R s m args below meth c H locs cells slots Q (F0 m pc ls st0) := by
  subst hst1
  intro T hT X
  rcases hr T hT X with ⟨v', st₀, t, T', L, h0, X', hL, e1, e2, ⟨⟨hv, hp⟩, hz, hk⟩, st⟩ | ⟨q, st₀, t, T', L, E, ce, h0, X', hL, e1, e2, hE, hce, hcv, hcl, st⟩
  · cases hv
    rw [h0] at hz hk
    obtain ⟨k1, k2, k3⟩ := k_merge (H1 := T'.heap) hP hD hS hA is hwc hnd hwn hlen hfst (by rw [e1]; exact hp) (by rw [e1]; exact hz) (by rw [e1]; exact hk) hL
    obtain ⟨t2, a1, b1⟩ := kk T'.heap (locs ++ L) k1 k2 k3 T' rfl X'
    exact ⟨t2, st t2 a1, b1⟩
  · exact hE.elim
theorem k_wsub {wo w : va_W} {is : List Nat} (hwc : is.map (fun i => wo[i]?) = w.map some) : is.filterMap (fun i => wo[i]?) = w := by
  have h1 : is.filterMap (fun i => wo[i]?) = (is.map (fun i => wo[i]?)).filterMap id := by rw [List.filterMap_map]; rfl
  rw [h1, hwc, List.filterMap_map]
  simp
theorem k_preVwe {C : String} {b : Nat} {As : List Value} {w wo : va_W} {q0 ci : Nat} {q : vw_C} {fs : List Value} (hE : xE A s.heap s) (hS : va_S A s.heap H locs) (hA : ∀ q, s.heap.size ≤ q → A q) (hK : va_K D vwCl (tysU cI cF) s) (hP : va_P D vwCl wo H) (hD : va_D A wo) (is : List Nat) (hwc : is.map (fun i => wo[i]?) = w.map some) (hnd : va_nd is = true) (hc : vwCl[ci]? = some q) (hC : q.1 = C) (he : w[q0]? = some (b, .inr (ci, fs))) : PreV s H C b (va_Pc (.ref b :: As) (pRWe D cI cF w H.size)) As := by
  subst hC
  have hPc : va_P D vwCl w H := hP.sub is (k_wsub hwc)
  refine ⟨fun a U g mk z => ?_, va_recv hK hPc hc he, fun U hU hW => ⟨rfl, ⟨by rw [hU], by rw [hU]; exact hPc, va_K.moved hW.alike hK, (hD.sub is hnd hwc).weaken (fun _ _ _ _ => trivial)⟩, ?_⟩⟩
  · obtain ⟨z0, ⟨z1, zP, zK, zD⟩, zE⟩ := z
    exact ⟨z0, ⟨z1, zP, va_K.moved (u := U) (U := U.calling g mk a) (Vm.Alike.refl U.vm) zK, zD⟩, zE.calling g mk a⟩
  · rw [hU]
    exact xE.to hW hS.2.1 (va_free hD hS hA is hwc) hE
theorem k_preSL {As : List Value} {w wo : va_W} (hE : xE A s.heap s) (hN : xN s) (hS : va_S A s.heap H locs) (hA : ∀ q, s.heap.size ≤ q → A q) (hK : va_K D vwCl (tysL cI cF cL cD) s) (hP : va_P D vwCl wo H) (hD : va_D A wo) (is : List Nat) (hwc : is.map (fun i => wo[i]?) = w.map some) (hnd : va_nd is = true) : PreS s H (va_Pc As (pRWL D cI cF cL cD w H.size)) As := by
  have hPc : va_P D vwCl w H := hP.sub is (k_wsub hwc)
  refine ⟨fun a U g mk z => ?_, fun U hU hW => ⟨rfl, ⟨by rw [hU], by rw [hU]; exact hPc, va_K.moved hW.alike hK, (hD.sub is hnd hwc).weaken (fun _ _ _ _ => trivial)⟩, ?_, hN.1.moved hW.alike, hN.2.1.moved hW.alike, hN.2.2.moved hW.alike⟩⟩
  · obtain ⟨z0, ⟨z1, zP, zK, zD⟩, zE, zN⟩ := z
    exact ⟨z0, ⟨z1, zP, va_K.moved (u := U) (U := U.calling g mk a) (Vm.Alike.refl U.vm) zK, zD⟩, zE.calling g mk a, zN⟩
  · rw [hU]
    exact xE.to hW hS.2.1 (va_free hD hS hA is hwc) hE
end LK
