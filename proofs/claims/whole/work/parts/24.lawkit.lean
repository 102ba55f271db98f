/-! what the law's own walks need: calls of methods that throw, handlers, its two rows of one place -/
abbrev tysL (cI cF cL cD : ClassId) : List (ClassId × FieldType) := [(cI, .int), (cF, .object RX2), (cL, .long), (cD, .double)]
def wLA (a : Nat → Nat) (cL : ClassId) (O : Nat → Int64) : va_W := [(a 0, .inl (cL, 1, .inr (.inl O)))]
def wDA (a : Nat → Nat) (cD : ClassId) (O : Nat → UInt64) : va_W := [(a 0, .inl (cD, 1, .inr (.inr (.inr (.inl O)))))]
theorem LN_LA (X : va_W) (b : Nat → Nat) (cL : ClassId) (O O' : Nat → Int64) : LN (X ++ wLA b cL O) [(b 0, .inl (cL, 1, .inr (.inl O)))] (X ++ wLA b cL O') [(b 0, .inl (cL, 1, .inr (.inl O')))] := LN_r (LN_id rfl)
theorem LN_DA (X : va_W) (b : Nat → Nat) (cD : ClassId) (O O' : Nat → UInt64) : LN (X ++ wDA b cD O) [(b 0, .inl (cD, 1, .inr (.inr (.inr (.inl O)))))] (X ++ wDA b cD O') [(b 0, .inl (cD, 1, .inr (.inr (.inr (.inl O')))))] := LN_r (LN_id rfl)
def o_S {ξ α β : Type} (r : ξ ⊕ α) (f : α → Option β) (g : ξ → Option β) : Option β := match r with
  | .inr u => f u
  | .inl e => g e
def xN (U : State) : Prop := va_Nc "java/lang/IllegalArgumentException" "java/lang/IndexOutOfBoundsException" U ∧ va_Nc "java/lang/IllegalStateException" "java/lang/IndexOutOfBoundsException" U ∧ va_Nc "java/lang/IllegalStateException" "java/lang/IllegalArgumentException" U
abbrev pRWL (D : va_G) (cI cF cL cD : ClassId) (w : va_W) (sz : Nat) : State → Prop := fun U => (U.heap.size = sz ∧ va_P D vwCl w U.heap ∧ va_K D vwCl (tysL cI cF cL cD) U ∧ va_D (fun _ => True) w) ∧ xE (va_A w sz) U.heap U ∧ xN U
theorem k_tysU {D : va_G} {cI cF cL cD : ClassId} {U : State} (h : va_K D vwCl (tysL cI cF cL cD) U) : va_K D vwCl (tysU cI cF) U := h.sub [0, 1] rfl
section LK
variable {p : Program} {l : Launch} {e : Env} {R : Room} {s : State} {m : MethodId} {args : Array Value} {below : List Frame} {meth : Method} {c : Code} {H : Heap} {locs : List Loc} {cells slots : Nat} {Q : State → Prop}
variable {pc : Nat} {ls : Array Slot} {rest st0 st1 : List Value} {a : Array Value} {A : Nat → Prop} {H0 : Heap} {v : Option Value} {D : va_G} {cI cF cL cD : ClassId}
theorem k_thr {wc wc' wo wn : va_W} {E0 : String} (hr : vx_Run p l e R s m args below meth c H locs cells slots 1 6 (F0 m pc ls st0) rest (fun _ _ _ => False) (qX D wc' E0 (va_A wc H.size)) (va_A wc H.size))
    (hP : va_P D vwCl wo H) (hD : va_D A wo) (hS : va_S A H0 H locs) (hA : ∀ q, H0.size ≤ q → A q) (hLn : LN wo wc wn wc')
    (kx : ∀ (ce : Cell) (q9 : Addr) (H1 : Heap) (locs1 : List Loc), va_P D vwCl wn H1 → va_D A wn → va_S A H0 H1 locs1 → H1[q9]? = some ce → ce.vm = .none → s.vm.findClass E0 = some ce.cls → vx_W p l e R s m args below meth c H1 locs1 (cells + 1) (slots + 6) Q (F0 m pc ls rest) q9) : W p l e R s m args below meth c H locs cells slots Q (F0 m pc ls st0) := by
  intro T hT X
  rcases hr T hT X with ⟨v, st₀, t, T', L, h0, X', hL, e1, e2, hf, st⟩ | ⟨q, st₀, t, T', L, E, ce, h0, X', hL, e1, e2, ⟨⟨hE, hp⟩, hz, hk⟩, hce, hcv, hcl, st⟩
  · exact hf.elim
  · subst hE
    rw [h0] at hz hk
    obtain ⟨k1, k2, k3⟩ := hLn.merge (H1 := T'.heap) (L := L) hP hD hS hA (by rw [e1]; exact hp) (by rw [e1]; exact hz) (by rw [e1]; exact hk) hL
    obtain ⟨t2, a1, b1⟩ := kx ce q T'.heap (locs ++ L) k1 k2 k3 (by rw [e1]; exact hce) hcv hcl T' rfl X'
    exact ⟨t2, st.trans a1, b1⟩
theorem k_rwx {mc ms : Nat} {wc wc' wo wn : va_W} (hr : vx_Run p l e R s m args below meth c H locs cells slots mc ms (F0 m pc ls st0) rest (qRW D wc' v (va_A wc H.size) a) (fun _ _ _ => False) (va_A wc H.size)) (hst1 : v.toList ++ rest = st1)
    (hP : va_P D vwCl wo H) (hD : va_D A wo) (hS : va_S A H0 H locs) (hA : ∀ q, H0.size ≤ q → A q) (hLn : LN wo wc wn wc')
    (kk : ∀ (H1 : Heap) (locs1 : List Loc), va_P D vwCl wn H1 → va_D A wn → va_S A H0 H1 locs1 → W p l e R s m args below meth c H1 locs1 (cells + mc) (slots + ms) Q (F0 m (pc + 3) ls st1)) : W p l e R s m args below meth c H locs cells slots Q (F0 m pc ls st0) := by
  subst hst1
  intro T hT X
  rcases hr T hT X with ⟨v', st₀, t, T', L, h0, X', hL, e1, e2, ⟨⟨hv, hp⟩, hz, hk⟩, st⟩ | ⟨q, st₀, t, T', L, E, ce, h0, X', hL, e1, e2, hE, hce, hcv, hcl, st⟩
  · cases hv
    rw [h0] at hz hk
    obtain ⟨k1, k2, k3⟩ := hLn.merge (H1 := T'.heap) (L := L) hP hD hS hA (by rw [e1]; exact hp) (by rw [e1]; exact hz) (by rw [e1]; exact hk) hL
    obtain ⟨t2, a1, b1⟩ := kk T'.heap (locs ++ L) k1 k2 k3 T' rfl X'
    exact ⟨t2, st t2 a1, b1⟩
  · exact hE.elim
theorem k_preSL {As : List Value} {w wo wn w' : va_W} (hE : xE A s.heap s) (hN : xN s) (hS : va_S A s.heap H locs) (hA : ∀ q, s.heap.size ≤ q → A q) (hK : va_K D vwCl (tysL cI cF cL cD) s) (hP : va_P D vwCl wo H) (hD : va_D A wo) (hL : LN wo w wn w') : PreS s H (va_Pc As (pRWL D cI cF cL cD w H.size)) As := by
  refine ⟨fun a U g mk z => ?_, fun U hU hW => ⟨rfl, ⟨by rw [hU], by rw [hU]; exact hL.P hP, va_K.moved hW.alike hK, (hL.D hD).weaken (fun _ _ _ _ => trivial)⟩, ?_, hN.1.moved hW.alike, hN.2.1.moved hW.alike, hN.2.2.moved hW.alike⟩⟩
  · obtain ⟨z0, ⟨z1, zP, zK, zD⟩, zE, zN⟩ := z
    exact ⟨z0, ⟨z1, zP, va_K.moved (u := U) (U := U.calling g mk a) (Vm.Alike.refl U.vm) zK, zD⟩, zE.calling g mk a, zN⟩
  · rw [hU]
    exact xE.to hW hS.2.1 (hL.free hD hS hA) hE
end LK
