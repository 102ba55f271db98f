/-! what the walks of all methods share: the shallow functions' steps (o_), contracts that read alone (cRO) or write (cRW), calls of them -/
theorem o_t {α : Type} {C : Prop} [Decidable C] {a b : Option α} {u : α} (h : (if C then a else b) = some u) (c : C) : a = some u := by rw [if_pos c] at h; exact h
theorem o_f {α : Type} {C : Prop} [Decidable C] {a b : Option α} {u : α} (h : (if C then a else b) = some u) (c : ¬ C) : b = some u := by rw [if_neg c] at h; exact h
theorem o_in {α : Type} {C : Prop} [Decidable C] {b : Option α} {u : α} (h : (if C then none else b) = some u) : ¬ C ∧ b = some u := by
  by_cases c : C
  · rw [if_pos c] at h; cases h
  · rw [if_neg c] at h; exact ⟨c, h⟩
theorem o_ok {α : Type} {C : Prop} [Decidable C] {b : Option α} {u : α} (h : (if C then b else none) = some u) : C ∧ b = some u := by
  by_cases c : C
  · rw [if_pos c] at h; exact ⟨c, h⟩
  · rw [if_neg c] at h; cases h
theorem o_b {α β : Type} {x : Option α} {f : α → Option β} {u : β} (h : x.bind f = some u) : ∃ v, x = some v ∧ f v = some u := by
  cases x with
  | none => cases h
  | some v => exact ⟨v, rfl, h⟩
def nmL {α β : Type} (a : α) (f : α → Option β) : Option β := f a
theorem o_n {α β : Type} {a : α} {f : α → Option β} {u : β} (h : nmL a f = some u) : ∃ x, x = a ∧ f x = some u := ⟨a, rfl, h⟩
theorem o_0 {α : Type} {u : α} (h : (none : Option α) = some u) : False := by cases h
abbrev tysU (cI cF : ClassId) : List (ClassId × FieldType) := [(cI, .int), (cF, .object RX2)]
abbrev qRO (v : Option Value) : Array Value → State → Outcome → State → Prop := fun _ st o t => o = .returned v ∧ t.heap = st.heap
abbrev qRW (D : va_G) (w' : va_W) (v : Option Value) (A : Nat → Prop) : Array Value → State → Outcome → State → Prop := fun _ st o t => (o = .returned v ∧ va_P D vwCl w' t.heap) ∧ va_F A st t
abbrev pRO (D : va_G) (cI cF : ClassId) (w : va_W) : State → Prop := fun U => va_P D vwCl w U.heap ∧ va_K D vwCl (tysU cI cF) U
abbrev pRW (D : va_G) (cI cF : ClassId) (w : va_W) (sz : Nat) : State → Prop := fun U => U.heap.size = sz ∧ va_P D vwCl w U.heap ∧ va_K D vwCl (tysU cI cF) U ∧ va_D (fun _ => True) w
abbrev cRO (l : Launch) (D : va_G) (cI cF : ClassId) (y : MethodName) (ws : List Cond) (rm : Room) (As : List Value) (w : va_W) (v : Option Value) : Prop :=
  Met l y ws rm (va_Pc As (pRO D cI cF w)) (qRO v) 0 0 (fun _ => False)
abbrev cRW (l : Launch) (D : va_G) (cI cF : ClassId) (y : MethodName) (ws : List Cond) (rm : Room) (As : List Value) (w w' : va_W) (v : Option Value) : Prop :=
  ∀ sz : Nat, Met l y ws rm (va_Pc As (pRW D cI cF w sz)) (qRW D w' v (va_A w sz)) 0 0 (va_A w sz)
/-- a contract without a world: static functions of numbers -/
abbrev cPU (l : Launch) (y : MethodName) (ws : List Cond) (rm : Room) (As : List Value) (v : Option Value) : Prop :=
  Met l y ws rm (va_Pc As (fun _ => True)) (qRO v) 0 0 (fun _ => False)
def k_put : va_W → List Nat → va_W → va_W
  | ws, i :: is, c :: cs => k_put (ws.set i c) is cs
  | ws, [], _ => ws
  | ws, _ :: _, [] => ws
theorem k_put_out : ∀ (is : List Nat) (cs ws : va_W) (j : Nat), j ∉ is → (k_put ws is cs)[j]? = ws[j]?
  | [], _, _, _, _ => by unfold k_put; rfl
  | _ :: _, [], _, _, _ => by unfold k_put; rfl
  | i :: is, c :: cs, ws, j, h => by
    have h1 : j ≠ i := fun e => h (by rw [e]; exact List.mem_cons_self)
    have h2 : j ∉ is := fun e => h (List.mem_cons_of_mem _ e)
    show (k_put (ws.set i c) is cs)[j]? = _
    rw [k_put_out is cs _ j h2, List.getElem?_set_ne (Ne.symm h1)]
theorem k_put_in : ∀ (is : List Nat) (cs ws : va_W) (j : Nat) (q : Nat × va_E), j ∈ is → va_nd is = true → cs.length = is.length → (k_put ws is cs)[j]? = some q → ∃ k : Nat, is[k]? = some j ∧ cs[k]? = some q
  | [], _, _, _, _, hj, _, _, _ => by cases hj
  | _ :: _, [], _, _, _, _, _, hl, _ => by simp at hl
  | i :: is, c :: cs, ws, j, q, hj, hn, hl, hq => by
    have hn2 : i ∉ is ∧ va_nd is = true := by
      have h := hn
      simp only [va_nd, Bool.and_eq_true, decide_eq_true_eq] at h
      exact h
    have hq : (k_put (ws.set i c) is cs)[j]? = some q := hq
    by_cases e : j = i
    · subst e
      rw [k_put_out is cs _ j hn2.1, List.getElem?_set_self'] at hq
      cases hw : ws[j]? with
      | none => rw [hw] at hq; simp at hq
      | some z => rw [hw] at hq; exact ⟨0, rfl, by simpa using hq⟩
    · obtain ⟨k, h1, h2⟩ := k_put_in is cs (ws.set i c) j q ((List.mem_cons.mp hj).resolve_left e) hn2.2 (by simpa using hl) hq
      exact ⟨k + 1, h1, h2⟩
theorem k_Dfst {A : Nat → Prop} {ws ws' : va_W} (h : ws'.map Prod.fst = ws.map Prod.fst) (hD : va_D A ws) : va_D A ws' := by
  have key : ∀ (i : Nat) (p : Nat × va_E), ws'[i]? = some p → ∃ p', ws[i]? = some p' ∧ p'.1 = p.1 := by
    intro i p hp
    have e : (ws'.map Prod.fst)[i]? = some p.1 := by rw [List.getElem?_map, hp]; rfl
    rw [h, List.getElem?_map] at e
    cases hw : ws[i]? with
    | none => rw [hw] at e; cases e
    | some p' => rw [hw] at e; exact ⟨p', rfl, Option.some.inj e⟩
  refine ⟨fun i j p q hp hq e => ?_, fun k q hq => ?_⟩
  · obtain ⟨p', h1, h2⟩ := key i p hp
    obtain ⟨q', h3, h4⟩ := key j q hq
    exact hD.1 i j p' q' h1 h3 (by rw [h2, h4]; exact e)
  · obtain ⟨q', h3, h4⟩ := key k q hq
    rw [← h4]
    exact hD.2 k q' h3
section KC
variable {p : Program} {l : Launch} {e : Env} {R : Room} {s : State} {m : MethodId} {args : Array Value} {below : List Frame} {meth : Method} {c : Code} {H : Heap} {locs : List Loc} {cells slots : Nat} {Q : State → Prop}
variable {pc : Nat} {ls : Array Slot} {rest st0 st1 : List Value} {a : Array Value} {A : Nat → Prop} {H0 : Heap} {v : Option Value} {D : va_G} {cI cF : ClassId}
theorem lv_nmi {x y : Int32} (h : y = x) (k : W p l e R s m args below meth c H locs cells slots Q (F0 m pc ls (.int y :: rest))) : W p l e R s m args below meth c H locs cells slots Q (F0 m pc ls (.int x :: rest)) := h ▸ k
theorem lv_nml {x y : Int64} (h : y = x) (k : W p l e R s m args below meth c H locs cells slots Q (F0 m pc ls (.long y :: rest))) : W p l e R s m args below meth c H locs cells slots Q (F0 m pc ls (.long x :: rest)) := h ▸ k
theorem lv_nmf {x y : UInt32} (h : y = x) (k : W p l e R s m args below meth c H locs cells slots Q (F0 m pc ls (.float y :: rest))) : W p l e R s m args below meth c H locs cells slots Q (F0 m pc ls (.float x :: rest)) := h ▸ k
theorem lv_nmd {x y : UInt64} (h : y = x) (k : W p l e R s m args below meth c H locs cells slots Q (F0 m pc ls (.double y :: rest))) : W p l e R s m args below meth c H locs cells slots Q (F0 m pc ls (.double x :: rest)) := h ▸ k
theorem k_ro (hr : va_Run p l e R s m args below meth c H locs cells slots 0 0 (F0 m pc ls st0) rest (qRO v a) (fun _ => False)) (hst1 : v.toList ++ rest = st1)
    (kk : W p l e R s m args below meth c H locs cells slots Q (F0 m (pc + 3) ls st1)) : W p l e R s m args below meth c H locs cells slots Q (F0 m pc ls st0) := by
  subst hst1
  intro T hT X
  obtain ⟨v', st₀, t, T', L, h0, X', hL, e1, e2, ⟨hv, hh⟩, st⟩ := hr T hT X
  have hLn : L = [] := by
    cases L with
    | nil => rfl
    | cons z zs => exact absurd (hL z List.mem_cons_self) id
  subst hLn
  rw [List.append_nil] at X'
  cases hv
  obtain ⟨t2, a1, b1⟩ := kk T' (by rw [e1, hh, h0]) X'
  exact ⟨t2, st t2 a1, b1⟩
theorem k_rwM {mc ms : Nat} {wc wc' wo wn : va_W} (hr : va_Run p l e R s m args below meth c H locs cells slots mc ms (F0 m pc ls st0) rest (qRW D wc' v (va_A wc H.size) a) (va_A wc H.size)) (hst1 : v.toList ++ rest = st1)
    (hP : va_P D vwCl wo H) (hD : va_D A wo) (hS : va_S A H0 H locs) (hA : ∀ q, H0.size ≤ q → A q) (is : List Nat) (hwc : is.map (fun i => wo[i]?) = wc.map some) (hnd : va_nd is = true) (hwn : k_put wo is wc' = wn) (hlen : wc'.length = is.length) (hfst : wn.map Prod.fst = wo.map Prod.fst)
    (kk : ∀ (H1 : Heap) (locs1 : List Loc), va_P D vwCl wn H1 → va_D A wn → va_S A H0 H1 locs1 → W p l e R s m args below meth c H1 locs1 (cells + mc) (slots + ms) Q (F0 m (pc + 3) ls st1)) : W p l e R s m args below meth c H locs cells slots Q (F0 m pc ls st0) := by
  subst hst1
  subst hwn
  intro T hT X
  obtain ⟨v', st₀, t, T', L, h0, X', hL, e1, e2, ⟨⟨hv, hp⟩, hz, hk⟩, st⟩ := hr T hT X
  cases hv
  rw [h0] at hz hk
  have hFc := va_free hD hS hA is hwc
  have hP1 : va_P D vwCl (k_put wo is wc') T'.heap := by
    intro j q hq
    rw [e1]
    by_cases hj : j ∈ is
    · obtain ⟨k, -, h2⟩ := k_put_in is wc' wo j q hj hnd hlen hq
      exact hp k q h2
    · rw [k_put_out is wc' wo j hj] at hq
      have hlt := (hP j q hq).lt
      refine (hP j q hq).kept (hk q.1 hlt (fun h => ?_))
      rcases h with ⟨k, e9, h⟩ | h
      · have h1 : (is.map (fun i => wo[i]?))[k]? = some (some (q.1, e9)) := by rw [hwc, List.getElem?_map, h]; rfl
        rw [List.getElem?_map] at h1
        cases hi : is[k]? with
        | none => rw [hi] at h1; cases h1
        | some i =>
          rw [hi] at h1
          have hij := hD.1 j i q (q.1, e9) hq (Option.some.inj h1) rfl
          subst hij
          exact hj (List.mem_of_getElem? hi)
      · omega
  obtain ⟨t2, a1, b1⟩ := kk T'.heap (locs ++ L) hP1 (k_Dfst hfst hD) ⟨Nat.le_trans hS.1 (by rw [e1]; exact hz), fun q h1 h2 => by rw [e1, hk q (Nat.lt_of_lt_of_le h1 hS.1) (fun z => h2 (hFc q z))]; exact hS.2.1 q h1 h2, fun q hq => by
      rcases List.mem_append.mp hq with h | h
      · exact hS.2.2 q h
      · exact hFc _ (hL q h)⟩ T' rfl X'
  exact ⟨t2, st t2 a1, b1⟩
theorem k_rw {wc wc' wo wn : va_W} (hr : va_Run p l e R s m args below meth c H locs cells slots 0 0 (F0 m pc ls st0) rest (qRW D wc' v (va_A wc H.size) a) (va_A wc H.size)) (hst1 : v.toList ++ rest = st1)
    (hP : va_P D vwCl wo H) (hD : va_D A wo) (hS : va_S A H0 H locs) (hA : ∀ q, H0.size ≤ q → A q) (is : List Nat) (hwc : is.map (fun i => wo[i]?) = wc.map some) (hnd : va_nd is = true) (hwn : k_put wo is wc' = wn) (hlen : wc'.length = is.length) (hfst : wn.map Prod.fst = wo.map Prod.fst)
    (kk : ∀ (H1 : Heap) (locs1 : List Loc), va_P D vwCl wn H1 → va_D A wn → va_S A H0 H1 locs1 → W p l e R s m args below meth c H1 locs1 cells slots Q (F0 m (pc + 3) ls st1)) : W p l e R s m args below meth c H locs cells slots Q (F0 m pc ls st0) :=
  k_rwM (mc := 0) (ms := 0) hr hst1 hP hD hS hA is hwc hnd hwn hlen hfst kk
theorem k_blRO {As : List Value} {w : va_W} : FrameBlind (va_Pc As (pRO D cI cF w)) := fun a U g mk q => by
  obtain ⟨q0, qP, qK⟩ := q
  exact ⟨q0, qP, va_K.moved (u := U) (U := U.calling g mk a) (Vm.Alike.refl U.vm) qK⟩
theorem k_blRW {As : List Value} {w : va_W} {sz : Nat} : FrameBlind (va_Pc As (pRW D cI cF w sz)) := fun a U g mk q => by
  obtain ⟨q0, q1, qP, qK, qD⟩ := q
  exact ⟨q0, q1, qP, va_K.moved (u := U) (U := U.calling g mk a) (Vm.Alike.refl U.vm) qK, qD⟩
theorem k_blPU {As : List Value} : FrameBlind (va_Pc As (fun _ => True)) := fun _ _ _ _ q => q
theorem k_preV {C : String} {b : Nat} {As : List Value} {w : va_W} {q0 ci : Nat} {q : vw_C} {fs : List Value} (hK : va_K D vwCl (tysU cI cF) s) (hP : va_P D vwCl w H) (hc : vwCl[ci]? = some q) (hC : q.1 = C) (he : w[q0]? = some (b, .inr (ci, fs))) : PreV s H C b (va_Pc (.ref b :: As) (pRO D cI cF w)) As := by
  subst hC
  exact ⟨k_blRO, va_recv hK hP hc he, fun U hU hW => ⟨rfl, by rw [hU]; exact hP, va_K.moved hW.alike hK⟩⟩
theorem k_preVw {C : String} {b : Nat} {As : List Value} {w wo : va_W} {q0 ci : Nat} {q : vw_C} {fs : List Value} (hK : va_K D vwCl (tysU cI cF) s) (hP : va_P D vwCl wo H) (hD : va_D A wo) (is : List Nat) (hwc : is.map (fun i => wo[i]?) = w.map some) (hnd : va_nd is = true) (hc : vwCl[ci]? = some q) (hC : q.1 = C) (he : w[q0]? = some (b, .inr (ci, fs))) : PreV s H C b (va_Pc (.ref b :: As) (pRW D cI cF w H.size)) As := by
  subst hC
  have hPc : va_P D vwCl w H := hP.sub is (by
    have h1 : is.filterMap (fun i => wo[i]?) = (is.map (fun i => wo[i]?)).filterMap id := by rw [List.filterMap_map]; rfl
    rw [h1, hwc, List.filterMap_map]
    simp)
  exact ⟨k_blRW, va_recv hK hPc hc he, fun U hU hW => ⟨rfl, by rw [hU], by rw [hU]; exact hPc, va_K.moved hW.alike hK, (hD.sub is hnd hwc).weaken (fun _ _ _ _ => trivial)⟩⟩
theorem k_preS {As : List Value} {w : va_W} (hK : va_K D vwCl (tysU cI cF) s) (hP : va_P D vwCl w H) : PreS s H (va_Pc As (pRO D cI cF w)) As :=
  ⟨k_blRO, fun U hU hW => ⟨rfl, by rw [hU]; exact hP, va_K.moved hW.alike hK⟩⟩
theorem k_prePU {As : List Value} : PreS s H (va_Pc As (fun _ => True)) As := ⟨k_blPU, fun _ _ _ => ⟨rfl, trivial⟩⟩
theorem k_swIn {cc : ByteArray} (hexec : p.tables.exec = Jvm.exec) (hb : c.code = cc) {dflt lo hi : Int} {offs : Array Int} {len : Nat} {x v : Int32} {off : Int} {tgt : Nat} (hv : x = v) (hdg : decode cc pc = .ok (.tableswitch dflt lo hi offs, len)) (h1 : ¬ v.toInt < lo) (h2 : ¬ hi < v.toInt) (ho : offs[(v.toInt - lo).toNat]? = some off) (ht : (pc : Int) + off = (tgt : Int)) (k : W p l e R s m args below meth c H locs cells slots Q (F0 m tgt ls rest)) : W p l e R s m args below meth c H locs cells slots Q (F0 m pc ls (.int x :: rest)) := by
  subst hv
  exact lv_tableIn hexec hb hdg h1 h2 ho ht k
end KC
theorem k_swOut (n : Nat) (hn : n < 2 ^ 31) (x : Int32) (h : ∀ k : Nat, k ≤ n → x ≠ nI k) : x.toInt < 0 ∨ (n : Int) < x.toInt := by
  by_cases c : x.toInt < 0
  · exact Or.inl c
  · refine Or.inr (Int.not_le.mp fun d => ?_)
    have e : x = nI x.toInt.toNat := Int32.toInt_inj.mp (by rw [nI_toInt (by omega)]; omega)
    exact h x.toInt.toNat (by omega) e
theorem k_bool {v : Int32} (h : v = 0 ∨ v = 1) : narrow .boolean (.int v) = .int v := by rcases h with rfl | rfl <;> rfl
theorem k_fitb {v : Int32} (h : v = 0 ∨ v = 1) : fits .boolean (.int v) = true := by rcases h with rfl | rfl <;> rfl
theorem k_cp0 {a b c d e : Prop} (h : ¬ (a ∨ b ∨ c ∨ d ∨ e)) : ¬ a := fun x => h (Or.inl x)
theorem k_cp1 {a b c d e : Prop} (h : ¬ (a ∨ b ∨ c ∨ d ∨ e)) : ¬ b := fun x => h (Or.inr (Or.inl x))
theorem k_cp2 {a b c d e : Prop} (h : ¬ (a ∨ b ∨ c ∨ d ∨ e)) : ¬ c := fun x => h (Or.inr (Or.inr (Or.inl x)))
theorem k_cp3 {a b c e : Prop} {x y : Nat} (h : ¬ (a ∨ b ∨ c ∨ x < y ∨ e)) : y ≤ x := Nat.le_of_not_lt fun z => h (Or.inr (Or.inr (Or.inr (Or.inl z))))
theorem k_cp4 {a b c d : Prop} {x y : Nat} (h : ¬ (a ∨ b ∨ c ∨ d ∨ x < y)) : y ≤ x := Nat.le_of_not_lt fun z => h (Or.inr (Or.inr (Or.inr (Or.inr z))))
