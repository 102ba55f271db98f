-- L_isStepSo
def m_L_isStepSo_L603 (y4 : Int32) (y10 : Int32) (y11 : Int32) (y15 : Int32) (S : S_X5) : Option (Int32 × S_X5) := (o_R (m_X5_undo S)).bind fun v42 => (nmL (v42.1) fun x16_44 => (if y15 = 0 then (some ((0 : Int32), v42.2)) else (if x16_44 < 0 then (some ((0 : Int32), v42.2)) else ((o_R (m_X5_count v42.2 (5 : Int32))).bind fun v48 => (if v48 = y11 then ((o_R (m_X5_can v42.2 y4 (0 : Int32))).bind fun v51 => (if v51 = y10 then (some ((1 : Int32), v42.2)) else (some ((0 : Int32), v42.2)))) else (some ((0 : Int32), v42.2)))))))
def m_L_isStepSo_L584 (y2 : Int32) (y4 : Int32) (y10 : Int32) (y11 : Int32) (t0 : Int32) (t1 : Int32) (S : S_X5) : Option (Int32 × S_X5) := if t0 = t1 then ((o_R (m_X5_feeler S (0 : Int32))).bind fun v78 => (if v78 = y2 then (m_L_isStepSo_L603 y4 y10 y11 (1 : Int32) S) else (m_L_isStepSo_L603 y4 y10 y11 (0 : Int32) S))) else (m_L_isStepSo_L603 y4 y10 y11 (0 : Int32) S)
def m_L_isStepSo_L498 (y2 : Int32) (y4 : Int32) (y9 : Int32) (y10 : Int32) (y11 : Int32) (y12 : Int32) (y13 : Int32) (y15 : Int32) (y17 : Int32) (y18 : Int32) (y19 : Int32) (S : S_X5) : Option (Int32 × S_X5) := if y15 = 0 then (m_L_isStepSo_L603 y4 y10 y11 (0 : Int32) S) else ((o_R (m_X5_count S (4 : Int32))).bind fun v59 => (if v59 = y9 then ((o_R (m_X5_can S y4 (0 : Int32))).bind fun v62 => (if v62 = (y10 + y17) then ((o_R (m_X5_count S (5 : Int32))).bind fun v65 => (if v65 = (y11 + y18) then ((o_R (m_X5_count S (6 : Int32))).bind fun v68 => (if v68 = (y12 + y19) then ((o_R (m_X5_count S (10 : Int32))).bind fun v71 => (if v71 = (y13 + y17) then ((o_R (m_X5_count S (3 : Int32))).bind fun v74 => (if y18 ≤ 0 then (m_L_isStepSo_L584 y2 y4 y10 y11 v74 (0 : Int32) S) else (m_L_isStepSo_L584 y2 y4 y10 y11 v74 (1 : Int32) S))) else (m_L_isStepSo_L603 y4 y10 y11 (0 : Int32) S))) else (m_L_isStepSo_L603 y4 y10 y11 (0 : Int32) S))) else (m_L_isStepSo_L603 y4 y10 y11 (0 : Int32) S))) else (m_L_isStepSo_L603 y4 y10 y11 (0 : Int32) S))) else (m_L_isStepSo_L603 y4 y10 y11 (0 : Int32) S)))
def m_L_isStepSo_L473 (k370 : Int32 → Int32 → Int32 → Int32 → Int32 → Int32 → Int32 → Int32 → Int32 → Int32 → Int32 → Int32 → Int32 → S_X5 → Option (Int32 × S_X5)) (y2 : Int32) (y4 : Int32) (y9 : Int32) (y10 : Int32) (y11 : Int32) (y12 : Int32) (y13 : Int32) (y15 : Int32) (y16 : Int32) (y17 : Int32) (y19 : Int32) (y20 : Int32) (y21 : Int32) (y22 : Int32) (t0 : Int32) (t1 : Int32) (S : S_X5) : Option (Int32 × S_X5) := nmL (t0 + t1) fun x18_93 => (if y22 = 0 then (nmL (y19 + (0 : Int32)) fun x19_96 => (nmL (y20 + 1) fun x20_98 => (k370 y2 y4 y9 y10 y11 y12 y13 y15 y16 y17 x18_93 x19_96 x20_98 S))) else (nmL (y19 + y21) fun x19_100 => (nmL (y20 + 1) fun x20_102 => (k370 y2 y4 y9 y10 y11 y12 y13 y15 y16 y17 x18_93 x19_100 x20_102 S))))
def m_L_isStepSo_L444 (k370 : Int32 → Int32 → Int32 → Int32 → Int32 → Int32 → Int32 → Int32 → Int32 → Int32 → Int32 → Int32 → Int32 → S_X5 → Option (Int32 × S_X5)) (y2 : Int32) (y4 : Int32) (y9 : Int32) (y10 : Int32) (y11 : Int32) (y12 : Int32) (y13 : Int32) (y16 : Int32) (y17 : Int32) (y18 : Int32) (y19 : Int32) (y20 : Int32) (y21 : Int32) (y22 : Int32) (t0 : Int32) (S : S_X5) : Option (Int32 × S_X5) := if y22 = 0 then (nmL (y17 + (1 : Int32)) fun x17_90 => (if y22 = 0 then (m_L_isStepSo_L473 k370 y2 y4 y9 y10 y11 y12 y13 t0 y16 x17_90 y19 y20 y21 y22 y18 (0 : Int32) S) else (m_L_isStepSo_L473 k370 y2 y4 y9 y10 y11 y12 y13 t0 y16 x17_90 y19 y20 y21 y22 y18 (1 : Int32) S))) else (nmL (y17 + (0 : Int32)) fun x17_104 => (if y22 = 0 then (m_L_isStepSo_L473 k370 y2 y4 y9 y10 y11 y12 y13 t0 y16 x17_104 y19 y20 y21 y22 y18 (0 : Int32) S) else (m_L_isStepSo_L473 k370 y2 y4 y9 y10 y11 y12 y13 t0 y16 x17_104 y19 y20 y21 y22 y18 (1 : Int32) S)))
def m_L_isStepSo_L411 (k370 : Int32 → Int32 → Int32 → Int32 → Int32 → Int32 → Int32 → Int32 → Int32 → Int32 → Int32 → Int32 → Int32 → S_X5 → Option (Int32 × S_X5)) (y2 : Int32) (y4 : Int32) (y9 : Int32) (y10 : Int32) (y11 : Int32) (y12 : Int32) (y13 : Int32) (y15 : Int32) (y16 : Int32) (y17 : Int32) (y18 : Int32) (y19 : Int32) (y20 : Int32) (y21 : Int32) (t0 : Int32) (S : S_X5) : Option (Int32 × S_X5) := if y15 = 0 then (m_L_isStepSo_L444 k370 y2 y4 y9 y10 y11 y12 y13 y16 y17 y18 y19 y20 y21 t0 (0 : Int32) S) else (if t0 = 0 then ((o_R (m_X5_metre S y4 (y10 + y17))).bind fun v108 => (if v108 = y21 then (m_L_isStepSo_L444 k370 y2 y4 y9 y10 y11 y12 y13 y16 y17 y18 y19 y20 y21 t0 (1 : Int32) S) else (m_L_isStepSo_L444 k370 y2 y4 y9 y10 y11 y12 y13 y16 y17 y18 y19 y20 y21 t0 (0 : Int32) S))) else (m_L_isStepSo_L444 k370 y2 y4 y9 y10 y11 y12 y13 y16 y17 y18 y19 y20 y21 t0 (1 : Int32) S))
def m_L_isStepSo_L393 (k370 : Int32 → Int32 → Int32 → Int32 → Int32 → Int32 → Int32 → Int32 → Int32 → Int32 → Int32 → Int32 → Int32 → S_X5 → Option (Int32 × S_X5)) (y2 : Int32) (y4 : Int32) (y9 : Int32) (y10 : Int32) (y11 : Int32) (y12 : Int32) (y13 : Int32) (y15 : Int32) (y16 : Int32) (y17 : Int32) (y18 : Int32) (y19 : Int32) (y20 : Int32) (t0 : Int32) (t1 : Int32) (S : S_X5) : Option (Int32 × S_X5) := nmL (t0 + t1) fun x21_83 => ((o_R (m_X5_setting S (4 : Int32))).bind fun v85 => (if x21_83 ≤ v85 then (m_L_isStepSo_L411 k370 y2 y4 y9 y10 y11 y12 y13 y15 y16 y17 y18 y19 y20 x21_83 (0 : Int32) S) else (m_L_isStepSo_L411 k370 y2 y4 y9 y10 y11 y12 y13 y15 y16 y17 y18 y19 y20 x21_83 (1 : Int32) S)))
def m_L_isStepSo_L370 : Nat → Int32 → Int32 → Int32 → Int32 → Int32 → Int32 → Int32 → Int32 → Int32 → Int32 → Int32 → Int32 → Int32 → S_X5 → Option (Int32 × S_X5)
  | 0, _, _, _, _, _, _, _, _, _, _, _, _, _, _ => none
  | n + 1, y2, y4, y9, y10, y11, y12, y13, y15, y16, y17, y18, y19, y20, S => if y9 ≤ y20 then (m_L_isStepSo_L498 y2 y4 y9 y10 y11 y12 y13 y15 y17 y18 y19 S) else (if y9 = 0 then none else (if y16 ≤ y20 then (m_L_isStepSo_L393 (m_L_isStepSo_L370 n) y2 y4 y9 y10 y11 y12 y13 y15 y16 y17 y18 y19 y20 (y2 / y9) (0 : Int32) S) else (m_L_isStepSo_L393 (m_L_isStepSo_L370 n) y2 y4 y9 y10 y11 y12 y13 y15 y16 y17 y18 y19 y20 (y2 / y9) (1 : Int32) S)))
def m_L_isStepSo_L344 (y2 : Int32) (y4 : Int32) (y9 : Int32) (y10 : Int32) (y11 : Int32) (y12 : Int32) (y13 : Int32) (y14 : Int32) (t0 : Int32) (S : S_X5) : Option (Int32 × S_X5) := if y14 = (1 : Int32) then (if y9 = 0 then none else (nmL (y2 - y2 / y9 * y9) fun x16_55 => (m_L_isStepSo_L370 4000 y2 y4 y9 y10 y11 y12 y13 t0 x16_55 (0 : Int32) (0 : Int32) (0 : Int32) (0 : Int32) S))) else (m_L_isStepSo_L603 y4 y10 y11 t0 S)
def m_L_isStepSo_L276 (y1 : Int32) (y2 : Int32) (y4 : Int32) (y9 : Int32) (t0 : Int32) (S : S_X5) : Option (Int32 × S_X5) := if t0 = y1 then ((o_R (m_X5_can S y4 (0 : Int32))).bind fun v27 => ((o_R (m_X5_count S (5 : Int32))).bind fun v29 => ((o_R (m_X5_count S (6 : Int32))).bind fun v31 => ((o_R (m_X5_count S (10 : Int32))).bind fun v33 => ((o_R (m_X5_run S (1 : Int32))).bind fun v35 => (nmL (v35.1) fun x14_37 => (if y1 = 0 then (if x14_37 = (1 : Int32) then (m_L_isStepSo_L344 y2 y4 y9 v27 v29 v31 v33 x14_37 (1 : Int32) v35.2) else (m_L_isStepSo_L344 y2 y4 y9 v27 v29 v31 v33 x14_37 (0 : Int32) v35.2)) else (if x14_37 = (0 : Int32) then (m_L_isStepSo_L344 y2 y4 y9 v27 v29 v31 v33 x14_37 (1 : Int32) v35.2) else (m_L_isStepSo_L344 y2 y4 y9 v27 v29 v31 v33 x14_37 (0 : Int32) v35.2))))))))) else (some ((0 : Int32), S))
def m_L_isStepSo_L250 (y1 : Int32) (y2 : Int32) (y4 : Int32) (y5 : Int32) (y9 : Int32) (S : S_X5) : Option (Int32 × S_X5) := if y5 = 0 then ((o_R (m_X5_can S y4 (0 : Int32))).bind fun v112 => (if (v112 + y9) ≤ (40 : Int32) then (m_L_isStepSo_L276 y1 y2 y4 y9 y5 S) else (m_L_isStepSo_L276 y1 y2 y4 y9 (5 : Int32) S))) else (m_L_isStepSo_L276 y1 y2 y4 y9 y5 S)
def m_L_isStepSo_L207 : Nat → Int32 → Int32 → Int32 → Int32 → Int32 → Int32 → Int32 → S_X5 → Option (Int32 × S_X5)
  | 0, _, _, _, _, _, _, _, _ => none
  | n + 1, y1, y2, y4, y5, y7, y8, y9, S => if (8 : Int32) ≤ y9 then (if (1 : Int32) ≤ y9 then (m_L_isStepSo_L250 y1 y2 y4 y5 y9 S) else (m_L_isStepSo_L250 y1 y2 y4 y5 (1 : Int32) S)) else (if ((2 : Int32) * y7) < ((((2 : Int32) * y9) + (1 : Int32)) * y8) then (if (1 : Int32) ≤ y9 then (m_L_isStepSo_L250 y1 y2 y4 y5 y9 S) else (m_L_isStepSo_L250 y1 y2 y4 y5 (1 : Int32) S)) else (nmL (y9 + 1) fun x9_120 => ((m_L_isStepSo_L207 n) y1 y2 y4 y5 y7 y8 x9_120 S)))
def m_L_isStepSo_L173 (y1 : Int32) (y2 : Int32) (y4 : Int32) (y5 : Int32) (t0 : Int32) (S : S_X5) : Option (Int32 × S_X5) := (o_R (m_X5_setting S (2 : Int32))).bind fun v18 => ((o_R (m_X5_setting S (1 : Int32))).bind fun v20 => ((o_R (m_X5_setting S (3 : Int32))).bind fun v22 => (if v22 = (1 : Int32) then (if t0 = (-1 : Int32) then (m_L_isStepSo_L250 y1 y2 y4 y5 v20 S) else (m_L_isStepSo_L207 4000 y1 y2 y4 y5 t0 v18 (0 : Int32) S)) else (m_L_isStepSo_L250 y1 y2 y4 y5 v20 S))))
def m_L_isStepSo_L149 (y1 : Int32) (y2 : Int32) (y4 : Int32) (y5 : Int32) (S : S_X5) : Option (Int32 × S_X5) := (o_R (m_X5_setting S (0 : Int32))).bind fun v13 => (if v13 = 0 then (m_L_isStepSo_L173 y1 y2 y4 y5 y2 S) else ((o_R (m_X5_feeler S (v13 - (1 : Int32)))).bind fun v16 => (m_L_isStepSo_L173 y1 y2 y4 y5 v16 S)))
def m_L_isStepSo_L111 (k61 : Int32 → Int32 → Int32 → Int32 → Int32 → Int32 → S_X5 → Option (Int32 × S_X5)) (y1 : Int32) (y2 : Int32) (y3 : Int32) (y4 : Int32) (y6 : Int32) (y7 : Int32) (t0 : Int32) (S : S_X5) : Option (Int32 × S_X5) := if y7 = 0 then (nmL (y2 + (0 : Int32)) fun x2_125 => (nmL (y6 + 1) fun x6_127 => (k61 y1 x2_125 y3 y4 t0 x6_127 S))) else ((o_R (m_X5_can S y6 (0 : Int32))).bind fun v129 => (if v129 ≤ 0 then (nmL (y2 + (0 : Int32)) fun x2_132 => (nmL (y6 + 1) fun x6_134 => (k61 y1 x2_132 y3 y4 t0 x6_134 S))) else ((o_R (m_X5_can S y6 (7 : Int32))).bind fun v136 => (nmL (y2 + v136) fun x2_138 => (nmL (y6 + 1) fun x6_140 => (k61 y1 x2_138 y3 y4 t0 x6_140 S))))))
def m_L_isStepSo_L83 (k61 : Int32 → Int32 → Int32 → Int32 → Int32 → Int32 → S_X5 → Option (Int32 × S_X5)) (y1 : Int32) (y2 : Int32) (y3 : Int32) (y4 : Int32) (y5 : Int32) (y6 : Int32) (t0 : Int32) (S : S_X5) : Option (Int32 × S_X5) := if y5 = 0 then (if t0 = 0 then (m_L_isStepSo_L111 k61 y1 y2 y3 y4 y6 t0 y5 S) else ((o_R (m_X5_can S y6 (0 : Int32))).bind fun v143 => (if v143 = 0 then (m_L_isStepSo_L111 k61 y1 y2 y3 y4 y6 t0 (4 : Int32) S) else (m_L_isStepSo_L111 k61 y1 y2 y3 y4 y6 t0 y5 S)))) else (m_L_isStepSo_L111 k61 y1 y2 y3 y4 y6 t0 y5 S)
def m_L_isStepSo_L61 : Nat → Int32 → Int32 → Int32 → Int32 → Int32 → Int32 → S_X5 → Option (Int32 × S_X5)
  | 0, _, _, _, _, _, _, _ => none
  | n + 1, y1, y2, y3, y4, y5, y6, S => if (8 : Int32) ≤ y6 then (m_L_isStepSo_L149 y1 y2 y4 y5 S) else (if ((y3 >>> (y6 &&& 31)) &&& (1 : Int32)) = (1 : Int32) then (m_L_isStepSo_L83 (m_L_isStepSo_L61 n) y1 y2 y3 y4 y5 y6 (1 : Int32) S) else (m_L_isStepSo_L83 (m_L_isStepSo_L61 n) y1 y2 y3 y4 y5 y6 (0 : Int32) S))
def m_L_isStepSo (S : S_X5) : Option (Int32 × S_X5) := (m_X5_why S).bind fun v1 => ((o_R (m_X5_count S (1 : Int32))).bind fun v3 => ((o_R (m_X5_count S (2 : Int32))).bind fun v5 => ((o_R (m_X5_count S (3 : Int32))).bind fun v7 => (if v7 = (1 : Int32) then (m_L_isStepSo_L61 4000 v1 (0 : Int32) v3 v5 (1 : Int32) (0 : Int32) S) else (if v3 = 0 then (m_L_isStepSo_L61 4000 v1 (0 : Int32) v3 v5 (2 : Int32) (0 : Int32) S) else (if ((v3 >>> (v5 &&& 31)) &&& (1 : Int32)) = (1 : Int32) then (m_L_isStepSo_L61 4000 v1 (0 : Int32) v3 v5 (3 : Int32) (0 : Int32) S) else (m_L_isStepSo_L61 4000 v1 (0 : Int32) v3 v5 (0 : Int32) (0 : Int32) S)))))))
set_option maxHeartbeats 4000000 in
set_option maxRecDepth 100000 in
theorem c_L_isStepSo (l : Launch) (dC : Nat → ClassId) (dI : Nat → Nat → Nat) (cI cF : ClassId) (a : Nat → Nat) (S : S_X5) (u : Int32 × S_X5) (h : m_L_isStepSo S = some u) : cRW l (dC, dI) cI cF yL_isStepSo wsL_isStepSo ({ frames := 6, cells := 0, slots := 0, locals := 173 } : Room) [.ref (a 0)] (wX5 a cI cF S) (wX5 a cI cF u.2) (some (.int u.1)) := by
  intro sz
  refine Met.ofW (cc := cL_isStepSo) (maxL := 23) (ret := (some .boolean)) (by decide) rfl ?_
  intro p e s m args below meth c s₁ B hml hv
  obtain ⟨hargs, hsz, hP, hK, hD0⟩ := hv
  subst hargs
  have hx := B.exec
  have hb := B.bytes
  have hr := B.returns
  have hts := atoms_spec (ws := wsL_isStepSo) B.pre
  have hown : s.vm.findClass RL = some m.cls := findClass_of_methodNamed B.named
  have hlocks := B.notSynchronized
  have w20 := hts (.methodLink RL 20 yX5_can) (List.mem_of_getElem? (i := 95) rfl)
  have w52 := hts (.methodLink RL 52 yX5_run) (List.mem_of_getElem? (i := 145) rfl)
  have w55 := hts (.methodLink RL 55 yX5_metre) (List.mem_of_getElem? (i := 216) rfl)
  have w58 := hts (.methodLink RL 58 yX5_count) (List.mem_of_getElem? (i := 64) rfl)
  have w65 := hts (.methodLink RL 65 yX5_why) (List.mem_of_getElem? (i := 1) rfl)
  have w68 := hts (.methodLink RL 68 yX5_setting) (List.mem_of_getElem? (i := 131) rfl)
  have w71 := hts (.methodLink RL 71 yX5_feeler) (List.mem_of_getElem? (i := 139) rfl)
  have w74 := hts (.methodLink RL 74 yX5_undo) (List.mem_of_getElem? (i := 220) rfl)
  subst hsz
  have hD := hD0.self (sz := s.heap.size)
  generalize hAe : va_A (wX5 a cI cF S) s.heap.size = A at hD ⊢
  have hA : ∀ q : Nat, s.heap.size ≤ q → A q := fun q h => by rw [← hAe]; exact Or.inr h
  have hS : va_S A s.heap s.heap [] := va_S.rf
  have L603 : ∀ (y4 : Int32) (y10 : Int32) (y11 : Int32) (y15 : Int32) (S : S_X5), m_L_isStepSo_L603 y4 y10 y11 y15 S = some u → ∀ (H : Heap) (locs : List Loc), va_P (dC, dI) vwCl (wX5 a cI cF S) H → va_D A (wX5 a cI cF S) → va_S A s.heap H locs → ∀ (ls : Array Slot), lv_has ls 23 [(0, .ref (a 0)), (4, .int y4), (10, .int y10), (11, .int y11), (15, .int y15)] → W p l e (headSpec wsL_isStepSo ({ frames := 6, cells := 0, slots := 0, locals := 173 } : Room)).room s m ([.ref (a 0)] : List Value).toArray below meth c H locs 0 0 (MQ below (qRW (dC, dI) (wX5 a cI cF u.2) (some (.int u.1)) A) ([.ref (a 0)] : List Value).toArray s 0 0 A) (F0 m 603 ls []) := by
    intro  y4 y10 y11 y15 S h H locs hP hD hS ls hl
    rw [m_L_isStepSo_L603] at h
    refine lv_aload_n hx hb dL_isStepSo_603 rfl (lv_at hl 0 rfl) ?_
    obtain ⟨v42, g43, h⟩ := o_b h
    have g43 := o_R_ g43
    refine k_rwL (va_runV (As := []) (rest := []) ⟨hx, hb, hml, hown, hts⟩ (c_X5_undo l dC dI cI cF a S v42 g43 H.size) (cwV 0 hts gL_isStepSo_X5_undo rfl rfl rfl (by decide +kernel) ⟨Nat.le_of_ble_eq_true rfl, Nat.le_of_ble_eq_true rfl⟩) (k_preLw (q0 := 0) (ci := 5) hK hP hD (LN_id (fX5 a cI cF S v42.2)) rfl rfl rfl) rfl rfl hl.1 rfl (lv_room (Nat.le_of_ble_eq_true rfl)) dL_isStepSo_604 ⟨Nat.zero_le _, Nat.zero_le _⟩) (st1 := [.int v42.1]) rfl hP hD hS hA (wn := wX5 a cI cF v42.2) (LN_id (fX5 a cI cF S v42.2)) (fun H locs hP hD hS => ?_)
    obtain ⟨x16_44, e45, h⟩ := o_n h
    refine lv_nmi e45 ?_
    refine lv_istore (lv' := [(16, .int x16_44), (0, .ref (a 0)), (4, .int y4), (10, .int y10), (11, .int y11), (15, .int y15)]) hx hb dL_isStepSo_607 hl (by decide) rfl (fun ls hl => ?_)
    refine lv_iload hx hb dL_isStepSo_609 (lv_at hl 5 rfl) ?_
    refine lv_if_eq (tgt := 645) hx hb dL_isStepSo_611 (by decide) (fun c46 => ?_) (fun c46 => ?_)
    · have h := o_t h c46
      refine lv_iconst (v := (0 : Int32)) hx hb dL_isStepSo_645 (by decide) ?_
      have hu := Option.some.inj h
      exact W.zret (v := (0 : Int32)) hx hb hr rfl (fun t ht hW => ⟨⟨congrArg (fun z => Outcome.returned (some (Value.int z.1))) hu, by rw [ht, ← hu]; exact hP⟩, hS.F ht⟩) hS.2.2 dL_isStepSo_646
    have h := o_f h c46
    refine lv_iload hx hb dL_isStepSo_614 (lv_at hl 0 rfl) ?_
    refine lv_if_lt (tgt := 645) hx hb dL_isStepSo_616 (by decide) (fun c47 => ?_) (fun c47 => ?_)
    · have h := o_t h c47
      refine lv_iconst (v := (0 : Int32)) hx hb dL_isStepSo_645 (by decide) ?_
      have hu := Option.some.inj h
      exact W.zret (v := (0 : Int32)) hx hb hr rfl (fun t ht hW => ⟨⟨congrArg (fun z => Outcome.returned (some (Value.int z.1))) hu, by rw [ht, ← hu]; exact hP⟩, hS.F ht⟩) hS.2.2 dL_isStepSo_646
    have h := o_f h c47
    refine lv_aload_n hx hb dL_isStepSo_619 rfl (lv_at hl 1 rfl) ?_
    refine lv_iconst (v := (5 : Int32)) hx hb dL_isStepSo_620 (by decide) ?_
    obtain ⟨v48, g49, h⟩ := o_b h
    have g49 := o_R_ g49
    refine k_ro (va_runV (As := [.int (5 : Int32)]) (rest := []) ⟨hx, hb, hml, hown, hts⟩ (c_X5_count l dC dI cI cF a v42.2 (5 : Int32) v48 g49) (cwV 1 hts gL_isStepSo_X5_count rfl rfl rfl (by decide +kernel) ⟨Nat.le_of_ble_eq_true rfl, Nat.le_of_ble_eq_true rfl⟩) (k_preL (q0 := 0) (ci := 5) hK hP (LN_id (fX5 a cI cF v42.2 v42.2)) rfl rfl rfl) rfl rfl hl.1 rfl (lv_room (Nat.le_of_ble_eq_true rfl)) dL_isStepSo_621 ⟨Nat.zero_le _, Nat.zero_le _⟩) (st1 := [.int v48]) rfl ?_
    refine lv_iload hx hb dL_isStepSo_624 (lv_at hl 4 rfl) ?_
    refine lv_icmp_ne (tgt := 645) hx hb dL_isStepSo_626 (by decide) (fun c50 => ?_) (fun c50 => ?_)
    · have h := o_f h c50
      refine lv_iconst (v := (0 : Int32)) hx hb dL_isStepSo_645 (by decide) ?_
      have hu := Option.some.inj h
      exact W.zret (v := (0 : Int32)) hx hb hr rfl (fun t ht hW => ⟨⟨congrArg (fun z => Outcome.returned (some (Value.int z.1))) hu, by rw [ht, ← hu]; exact hP⟩, hS.F ht⟩) hS.2.2 dL_isStepSo_646
    have h := o_t h c50
    refine lv_aload_n hx hb dL_isStepSo_629 rfl (lv_at hl 1 rfl) ?_
    refine lv_iload hx hb dL_isStepSo_630 (lv_at hl 2 rfl) ?_
    refine lv_iconst (v := (0 : Int32)) hx hb dL_isStepSo_632 (by decide) ?_
    obtain ⟨v51, g52, h⟩ := o_b h
    have g52 := o_R_ g52
    refine k_ro (va_runV (As := [.int y4, .int (0 : Int32)]) (rest := []) ⟨hx, hb, hml, hown, hts⟩ (c_X5_can l dC dI cI cF a v42.2 y4 (0 : Int32) v51 g52) (cwV 2 hts gL_isStepSo_X5_can rfl rfl rfl (by decide +kernel) ⟨Nat.le_of_ble_eq_true rfl, Nat.le_of_ble_eq_true rfl⟩) (k_preL (q0 := 0) (ci := 5) hK hP (LN_id (fX5 a cI cF v42.2 v42.2)) rfl rfl rfl) rfl rfl hl.1 rfl (lv_room (Nat.le_of_ble_eq_true rfl)) dL_isStepSo_633 ⟨Nat.zero_le _, Nat.zero_le _⟩) (st1 := [.int v51]) rfl ?_
    refine lv_iload hx hb dL_isStepSo_636 (lv_at hl 3 rfl) ?_
    refine lv_icmp_ne (tgt := 645) hx hb dL_isStepSo_638 (by decide) (fun c53 => ?_) (fun c53 => ?_)
    · have h := o_f h c53
      refine lv_iconst (v := (0 : Int32)) hx hb dL_isStepSo_645 (by decide) ?_
      have hu := Option.some.inj h
      exact W.zret (v := (0 : Int32)) hx hb hr rfl (fun t ht hW => ⟨⟨congrArg (fun z => Outcome.returned (some (Value.int z.1))) hu, by rw [ht, ← hu]; exact hP⟩, hS.F ht⟩) hS.2.2 dL_isStepSo_646
    have h := o_t h c53
    refine lv_iconst (v := (1 : Int32)) hx hb dL_isStepSo_641 (by decide) ?_
    refine lv_goto (tgt := 646) hx hb dL_isStepSo_642 (by decide) ?_
    have hu := Option.some.inj h
    exact W.zret (v := (1 : Int32)) hx hb hr rfl (fun t ht hW => ⟨⟨congrArg (fun z => Outcome.returned (some (Value.int z.1))) hu, by rw [ht, ← hu]; exact hP⟩, hS.F ht⟩) hS.2.2 dL_isStepSo_646
  have L584 : ∀ (y2 : Int32) (y4 : Int32) (y10 : Int32) (y11 : Int32) (t0 : Int32) (t1 : Int32) (S : S_X5), m_L_isStepSo_L584 y2 y4 y10 y11 t0 t1 S = some u → ∀ (H : Heap) (locs : List Loc), va_P (dC, dI) vwCl (wX5 a cI cF S) H → va_D A (wX5 a cI cF S) → va_S A s.heap H locs → ∀ (ls : Array Slot), lv_has ls 23 [(0, .ref (a 0)), (2, .int y2), (4, .int y4), (10, .int y10), (11, .int y11)] → W p l e (headSpec wsL_isStepSo ({ frames := 6, cells := 0, slots := 0, locals := 173 } : Room)).room s m ([.ref (a 0)] : List Value).toArray below meth c H locs 0 0 (MQ below (qRW (dC, dI) (wX5 a cI cF u.2) (some (.int u.1)) A) ([.ref (a 0)] : List Value).toArray s 0 0 A) (F0 m 584 ls [.int t1, .int t0]) := by
    intro  y2 y4 y10 y11 t0 t1 S h H locs hP hD hS ls hl
    rw [m_L_isStepSo_L584] at h
    refine lv_icmp_ne (tgt := 600) hx hb dL_isStepSo_584 (by decide) (fun c77 => ?_) (fun c77 => ?_)
    · have h := o_f h c77
      refine lv_iconst (v := (0 : Int32)) hx hb dL_isStepSo_600 (by decide) ?_
      refine lv_istore (lv' := [(15, .int (0 : Int32)), (0, .ref (a 0)), (2, .int y2), (4, .int y4), (10, .int y10), (11, .int y11)]) hx hb dL_isStepSo_601 hl (by decide) rfl (fun ls hl => ?_)
      exact L603 _ _ _ _ _ h _ _ hP hD hS _ (lv_sub hl [1, 3, 4, 5, 0] rfl)
    have h := o_t h c77
    refine lv_aload_n hx hb dL_isStepSo_587 rfl (lv_at hl 0 rfl) ?_
    refine lv_iconst (v := (0 : Int32)) hx hb dL_isStepSo_588 (by decide) ?_
    obtain ⟨v78, g79, h⟩ := o_b h
    have g79 := o_R_ g79
    refine k_ro (va_runV (As := [.int (0 : Int32)]) (rest := []) ⟨hx, hb, hml, hown, hts⟩ (c_X5_feeler l dC dI cI cF a S (0 : Int32) v78 g79) (cwV 1 hts gL_isStepSo_X5_feeler rfl rfl rfl (by decide +kernel) ⟨Nat.le_of_ble_eq_true rfl, Nat.le_of_ble_eq_true rfl⟩) (k_preL (q0 := 0) (ci := 5) hK hP (LN_id (fX5 a cI cF S S)) rfl rfl rfl) rfl rfl hl.1 rfl (lv_room (Nat.le_of_ble_eq_true rfl)) dL_isStepSo_589 ⟨Nat.zero_le _, Nat.zero_le _⟩) (st1 := [.int v78]) rfl ?_
    refine lv_iload_n hx hb dL_isStepSo_592 rfl (lv_at hl 1 rfl) ?_
    refine lv_icmp_ne (tgt := 600) hx hb dL_isStepSo_593 (by decide) (fun c80 => ?_) (fun c80 => ?_)
    · have h := o_f h c80
      refine lv_iconst (v := (0 : Int32)) hx hb dL_isStepSo_600 (by decide) ?_
      refine lv_istore (lv' := [(15, .int (0 : Int32)), (0, .ref (a 0)), (2, .int y2), (4, .int y4), (10, .int y10), (11, .int y11)]) hx hb dL_isStepSo_601 hl (by decide) rfl (fun ls hl => ?_)
      exact L603 _ _ _ _ _ h _ _ hP hD hS _ (lv_sub hl [1, 3, 4, 5, 0] rfl)
    have h := o_t h c80
    refine lv_iconst (v := (1 : Int32)) hx hb dL_isStepSo_596 (by decide) ?_
    refine lv_goto (tgt := 601) hx hb dL_isStepSo_597 (by decide) ?_
    refine lv_istore (lv' := [(15, .int (1 : Int32)), (0, .ref (a 0)), (2, .int y2), (4, .int y4), (10, .int y10), (11, .int y11)]) hx hb dL_isStepSo_601 hl (by decide) rfl (fun ls hl => ?_)
    exact L603 _ _ _ _ _ h _ _ hP hD hS _ (lv_sub hl [1, 3, 4, 5, 0] rfl)
  have L498 : ∀ (y2 : Int32) (y4 : Int32) (y9 : Int32) (y10 : Int32) (y11 : Int32) (y12 : Int32) (y13 : Int32) (y15 : Int32) (y17 : Int32) (y18 : Int32) (y19 : Int32) (S : S_X5), m_L_isStepSo_L498 y2 y4 y9 y10 y11 y12 y13 y15 y17 y18 y19 S = some u → ∀ (H : Heap) (locs : List Loc), va_P (dC, dI) vwCl (wX5 a cI cF S) H → va_D A (wX5 a cI cF S) → va_S A s.heap H locs → ∀ (ls : Array Slot), lv_has ls 23 [(0, .ref (a 0)), (2, .int y2), (4, .int y4), (9, .int y9), (10, .int y10), (11, .int y11), (12, .int y12), (13, .int y13), (15, .int y15), (17, .int y17), (18, .int y18), (19, .int y19)] → W p l e (headSpec wsL_isStepSo ({ frames := 6, cells := 0, slots := 0, locals := 173 } : Room)).room s m ([.ref (a 0)] : List Value).toArray below meth c H locs 0 0 (MQ below (qRW (dC, dI) (wX5 a cI cF u.2) (some (.int u.1)) A) ([.ref (a 0)] : List Value).toArray s 0 0 A) (F0 m 498 ls []) := by
    intro  y2 y4 y9 y10 y11 y12 y13 y15 y17 y18 y19 S h H locs hP hD hS ls hl
    rw [m_L_isStepSo_L498] at h
    refine lv_iload hx hb dL_isStepSo_498 (lv_at hl 8 rfl) ?_
    refine lv_if_eq (tgt := 600) hx hb dL_isStepSo_500 (by decide) (fun c58 => ?_) (fun c58 => ?_)
    · have h := o_t h c58
      refine lv_iconst (v := (0 : Int32)) hx hb dL_isStepSo_600 (by decide) ?_
      refine lv_istore (lv' := [(15, .int (0 : Int32)), (0, .ref (a 0)), (2, .int y2), (4, .int y4), (9, .int y9), (10, .int y10), (11, .int y11), (12, .int y12), (13, .int y13), (17, .int y17), (18, .int y18), (19, .int y19)]) hx hb dL_isStepSo_601 hl (by decide) rfl (fun ls hl => ?_)
      exact L603 _ _ _ _ _ h _ _ hP hD hS _ (lv_sub hl [1, 3, 5, 6, 0] rfl)
    have h := o_f h c58
    refine lv_aload_n hx hb dL_isStepSo_503 rfl (lv_at hl 0 rfl) ?_
    refine lv_iconst (v := (4 : Int32)) hx hb dL_isStepSo_504 (by decide) ?_
    obtain ⟨v59, g60, h⟩ := o_b h
    have g60 := o_R_ g60
    refine k_ro (va_runV (As := [.int (4 : Int32)]) (rest := []) ⟨hx, hb, hml, hown, hts⟩ (c_X5_count l dC dI cI cF a S (4 : Int32) v59 g60) (cwV 1 hts gL_isStepSo_X5_count rfl rfl rfl (by decide +kernel) ⟨Nat.le_of_ble_eq_true rfl, Nat.le_of_ble_eq_true rfl⟩) (k_preL (q0 := 0) (ci := 5) hK hP (LN_id (fX5 a cI cF S S)) rfl rfl rfl) rfl rfl hl.1 rfl (lv_room (Nat.le_of_ble_eq_true rfl)) dL_isStepSo_505 ⟨Nat.zero_le _, Nat.zero_le _⟩) (st1 := [.int v59]) rfl ?_
    refine lv_iload hx hb dL_isStepSo_508 (lv_at hl 3 rfl) ?_
    refine lv_icmp_ne (tgt := 600) hx hb dL_isStepSo_510 (by decide) (fun c61 => ?_) (fun c61 => ?_)
    · have h := o_f h c61
      refine lv_iconst (v := (0 : Int32)) hx hb dL_isStepSo_600 (by decide) ?_
      refine lv_istore (lv' := [(15, .int (0 : Int32)), (0, .ref (a 0)), (2, .int y2), (4, .int y4), (9, .int y9), (10, .int y10), (11, .int y11), (12, .int y12), (13, .int y13), (17, .int y17), (18, .int y18), (19, .int y19)]) hx hb dL_isStepSo_601 hl (by decide) rfl (fun ls hl => ?_)
      exact L603 _ _ _ _ _ h _ _ hP hD hS _ (lv_sub hl [1, 3, 5, 6, 0] rfl)
    have h := o_t h c61
    refine lv_aload_n hx hb dL_isStepSo_513 rfl (lv_at hl 0 rfl) ?_
    refine lv_iload hx hb dL_isStepSo_514 (lv_at hl 2 rfl) ?_
    refine lv_iconst (v := (0 : Int32)) hx hb dL_isStepSo_516 (by decide) ?_
    obtain ⟨v62, g63, h⟩ := o_b h
    have g63 := o_R_ g63
    refine k_ro (va_runV (As := [.int y4, .int (0 : Int32)]) (rest := []) ⟨hx, hb, hml, hown, hts⟩ (c_X5_can l dC dI cI cF a S y4 (0 : Int32) v62 g63) (cwV 2 hts gL_isStepSo_X5_can rfl rfl rfl (by decide +kernel) ⟨Nat.le_of_ble_eq_true rfl, Nat.le_of_ble_eq_true rfl⟩) (k_preL (q0 := 0) (ci := 5) hK hP (LN_id (fX5 a cI cF S S)) rfl rfl rfl) rfl rfl hl.1 rfl (lv_room (Nat.le_of_ble_eq_true rfl)) dL_isStepSo_517 ⟨Nat.zero_le _, Nat.zero_le _⟩) (st1 := [.int v62]) rfl ?_
    refine lv_iload hx hb dL_isStepSo_520 (lv_at hl 4 rfl) ?_
    refine lv_iload hx hb dL_isStepSo_522 (lv_at hl 9 rfl) ?_
    refine lv_iadd hx hb dL_isStepSo_524 ?_
    refine lv_icmp_ne (tgt := 600) hx hb dL_isStepSo_525 (by decide) (fun c64 => ?_) (fun c64 => ?_)
    · have h := o_f h c64
      refine lv_iconst (v := (0 : Int32)) hx hb dL_isStepSo_600 (by decide) ?_
      refine lv_istore (lv' := [(15, .int (0 : Int32)), (0, .ref (a 0)), (2, .int y2), (4, .int y4), (9, .int y9), (10, .int y10), (11, .int y11), (12, .int y12), (13, .int y13), (17, .int y17), (18, .int y18), (19, .int y19)]) hx hb dL_isStepSo_601 hl (by decide) rfl (fun ls hl => ?_)
      exact L603 _ _ _ _ _ h _ _ hP hD hS _ (lv_sub hl [1, 3, 5, 6, 0] rfl)
    have h := o_t h c64
    refine lv_aload_n hx hb dL_isStepSo_528 rfl (lv_at hl 0 rfl) ?_
    refine lv_iconst (v := (5 : Int32)) hx hb dL_isStepSo_529 (by decide) ?_
    obtain ⟨v65, g66, h⟩ := o_b h
    have g66 := o_R_ g66
    refine k_ro (va_runV (As := [.int (5 : Int32)]) (rest := []) ⟨hx, hb, hml, hown, hts⟩ (c_X5_count l dC dI cI cF a S (5 : Int32) v65 g66) (cwV 1 hts gL_isStepSo_X5_count rfl rfl rfl (by decide +kernel) ⟨Nat.le_of_ble_eq_true rfl, Nat.le_of_ble_eq_true rfl⟩) (k_preL (q0 := 0) (ci := 5) hK hP (LN_id (fX5 a cI cF S S)) rfl rfl rfl) rfl rfl hl.1 rfl (lv_room (Nat.le_of_ble_eq_true rfl)) dL_isStepSo_530 ⟨Nat.zero_le _, Nat.zero_le _⟩) (st1 := [.int v65]) rfl ?_
    refine lv_iload hx hb dL_isStepSo_533 (lv_at hl 5 rfl) ?_
    refine lv_iload hx hb dL_isStepSo_535 (lv_at hl 10 rfl) ?_
    refine lv_iadd hx hb dL_isStepSo_537 ?_
    refine lv_icmp_ne (tgt := 600) hx hb dL_isStepSo_538 (by decide) (fun c67 => ?_) (fun c67 => ?_)
    · have h := o_f h c67
      refine lv_iconst (v := (0 : Int32)) hx hb dL_isStepSo_600 (by decide) ?_
      refine lv_istore (lv' := [(15, .int (0 : Int32)), (0, .ref (a 0)), (2, .int y2), (4, .int y4), (9, .int y9), (10, .int y10), (11, .int y11), (12, .int y12), (13, .int y13), (17, .int y17), (18, .int y18), (19, .int y19)]) hx hb dL_isStepSo_601 hl (by decide) rfl (fun ls hl => ?_)
      exact L603 _ _ _ _ _ h _ _ hP hD hS _ (lv_sub hl [1, 3, 5, 6, 0] rfl)
    have h := o_t h c67
    refine lv_aload_n hx hb dL_isStepSo_541 rfl (lv_at hl 0 rfl) ?_
    refine lv_bipush (v := (6 : Int32)) hx hb dL_isStepSo_542 (by decide) ?_
    obtain ⟨v68, g69, h⟩ := o_b h
    have g69 := o_R_ g69
    refine k_ro (va_runV (As := [.int (6 : Int32)]) (rest := []) ⟨hx, hb, hml, hown, hts⟩ (c_X5_count l dC dI cI cF a S (6 : Int32) v68 g69) (cwV 1 hts gL_isStepSo_X5_count rfl rfl rfl (by decide +kernel) ⟨Nat.le_of_ble_eq_true rfl, Nat.le_of_ble_eq_true rfl⟩) (k_preL (q0 := 0) (ci := 5) hK hP (LN_id (fX5 a cI cF S S)) rfl rfl rfl) rfl rfl hl.1 rfl (lv_room (Nat.le_of_ble_eq_true rfl)) dL_isStepSo_544 ⟨Nat.zero_le _, Nat.zero_le _⟩) (st1 := [.int v68]) rfl ?_
    refine lv_iload hx hb dL_isStepSo_547 (lv_at hl 6 rfl) ?_
    refine lv_iload hx hb dL_isStepSo_549 (lv_at hl 11 rfl) ?_
    refine lv_iadd hx hb dL_isStepSo_551 ?_
    refine lv_icmp_ne (tgt := 600) hx hb dL_isStepSo_552 (by decide) (fun c70 => ?_) (fun c70 => ?_)
    · have h := o_f h c70
      refine lv_iconst (v := (0 : Int32)) hx hb dL_isStepSo_600 (by decide) ?_
      refine lv_istore (lv' := [(15, .int (0 : Int32)), (0, .ref (a 0)), (2, .int y2), (4, .int y4), (9, .int y9), (10, .int y10), (11, .int y11), (12, .int y12), (13, .int y13), (17, .int y17), (18, .int y18), (19, .int y19)]) hx hb dL_isStepSo_601 hl (by decide) rfl (fun ls hl => ?_)
      exact L603 _ _ _ _ _ h _ _ hP hD hS _ (lv_sub hl [1, 3, 5, 6, 0] rfl)
    have h := o_t h c70
    refine lv_aload_n hx hb dL_isStepSo_555 rfl (lv_at hl 0 rfl) ?_
    refine lv_bipush (v := (10 : Int32)) hx hb dL_isStepSo_556 (by decide) ?_
    obtain ⟨v71, g72, h⟩ := o_b h
    have g72 := o_R_ g72
    refine k_ro (va_runV (As := [.int (10 : Int32)]) (rest := []) ⟨hx, hb, hml, hown, hts⟩ (c_X5_count l dC dI cI cF a S (10 : Int32) v71 g72) (cwV 1 hts gL_isStepSo_X5_count rfl rfl rfl (by decide +kernel) ⟨Nat.le_of_ble_eq_true rfl, Nat.le_of_ble_eq_true rfl⟩) (k_preL (q0 := 0) (ci := 5) hK hP (LN_id (fX5 a cI cF S S)) rfl rfl rfl) rfl rfl hl.1 rfl (lv_room (Nat.le_of_ble_eq_true rfl)) dL_isStepSo_558 ⟨Nat.zero_le _, Nat.zero_le _⟩) (st1 := [.int v71]) rfl ?_
    refine lv_iload hx hb dL_isStepSo_561 (lv_at hl 7 rfl) ?_
    refine lv_iload hx hb dL_isStepSo_563 (lv_at hl 9 rfl) ?_
    refine lv_iadd hx hb dL_isStepSo_565 ?_
    refine lv_icmp_ne (tgt := 600) hx hb dL_isStepSo_566 (by decide) (fun c73 => ?_) (fun c73 => ?_)
    · have h := o_f h c73
      refine lv_iconst (v := (0 : Int32)) hx hb dL_isStepSo_600 (by decide) ?_
      refine lv_istore (lv' := [(15, .int (0 : Int32)), (0, .ref (a 0)), (2, .int y2), (4, .int y4), (9, .int y9), (10, .int y10), (11, .int y11), (12, .int y12), (13, .int y13), (17, .int y17), (18, .int y18), (19, .int y19)]) hx hb dL_isStepSo_601 hl (by decide) rfl (fun ls hl => ?_)
      exact L603 _ _ _ _ _ h _ _ hP hD hS _ (lv_sub hl [1, 3, 5, 6, 0] rfl)
    have h := o_t h c73
    refine lv_aload_n hx hb dL_isStepSo_569 rfl (lv_at hl 0 rfl) ?_
    refine lv_iconst (v := (3 : Int32)) hx hb dL_isStepSo_570 (by decide) ?_
    obtain ⟨v74, g75, h⟩ := o_b h
    have g75 := o_R_ g75
    refine k_ro (va_runV (As := [.int (3 : Int32)]) (rest := []) ⟨hx, hb, hml, hown, hts⟩ (c_X5_count l dC dI cI cF a S (3 : Int32) v74 g75) (cwV 1 hts gL_isStepSo_X5_count rfl rfl rfl (by decide +kernel) ⟨Nat.le_of_ble_eq_true rfl, Nat.le_of_ble_eq_true rfl⟩) (k_preL (q0 := 0) (ci := 5) hK hP (LN_id (fX5 a cI cF S S)) rfl rfl rfl) rfl rfl hl.1 rfl (lv_room (Nat.le_of_ble_eq_true rfl)) dL_isStepSo_571 ⟨Nat.zero_le _, Nat.zero_le _⟩) (st1 := [.int v74]) rfl ?_
    refine lv_iload hx hb dL_isStepSo_574 (lv_at hl 10 rfl) ?_
    refine lv_if_le (tgt := 583) hx hb dL_isStepSo_576 (by decide) (fun c76 => ?_) (fun c76 => ?_)
    · have h := o_t h c76
      refine lv_iconst (v := (0 : Int32)) hx hb dL_isStepSo_583 (by decide) ?_
      exact L584 _ _ _ _ _ _ _ h _ _ hP hD hS _ (lv_sub hl [0, 1, 2, 4, 5] rfl)
    have h := o_f h c76
    refine lv_iconst (v := (1 : Int32)) hx hb dL_isStepSo_579 (by decide) ?_
    refine lv_goto (tgt := 584) hx hb dL_isStepSo_580 (by decide) ?_
    exact L584 _ _ _ _ _ _ _ h _ _ hP hD hS _ (lv_sub hl [0, 1, 2, 4, 5] rfl)
  have L473 : ∀ (k370 : Int32 → Int32 → Int32 → Int32 → Int32 → Int32 → Int32 → Int32 → Int32 → Int32 → Int32 → Int32 → Int32 → S_X5 → Option (Int32 × S_X5)) (ih370 : ∀ (y2 : Int32) (y4 : Int32) (y9 : Int32) (y10 : Int32) (y11 : Int32) (y12 : Int32) (y13 : Int32) (y15 : Int32) (y16 : Int32) (y17 : Int32) (y18 : Int32) (y19 : Int32) (y20 : Int32) (S : S_X5), k370 y2 y4 y9 y10 y11 y12 y13 y15 y16 y17 y18 y19 y20 S = some u → ∀ (H : Heap) (locs : List Loc), va_P (dC, dI) vwCl (wX5 a cI cF S) H → va_D A (wX5 a cI cF S) → va_S A s.heap H locs → ∀ (ls : Array Slot), lv_has ls 23 [(0, .ref (a 0)), (2, .int y2), (4, .int y4), (9, .int y9), (10, .int y10), (11, .int y11), (12, .int y12), (13, .int y13), (15, .int y15), (16, .int y16), (17, .int y17), (18, .int y18), (19, .int y19), (20, .int y20)] → W p l e (headSpec wsL_isStepSo ({ frames := 6, cells := 0, slots := 0, locals := 173 } : Room)).room s m ([.ref (a 0)] : List Value).toArray below meth c H locs 0 0 (MQ below (qRW (dC, dI) (wX5 a cI cF u.2) (some (.int u.1)) A) ([.ref (a 0)] : List Value).toArray s 0 0 A) (F0 m 370 ls [])), ∀ (y2 : Int32) (y4 : Int32) (y9 : Int32) (y10 : Int32) (y11 : Int32) (y12 : Int32) (y13 : Int32) (y15 : Int32) (y16 : Int32) (y17 : Int32) (y19 : Int32) (y20 : Int32) (y21 : Int32) (y22 : Int32) (t0 : Int32) (t1 : Int32) (S : S_X5), m_L_isStepSo_L473 k370 y2 y4 y9 y10 y11 y12 y13 y15 y16 y17 y19 y20 y21 y22 t0 t1 S = some u → ∀ (H : Heap) (locs : List Loc), va_P (dC, dI) vwCl (wX5 a cI cF S) H → va_D A (wX5 a cI cF S) → va_S A s.heap H locs → ∀ (ls : Array Slot), lv_has ls 23 [(0, .ref (a 0)), (2, .int y2), (4, .int y4), (9, .int y9), (10, .int y10), (11, .int y11), (12, .int y12), (13, .int y13), (15, .int y15), (16, .int y16), (17, .int y17), (19, .int y19), (20, .int y20), (21, .int y21), (22, .int y22)] → W p l e (headSpec wsL_isStepSo ({ frames := 6, cells := 0, slots := 0, locals := 173 } : Room)).room s m ([.ref (a 0)] : List Value).toArray below meth c H locs 0 0 (MQ below (qRW (dC, dI) (wX5 a cI cF u.2) (some (.int u.1)) A) ([.ref (a 0)] : List Value).toArray s 0 0 A) (F0 m 473 ls [.int t1, .int t0]) := by
    intro k370 ih370 y2 y4 y9 y10 y11 y12 y13 y15 y16 y17 y19 y20 y21 y22 t0 t1 S h H locs hP hD hS ls hl
    rw [m_L_isStepSo_L473] at h
    refine lv_iadd hx hb dL_isStepSo_473 ?_
    obtain ⟨x18_93, e94, h⟩ := o_n h
    refine lv_nmi e94 ?_
    refine lv_istore (lv' := [(18, .int x18_93), (0, .ref (a 0)), (2, .int y2), (4, .int y4), (9, .int y9), (10, .int y10), (11, .int y11), (12, .int y12), (13, .int y13), (15, .int y15), (16, .int y16), (17, .int y17), (19, .int y19), (20, .int y20), (21, .int y21), (22, .int y22)]) hx hb dL_isStepSo_474 hl (by decide) rfl (fun ls hl => ?_)
    refine lv_iload hx hb dL_isStepSo_476 (lv_at hl 12 rfl) ?_
    refine lv_iload hx hb dL_isStepSo_478 (lv_at hl 15 rfl) ?_
    refine lv_if_eq (tgt := 488) hx hb dL_isStepSo_480 (by decide) (fun c95 => ?_) (fun c95 => ?_)
    · have h := o_t h c95
      refine lv_iconst (v := (0 : Int32)) hx hb dL_isStepSo_488 (by decide) ?_
      refine lv_iadd hx hb dL_isStepSo_489 ?_
      obtain ⟨x19_96, e97, h⟩ := o_n h
      refine lv_nmi e97 ?_
      refine lv_istore (lv' := [(19, .int x19_96), (18, .int x18_93), (0, .ref (a 0)), (2, .int y2), (4, .int y4), (9, .int y9), (10, .int y10), (11, .int y11), (12, .int y12), (13, .int y13), (15, .int y15), (16, .int y16), (17, .int y17), (20, .int y20), (21, .int y21), (22, .int y22)]) hx hb dL_isStepSo_490 hl (by decide) rfl (fun ls hl => ?_)
      obtain ⟨x20_98, e99, h⟩ := o_n h
      refine lv_iinc (v := x20_98) (lv' := [(20, .int x20_98), (19, .int x19_96), (18, .int x18_93), (0, .ref (a 0)), (2, .int y2), (4, .int y4), (9, .int y9), (10, .int y10), (11, .int y11), (12, .int y12), (13, .int y13), (15, .int y15), (16, .int y16), (17, .int y17), (21, .int y21), (22, .int y22)]) hx hb dL_isStepSo_492 hl (k := 13) rfl (by rw [e99]; rfl) (by decide) rfl (fun ls hl => ?_)
      refine lv_goto (tgt := 370) hx hb dL_isStepSo_495 (by decide) ?_
      exact ih370 _ _ _ _ _ _ _ _ _ _ _ _ _ _ h _ _ hP hD hS _ (lv_sub hl [3, 4, 5, 6, 7, 8, 9, 10, 11, 12, 13, 2, 1, 0] rfl)
    have h := o_f h c95
    refine lv_iload hx hb dL_isStepSo_483 (lv_at hl 14 rfl) ?_
    refine lv_goto (tgt := 489) hx hb dL_isStepSo_485 (by decide) ?_
    refine lv_iadd hx hb dL_isStepSo_489 ?_
    obtain ⟨x19_100, e101, h⟩ := o_n h
    refine lv_nmi e101 ?_
    refine lv_istore (lv' := [(19, .int x19_100), (18, .int x18_93), (0, .ref (a 0)), (2, .int y2), (4, .int y4), (9, .int y9), (10, .int y10), (11, .int y11), (12, .int y12), (13, .int y13), (15, .int y15), (16, .int y16), (17, .int y17), (20, .int y20), (21, .int y21), (22, .int y22)]) hx hb dL_isStepSo_490 hl (by decide) rfl (fun ls hl => ?_)
    obtain ⟨x20_102, e103, h⟩ := o_n h
    refine lv_iinc (v := x20_102) (lv' := [(20, .int x20_102), (19, .int x19_100), (18, .int x18_93), (0, .ref (a 0)), (2, .int y2), (4, .int y4), (9, .int y9), (10, .int y10), (11, .int y11), (12, .int y12), (13, .int y13), (15, .int y15), (16, .int y16), (17, .int y17), (21, .int y21), (22, .int y22)]) hx hb dL_isStepSo_492 hl (k := 13) rfl (by rw [e103]; rfl) (by decide) rfl (fun ls hl => ?_)
    refine lv_goto (tgt := 370) hx hb dL_isStepSo_495 (by decide) ?_
    exact ih370 _ _ _ _ _ _ _ _ _ _ _ _ _ _ h _ _ hP hD hS _ (lv_sub hl [3, 4, 5, 6, 7, 8, 9, 10, 11, 12, 13, 2, 1, 0] rfl)
  have L444 : ∀ (k370 : Int32 → Int32 → Int32 → Int32 → Int32 → Int32 → Int32 → Int32 → Int32 → Int32 → Int32 → Int32 → Int32 → S_X5 → Option (Int32 × S_X5)) (ih370 : ∀ (y2 : Int32) (y4 : Int32) (y9 : Int32) (y10 : Int32) (y11 : Int32) (y12 : Int32) (y13 : Int32) (y15 : Int32) (y16 : Int32) (y17 : Int32) (y18 : Int32) (y19 : Int32) (y20 : Int32) (S : S_X5), k370 y2 y4 y9 y10 y11 y12 y13 y15 y16 y17 y18 y19 y20 S = some u → ∀ (H : Heap) (locs : List Loc), va_P (dC, dI) vwCl (wX5 a cI cF S) H → va_D A (wX5 a cI cF S) → va_S A s.heap H locs → ∀ (ls : Array Slot), lv_has ls 23 [(0, .ref (a 0)), (2, .int y2), (4, .int y4), (9, .int y9), (10, .int y10), (11, .int y11), (12, .int y12), (13, .int y13), (15, .int y15), (16, .int y16), (17, .int y17), (18, .int y18), (19, .int y19), (20, .int y20)] → W p l e (headSpec wsL_isStepSo ({ frames := 6, cells := 0, slots := 0, locals := 173 } : Room)).room s m ([.ref (a 0)] : List Value).toArray below meth c H locs 0 0 (MQ below (qRW (dC, dI) (wX5 a cI cF u.2) (some (.int u.1)) A) ([.ref (a 0)] : List Value).toArray s 0 0 A) (F0 m 370 ls [])), ∀ (y2 : Int32) (y4 : Int32) (y9 : Int32) (y10 : Int32) (y11 : Int32) (y12 : Int32) (y13 : Int32) (y16 : Int32) (y17 : Int32) (y18 : Int32) (y19 : Int32) (y20 : Int32) (y21 : Int32) (y22 : Int32) (t0 : Int32) (S : S_X5), m_L_isStepSo_L444 k370 y2 y4 y9 y10 y11 y12 y13 y16 y17 y18 y19 y20 y21 y22 t0 S = some u → ∀ (H : Heap) (locs : List Loc), va_P (dC, dI) vwCl (wX5 a cI cF S) H → va_D A (wX5 a cI cF S) → va_S A s.heap H locs → ∀ (ls : Array Slot), lv_has ls 23 [(0, .ref (a 0)), (2, .int y2), (4, .int y4), (9, .int y9), (10, .int y10), (11, .int y11), (12, .int y12), (13, .int y13), (16, .int y16), (17, .int y17), (18, .int y18), (19, .int y19), (20, .int y20), (21, .int y21), (22, .int y22)] → W p l e (headSpec wsL_isStepSo ({ frames := 6, cells := 0, slots := 0, locals := 173 } : Room)).room s m ([.ref (a 0)] : List Value).toArray below meth c H locs 0 0 (MQ below (qRW (dC, dI) (wX5 a cI cF u.2) (some (.int u.1)) A) ([.ref (a 0)] : List Value).toArray s 0 0 A) (F0 m 444 ls [.int t0]) := by
    intro k370 ih370 y2 y4 y9 y10 y11 y12 y13 y16 y17 y18 y19 y20 y21 y22 t0 S h H locs hP hD hS ls hl
    rw [m_L_isStepSo_L444] at h
    refine lv_istore (lv' := [(15, .int t0), (0, .ref (a 0)), (2, .int y2), (4, .int y4), (9, .int y9), (10, .int y10), (11, .int y11), (12, .int y12), (13, .int y13), (16, .int y16), (17, .int y17), (18, .int y18), (19, .int y19), (20, .int y20), (21, .int y21), (22, .int y22)]) hx hb dL_isStepSo_444 hl (by decide) rfl (fun ls hl => ?_)
    refine lv_iload hx hb dL_isStepSo_446 (lv_at hl 10 rfl) ?_
    refine lv_iload hx hb dL_isStepSo_448 (lv_at hl 15 rfl) ?_
    refine lv_if_eq (tgt := 457) hx hb dL_isStepSo_450 (by decide) (fun c89 => ?_) (fun c89 => ?_)
    · have h := o_t h c89
      refine lv_iconst (v := (1 : Int32)) hx hb dL_isStepSo_457 (by decide) ?_
      refine lv_iadd hx hb dL_isStepSo_458 ?_
      obtain ⟨x17_90, e91, h⟩ := o_n h
      refine lv_nmi e91 ?_
      refine lv_istore (lv' := [(17, .int x17_90), (15, .int t0), (0, .ref (a 0)), (2, .int y2), (4, .int y4), (9, .int y9), (10, .int y10), (11, .int y11), (12, .int y12), (13, .int y13), (16, .int y16), (18, .int y18), (19, .int y19), (20, .int y20), (21, .int y21), (22, .int y22)]) hx hb dL_isStepSo_459 hl (by decide) rfl (fun ls hl => ?_)
      refine lv_iload hx hb dL_isStepSo_461 (lv_at hl 11 rfl) ?_
      refine lv_iload hx hb dL_isStepSo_463 (lv_at hl 15 rfl) ?_
      refine lv_if_eq (tgt := 472) hx hb dL_isStepSo_465 (by decide) (fun c92 => ?_) (fun c92 => ?_)
      · have h := o_t h c92
        refine lv_iconst (v := (0 : Int32)) hx hb dL_isStepSo_472 (by decide) ?_
        exact L473 _ ih370 _ _ _ _ _ _ _ _ _ _ _ _ _ _ _ _ _ h _ _ hP hD hS _ (lv_sub hl [2, 3, 4, 5, 6, 7, 8, 9, 1, 10, 0, 12, 13, 14, 15] rfl)
      have h := o_f h c92
      refine lv_iconst (v := (1 : Int32)) hx hb dL_isStepSo_468 (by decide) ?_
      refine lv_goto (tgt := 473) hx hb dL_isStepSo_469 (by decide) ?_
      exact L473 _ ih370 _ _ _ _ _ _ _ _ _ _ _ _ _ _ _ _ _ h _ _ hP hD hS _ (lv_sub hl [2, 3, 4, 5, 6, 7, 8, 9, 1, 10, 0, 12, 13, 14, 15] rfl)
    have h := o_f h c89
    refine lv_iconst (v := (0 : Int32)) hx hb dL_isStepSo_453 (by decide) ?_
    refine lv_goto (tgt := 458) hx hb dL_isStepSo_454 (by decide) ?_
    refine lv_iadd hx hb dL_isStepSo_458 ?_
    obtain ⟨x17_104, e105, h⟩ := o_n h
    refine lv_nmi e105 ?_
    refine lv_istore (lv' := [(17, .int x17_104), (15, .int t0), (0, .ref (a 0)), (2, .int y2), (4, .int y4), (9, .int y9), (10, .int y10), (11, .int y11), (12, .int y12), (13, .int y13), (16, .int y16), (18, .int y18), (19, .int y19), (20, .int y20), (21, .int y21), (22, .int y22)]) hx hb dL_isStepSo_459 hl (by decide) rfl (fun ls hl => ?_)
    refine lv_iload hx hb dL_isStepSo_461 (lv_at hl 11 rfl) ?_
    refine lv_iload hx hb dL_isStepSo_463 (lv_at hl 15 rfl) ?_
    refine lv_if_eq (tgt := 472) hx hb dL_isStepSo_465 (by decide) (fun c106 => ?_) (fun c106 => ?_)
    · have h := o_t h c106
      refine lv_iconst (v := (0 : Int32)) hx hb dL_isStepSo_472 (by decide) ?_
      exact L473 _ ih370 _ _ _ _ _ _ _ _ _ _ _ _ _ _ _ _ _ h _ _ hP hD hS _ (lv_sub hl [2, 3, 4, 5, 6, 7, 8, 9, 1, 10, 0, 12, 13, 14, 15] rfl)
    have h := o_f h c106
    refine lv_iconst (v := (1 : Int32)) hx hb dL_isStepSo_468 (by decide) ?_
    refine lv_goto (tgt := 473) hx hb dL_isStepSo_469 (by decide) ?_
    exact L473 _ ih370 _ _ _ _ _ _ _ _ _ _ _ _ _ _ _ _ _ h _ _ hP hD hS _ (lv_sub hl [2, 3, 4, 5, 6, 7, 8, 9, 1, 10, 0, 12, 13, 14, 15] rfl)
  have L411 : ∀ (k370 : Int32 → Int32 → Int32 → Int32 → Int32 → Int32 → Int32 → Int32 → Int32 → Int32 → Int32 → Int32 → Int32 → S_X5 → Option (Int32 × S_X5)) (ih370 : ∀ (y2 : Int32) (y4 : Int32) (y9 : Int32) (y10 : Int32) (y11 : Int32) (y12 : Int32) (y13 : Int32) (y15 : Int32) (y16 : Int32) (y17 : Int32) (y18 : Int32) (y19 : Int32) (y20 : Int32) (S : S_X5), k370 y2 y4 y9 y10 y11 y12 y13 y15 y16 y17 y18 y19 y20 S = some u → ∀ (H : Heap) (locs : List Loc), va_P (dC, dI) vwCl (wX5 a cI cF S) H → va_D A (wX5 a cI cF S) → va_S A s.heap H locs → ∀ (ls : Array Slot), lv_has ls 23 [(0, .ref (a 0)), (2, .int y2), (4, .int y4), (9, .int y9), (10, .int y10), (11, .int y11), (12, .int y12), (13, .int y13), (15, .int y15), (16, .int y16), (17, .int y17), (18, .int y18), (19, .int y19), (20, .int y20)] → W p l e (headSpec wsL_isStepSo ({ frames := 6, cells := 0, slots := 0, locals := 173 } : Room)).room s m ([.ref (a 0)] : List Value).toArray below meth c H locs 0 0 (MQ below (qRW (dC, dI) (wX5 a cI cF u.2) (some (.int u.1)) A) ([.ref (a 0)] : List Value).toArray s 0 0 A) (F0 m 370 ls [])), ∀ (y2 : Int32) (y4 : Int32) (y9 : Int32) (y10 : Int32) (y11 : Int32) (y12 : Int32) (y13 : Int32) (y15 : Int32) (y16 : Int32) (y17 : Int32) (y18 : Int32) (y19 : Int32) (y20 : Int32) (y21 : Int32) (t0 : Int32) (S : S_X5), m_L_isStepSo_L411 k370 y2 y4 y9 y10 y11 y12 y13 y15 y16 y17 y18 y19 y20 y21 t0 S = some u → ∀ (H : Heap) (locs : List Loc), va_P (dC, dI) vwCl (wX5 a cI cF S) H → va_D A (wX5 a cI cF S) → va_S A s.heap H locs → ∀ (ls : Array Slot), lv_has ls 23 [(0, .ref (a 0)), (2, .int y2), (4, .int y4), (9, .int y9), (10, .int y10), (11, .int y11), (12, .int y12), (13, .int y13), (15, .int y15), (16, .int y16), (17, .int y17), (18, .int y18), (19, .int y19), (20, .int y20), (21, .int y21)] → W p l e (headSpec wsL_isStepSo ({ frames := 6, cells := 0, slots := 0, locals := 173 } : Room)).room s m ([.ref (a 0)] : List Value).toArray below meth c H locs 0 0 (MQ below (qRW (dC, dI) (wX5 a cI cF u.2) (some (.int u.1)) A) ([.ref (a 0)] : List Value).toArray s 0 0 A) (F0 m 411 ls [.int t0]) := by
    intro k370 ih370 y2 y4 y9 y10 y11 y12 y13 y15 y16 y17 y18 y19 y20 y21 t0 S h H locs hP hD hS ls hl
    rw [m_L_isStepSo_L411] at h
    refine lv_istore (lv' := [(22, .int t0), (0, .ref (a 0)), (2, .int y2), (4, .int y4), (9, .int y9), (10, .int y10), (11, .int y11), (12, .int y12), (13, .int y13), (15, .int y15), (16, .int y16), (17, .int y17), (18, .int y18), (19, .int y19), (20, .int y20), (21, .int y21)]) hx hb dL_isStepSo_411 hl (by decide) rfl (fun ls hl => ?_)
    refine lv_iload hx hb dL_isStepSo_413 (lv_at hl 9 rfl) ?_
    refine lv_if_eq (tgt := 443) hx hb dL_isStepSo_415 (by decide) (fun c88 => ?_) (fun c88 => ?_)
    · have h := o_t h c88
      refine lv_iconst (v := (0 : Int32)) hx hb dL_isStepSo_443 (by decide) ?_
      exact L444 _ ih370 _ _ _ _ _ _ _ _ _ _ _ _ _ _ _ _ h _ _ hP hD hS _ (lv_sub hl [1, 2, 3, 4, 5, 6, 7, 8, 10, 11, 12, 13, 14, 15, 0] rfl)
    have h := o_f h c88
    refine lv_iload hx hb dL_isStepSo_418 (lv_at hl 0 rfl) ?_
    refine lv_if_ne (tgt := 439) hx hb dL_isStepSo_420 (by decide) (fun c107 => ?_) (fun c107 => ?_)
    · have h := o_f h c107
      refine lv_iconst (v := (1 : Int32)) hx hb dL_isStepSo_439 (by decide) ?_
      refine lv_goto (tgt := 444) hx hb dL_isStepSo_440 (by decide) ?_
      exact L444 _ ih370 _ _ _ _ _ _ _ _ _ _ _ _ _ _ _ _ h _ _ hP hD hS _ (lv_sub hl [1, 2, 3, 4, 5, 6, 7, 8, 10, 11, 12, 13, 14, 15, 0] rfl)
    have h := o_t h c107
    refine lv_aload_n hx hb dL_isStepSo_423 rfl (lv_at hl 1 rfl) ?_
    refine lv_iload hx hb dL_isStepSo_424 (lv_at hl 3 rfl) ?_
    refine lv_iload hx hb dL_isStepSo_426 (lv_at hl 5 rfl) ?_
    refine lv_iload hx hb dL_isStepSo_428 (lv_at hl 11 rfl) ?_
    refine lv_iadd hx hb dL_isStepSo_430 ?_
    obtain ⟨v108, g109, h⟩ := o_b h
    have g109 := o_R_ g109
    refine k_ro (va_runV (As := [.int y4, .int (y10 + y17)]) (rest := []) ⟨hx, hb, hml, hown, hts⟩ (c_X5_metre l dC dI cI cF a S y4 (y10 + y17) v108 g109) (cwV 2 hts gL_isStepSo_X5_metre rfl rfl rfl (by decide +kernel) ⟨Nat.le_of_ble_eq_true rfl, Nat.le_of_ble_eq_true rfl⟩) (k_preL (q0 := 0) (ci := 5) hK hP (LN_id (fX5 a cI cF S S)) rfl rfl rfl) rfl rfl hl.1 rfl (lv_room (Nat.le_of_ble_eq_true rfl)) dL_isStepSo_431 ⟨Nat.zero_le _, Nat.zero_le _⟩) (st1 := [.int v108]) rfl ?_
    refine lv_iload hx hb dL_isStepSo_434 (lv_at hl 15 rfl) ?_
    refine lv_icmp_ne (tgt := 443) hx hb dL_isStepSo_436 (by decide) (fun c110 => ?_) (fun c110 => ?_)
    · have h := o_f h c110
      refine lv_iconst (v := (0 : Int32)) hx hb dL_isStepSo_443 (by decide) ?_
      exact L444 _ ih370 _ _ _ _ _ _ _ _ _ _ _ _ _ _ _ _ h _ _ hP hD hS _ (lv_sub hl [1, 2, 3, 4, 5, 6, 7, 8, 10, 11, 12, 13, 14, 15, 0] rfl)
    have h := o_t h c110
    refine lv_iconst (v := (1 : Int32)) hx hb dL_isStepSo_439 (by decide) ?_
    refine lv_goto (tgt := 444) hx hb dL_isStepSo_440 (by decide) ?_
    exact L444 _ ih370 _ _ _ _ _ _ _ _ _ _ _ _ _ _ _ _ h _ _ hP hD hS _ (lv_sub hl [1, 2, 3, 4, 5, 6, 7, 8, 10, 11, 12, 13, 14, 15, 0] rfl)
  have L393 : ∀ (k370 : Int32 → Int32 → Int32 → Int32 → Int32 → Int32 → Int32 → Int32 → Int32 → Int32 → Int32 → Int32 → Int32 → S_X5 → Option (Int32 × S_X5)) (ih370 : ∀ (y2 : Int32) (y4 : Int32) (y9 : Int32) (y10 : Int32) (y11 : Int32) (y12 : Int32) (y13 : Int32) (y15 : Int32) (y16 : Int32) (y17 : Int32) (y18 : Int32) (y19 : Int32) (y20 : Int32) (S : S_X5), k370 y2 y4 y9 y10 y11 y12 y13 y15 y16 y17 y18 y19 y20 S = some u → ∀ (H : Heap) (locs : List Loc), va_P (dC, dI) vwCl (wX5 a cI cF S) H → va_D A (wX5 a cI cF S) → va_S A s.heap H locs → ∀ (ls : Array Slot), lv_has ls 23 [(0, .ref (a 0)), (2, .int y2), (4, .int y4), (9, .int y9), (10, .int y10), (11, .int y11), (12, .int y12), (13, .int y13), (15, .int y15), (16, .int y16), (17, .int y17), (18, .int y18), (19, .int y19), (20, .int y20)] → W p l e (headSpec wsL_isStepSo ({ frames := 6, cells := 0, slots := 0, locals := 173 } : Room)).room s m ([.ref (a 0)] : List Value).toArray below meth c H locs 0 0 (MQ below (qRW (dC, dI) (wX5 a cI cF u.2) (some (.int u.1)) A) ([.ref (a 0)] : List Value).toArray s 0 0 A) (F0 m 370 ls [])), ∀ (y2 : Int32) (y4 : Int32) (y9 : Int32) (y10 : Int32) (y11 : Int32) (y12 : Int32) (y13 : Int32) (y15 : Int32) (y16 : Int32) (y17 : Int32) (y18 : Int32) (y19 : Int32) (y20 : Int32) (t0 : Int32) (t1 : Int32) (S : S_X5), m_L_isStepSo_L393 k370 y2 y4 y9 y10 y11 y12 y13 y15 y16 y17 y18 y19 y20 t0 t1 S = some u → ∀ (H : Heap) (locs : List Loc), va_P (dC, dI) vwCl (wX5 a cI cF S) H → va_D A (wX5 a cI cF S) → va_S A s.heap H locs → ∀ (ls : Array Slot), lv_has ls 23 [(0, .ref (a 0)), (2, .int y2), (4, .int y4), (9, .int y9), (10, .int y10), (11, .int y11), (12, .int y12), (13, .int y13), (15, .int y15), (16, .int y16), (17, .int y17), (18, .int y18), (19, .int y19), (20, .int y20)] → W p l e (headSpec wsL_isStepSo ({ frames := 6, cells := 0, slots := 0, locals := 173 } : Room)).room s m ([.ref (a 0)] : List Value).toArray below meth c H locs 0 0 (MQ below (qRW (dC, dI) (wX5 a cI cF u.2) (some (.int u.1)) A) ([.ref (a 0)] : List Value).toArray s 0 0 A) (F0 m 393 ls [.int t1, .int t0]) := by
    intro k370 ih370 y2 y4 y9 y10 y11 y12 y13 y15 y16 y17 y18 y19 y20 t0 t1 S h H locs hP hD hS ls hl
    rw [m_L_isStepSo_L393] at h
    refine lv_iadd hx hb dL_isStepSo_393 ?_
    obtain ⟨x21_83, e84, h⟩ := o_n h
    refine lv_nmi e84 ?_
    refine lv_istore (lv' := [(21, .int x21_83), (0, .ref (a 0)), (2, .int y2), (4, .int y4), (9, .int y9), (10, .int y10), (11, .int y11), (12, .int y12), (13, .int y13), (15, .int y15), (16, .int y16), (17, .int y17), (18, .int y18), (19, .int y19), (20, .int y20)]) hx hb dL_isStepSo_394 hl (by decide) rfl (fun ls hl => ?_)
    refine lv_iload hx hb dL_isStepSo_396 (lv_at hl 0 rfl) ?_
    refine lv_aload_n hx hb dL_isStepSo_398 rfl (lv_at hl 1 rfl) ?_
    refine lv_iconst (v := (4 : Int32)) hx hb dL_isStepSo_399 (by decide) ?_
    obtain ⟨v85, g86, h⟩ := o_b h
    have g86 := o_R_ g86
    refine k_ro (va_runV (As := [.int (4 : Int32)]) (rest := [.int x21_83]) ⟨hx, hb, hml, hown, hts⟩ (c_X5_setting l dC dI cI cF a S (4 : Int32) v85 g86) (cwV 1 hts gL_isStepSo_X5_setting rfl rfl rfl (by decide +kernel) ⟨Nat.le_of_ble_eq_true rfl, Nat.le_of_ble_eq_true rfl⟩) (k_preL (q0 := 0) (ci := 5) hK hP (LN_id (fX5 a cI cF S S)) rfl rfl rfl) rfl rfl hl.1 rfl (lv_room (Nat.le_of_ble_eq_true rfl)) dL_isStepSo_400 ⟨Nat.zero_le _, Nat.zero_le _⟩) (st1 := [.int v85, .int x21_83]) rfl ?_
    refine lv_icmp_le (tgt := 410) hx hb dL_isStepSo_403 (by decide) (fun c87 => ?_) (fun c87 => ?_)
    · have h := o_t h c87
      refine lv_iconst (v := (0 : Int32)) hx hb dL_isStepSo_410 (by decide) ?_
      exact L411 _ ih370 _ _ _ _ _ _ _ _ _ _ _ _ _ _ _ _ h _ _ hP hD hS _ (lv_sub hl [1, 2, 3, 4, 5, 6, 7, 8, 9, 10, 11, 12, 13, 14, 0] rfl)
    have h := o_f h c87
    refine lv_iconst (v := (1 : Int32)) hx hb dL_isStepSo_406 (by decide) ?_
    refine lv_goto (tgt := 411) hx hb dL_isStepSo_407 (by decide) ?_
    exact L411 _ ih370 _ _ _ _ _ _ _ _ _ _ _ _ _ _ _ _ h _ _ hP hD hS _ (lv_sub hl [1, 2, 3, 4, 5, 6, 7, 8, 9, 10, 11, 12, 13, 14, 0] rfl)
  have L370 : ∀ (n : Nat), ∀ (y2 : Int32) (y4 : Int32) (y9 : Int32) (y10 : Int32) (y11 : Int32) (y12 : Int32) (y13 : Int32) (y15 : Int32) (y16 : Int32) (y17 : Int32) (y18 : Int32) (y19 : Int32) (y20 : Int32) (S : S_X5), m_L_isStepSo_L370 n y2 y4 y9 y10 y11 y12 y13 y15 y16 y17 y18 y19 y20 S = some u → ∀ (H : Heap) (locs : List Loc), va_P (dC, dI) vwCl (wX5 a cI cF S) H → va_D A (wX5 a cI cF S) → va_S A s.heap H locs → ∀ (ls : Array Slot), lv_has ls 23 [(0, .ref (a 0)), (2, .int y2), (4, .int y4), (9, .int y9), (10, .int y10), (11, .int y11), (12, .int y12), (13, .int y13), (15, .int y15), (16, .int y16), (17, .int y17), (18, .int y18), (19, .int y19), (20, .int y20)] → W p l e (headSpec wsL_isStepSo ({ frames := 6, cells := 0, slots := 0, locals := 173 } : Room)).room s m ([.ref (a 0)] : List Value).toArray below meth c H locs 0 0 (MQ below (qRW (dC, dI) (wX5 a cI cF u.2) (some (.int u.1)) A) ([.ref (a 0)] : List Value).toArray s 0 0 A) (F0 m 370 ls []) := by
    intro  n
    induction n with
    | zero =>
      intro y2 y4 y9 y10 y11 y12 y13 y15 y16 y17 y18 y19 y20 S h
      exact (o_0 h).elim
    | succ n ih370 =>
      intro y2 y4 y9 y10 y11 y12 y13 y15 y16 y17 y18 y19 y20 S h H locs hP hD hS ls hl
      rw [m_L_isStepSo_L370] at h
      refine lv_iload hx hb dL_isStepSo_370 (lv_at hl 13 rfl) ?_
      refine lv_iload hx hb dL_isStepSo_372 (lv_at hl 3 rfl) ?_
      refine lv_icmp_ge (tgt := 498) hx hb dL_isStepSo_374 (by decide) (fun c57 => ?_) (fun c57 => ?_)
      · have h := o_t h c57
        exact L498 _ _ _ _ _ _ _ _ _ _ _ _ h _ _ hP hD hS _ (lv_sub hl [0, 1, 2, 3, 4, 5, 6, 7, 8, 10, 11, 12] rfl)
      have h := o_f h c57
      refine lv_iload_n hx hb dL_isStepSo_377 rfl (lv_at hl 1 rfl) ?_
      refine lv_iload hx hb dL_isStepSo_378 (lv_at hl 3 rfl) ?_
      obtain ⟨i81, h⟩ := o_in h
      refine lv_idiv hx hb dL_isStepSo_380 i81 ?_
      refine lv_iload hx hb dL_isStepSo_381 (lv_at hl 13 rfl) ?_
      refine lv_iload hx hb dL_isStepSo_383 (lv_at hl 9 rfl) ?_
      refine lv_icmp_ge (tgt := 392) hx hb dL_isStepSo_385 (by decide) (fun c82 => ?_) (fun c82 => ?_)
      · have h := o_t h c82
        refine lv_iconst (v := (0 : Int32)) hx hb dL_isStepSo_392 (by decide) ?_
        exact L393 _ ih370 _ _ _ _ _ _ _ _ _ _ _ _ _ _ _ _ h _ _ hP hD hS _ (lv_sub hl [0, 1, 2, 3, 4, 5, 6, 7, 8, 9, 10, 11, 12, 13] rfl)
      have h := o_f h c82
      refine lv_iconst (v := (1 : Int32)) hx hb dL_isStepSo_388 (by decide) ?_
      refine lv_goto (tgt := 393) hx hb dL_isStepSo_389 (by decide) ?_
      exact L393 _ ih370 _ _ _ _ _ _ _ _ _ _ _ _ _ _ _ _ h _ _ hP hD hS _ (lv_sub hl [0, 1, 2, 3, 4, 5, 6, 7, 8, 9, 10, 11, 12, 13] rfl)
  have L344 : ∀ (y2 : Int32) (y4 : Int32) (y9 : Int32) (y10 : Int32) (y11 : Int32) (y12 : Int32) (y13 : Int32) (y14 : Int32) (t0 : Int32) (S : S_X5), m_L_isStepSo_L344 y2 y4 y9 y10 y11 y12 y13 y14 t0 S = some u → ∀ (H : Heap) (locs : List Loc), va_P (dC, dI) vwCl (wX5 a cI cF S) H → va_D A (wX5 a cI cF S) → va_S A s.heap H locs → ∀ (ls : Array Slot), lv_has ls 23 [(0, .ref (a 0)), (2, .int y2), (4, .int y4), (9, .int y9), (10, .int y10), (11, .int y11), (12, .int y12), (13, .int y13), (14, .int y14)] → W p l e (headSpec wsL_isStepSo ({ frames := 6, cells := 0, slots := 0, locals := 173 } : Room)).room s m ([.ref (a 0)] : List Value).toArray below meth c H locs 0 0 (MQ below (qRW (dC, dI) (wX5 a cI cF u.2) (some (.int u.1)) A) ([.ref (a 0)] : List Value).toArray s 0 0 A) (F0 m 344 ls [.int t0]) := by
    intro  y2 y4 y9 y10 y11 y12 y13 y14 t0 S h H locs hP hD hS ls hl
    rw [m_L_isStepSo_L344] at h
    refine lv_istore (lv' := [(15, .int t0), (0, .ref (a 0)), (2, .int y2), (4, .int y4), (9, .int y9), (10, .int y10), (11, .int y11), (12, .int y12), (13, .int y13), (14, .int y14)]) hx hb dL_isStepSo_344 hl (by decide) rfl (fun ls hl => ?_)
    refine lv_iload hx hb dL_isStepSo_346 (lv_at hl 9 rfl) ?_
    refine lv_iconst (v := (1 : Int32)) hx hb dL_isStepSo_348 (by decide) ?_
    refine lv_icmp_ne (tgt := 603) hx hb dL_isStepSo_349 (by decide) (fun c41 => ?_) (fun c41 => ?_)
    · have h := o_f h c41
      exact L603 _ _ _ _ _ h _ _ hP hD hS _ (lv_sub hl [1, 3, 5, 6, 0] rfl)
    have h := o_t h c41
    refine lv_iload_n hx hb dL_isStepSo_352 rfl (lv_at hl 2 rfl) ?_
    refine lv_iload hx hb dL_isStepSo_353 (lv_at hl 4 rfl) ?_
    obtain ⟨i54, h⟩ := o_in h
    refine lv_irem hx hb dL_isStepSo_355 i54 ?_
    obtain ⟨x16_55, e56, h⟩ := o_n h
    refine lv_nmi e56 ?_
    refine lv_istore (lv' := [(16, .int x16_55), (15, .int t0), (0, .ref (a 0)), (2, .int y2), (4, .int y4), (9, .int y9), (10, .int y10), (11, .int y11), (12, .int y12), (13, .int y13), (14, .int y14)]) hx hb dL_isStepSo_356 hl (by decide) rfl (fun ls hl => ?_)
    refine lv_iconst (v := (0 : Int32)) hx hb dL_isStepSo_358 (by decide) ?_
    refine lv_istore (lv' := [(17, .int (0 : Int32)), (16, .int x16_55), (15, .int t0), (0, .ref (a 0)), (2, .int y2), (4, .int y4), (9, .int y9), (10, .int y10), (11, .int y11), (12, .int y12), (13, .int y13), (14, .int y14)]) hx hb dL_isStepSo_359 hl (by decide) rfl (fun ls hl => ?_)
    refine lv_iconst (v := (0 : Int32)) hx hb dL_isStepSo_361 (by decide) ?_
    refine lv_istore (lv' := [(18, .int (0 : Int32)), (17, .int (0 : Int32)), (16, .int x16_55), (15, .int t0), (0, .ref (a 0)), (2, .int y2), (4, .int y4), (9, .int y9), (10, .int y10), (11, .int y11), (12, .int y12), (13, .int y13), (14, .int y14)]) hx hb dL_isStepSo_362 hl (by decide) rfl (fun ls hl => ?_)
    refine lv_iconst (v := (0 : Int32)) hx hb dL_isStepSo_364 (by decide) ?_
    refine lv_istore (lv' := [(19, .int (0 : Int32)), (18, .int (0 : Int32)), (17, .int (0 : Int32)), (16, .int x16_55), (15, .int t0), (0, .ref (a 0)), (2, .int y2), (4, .int y4), (9, .int y9), (10, .int y10), (11, .int y11), (12, .int y12), (13, .int y13), (14, .int y14)]) hx hb dL_isStepSo_365 hl (by decide) rfl (fun ls hl => ?_)
    refine lv_iconst (v := (0 : Int32)) hx hb dL_isStepSo_367 (by decide) ?_
    refine lv_istore (lv' := [(20, .int (0 : Int32)), (19, .int (0 : Int32)), (18, .int (0 : Int32)), (17, .int (0 : Int32)), (16, .int x16_55), (15, .int t0), (0, .ref (a 0)), (2, .int y2), (4, .int y4), (9, .int y9), (10, .int y10), (11, .int y11), (12, .int y12), (13, .int y13), (14, .int y14)]) hx hb dL_isStepSo_368 hl (by decide) rfl (fun ls hl => ?_)
    exact L370 _ _ _ _ _ _ _ _ _ _ _ _ _ _ _ h _ _ hP hD hS _ (lv_sub hl [6, 7, 8, 9, 10, 11, 12, 13, 5, 4, 3, 2, 1, 0] rfl)
  have L276 : ∀ (y1 : Int32) (y2 : Int32) (y4 : Int32) (y9 : Int32) (t0 : Int32) (S : S_X5), m_L_isStepSo_L276 y1 y2 y4 y9 t0 S = some u → ∀ (H : Heap) (locs : List Loc), va_P (dC, dI) vwCl (wX5 a cI cF S) H → va_D A (wX5 a cI cF S) → va_S A s.heap H locs → ∀ (ls : Array Slot), lv_has ls 23 [(0, .ref (a 0)), (1, .int y1), (2, .int y2), (4, .int y4), (9, .int y9)] → W p l e (headSpec wsL_isStepSo ({ frames := 6, cells := 0, slots := 0, locals := 173 } : Room)).room s m ([.ref (a 0)] : List Value).toArray below meth c H locs 0 0 (MQ below (qRW (dC, dI) (wX5 a cI cF u.2) (some (.int u.1)) A) ([.ref (a 0)] : List Value).toArray s 0 0 A) (F0 m 276 ls [.int t0]) := by
    intro  y1 y2 y4 y9 t0 S h H locs hP hD hS ls hl
    rw [m_L_isStepSo_L276] at h
    refine lv_istore (lv' := [(5, .int t0), (0, .ref (a 0)), (1, .int y1), (2, .int y2), (4, .int y4), (9, .int y9)]) hx hb dL_isStepSo_276 hl (by decide) rfl (fun ls hl => ?_)
    refine lv_iload hx hb dL_isStepSo_278 (lv_at hl 0 rfl) ?_
    refine lv_iload_n hx hb dL_isStepSo_280 rfl (lv_at hl 2 rfl) ?_
    refine lv_icmp_eq (tgt := 286) hx hb dL_isStepSo_281 (by decide) (fun c26 => ?_) (fun c26 => ?_)
    rotate_left
    · have h := o_f h c26
      refine lv_iconst (v := (0 : Int32)) hx hb dL_isStepSo_284 (by decide) ?_
      have hu := Option.some.inj h
      exact W.zret (v := (0 : Int32)) hx hb hr rfl (fun t ht hW => ⟨⟨congrArg (fun z => Outcome.returned (some (Value.int z.1))) hu, by rw [ht, ← hu]; exact hP⟩, hS.F ht⟩) hS.2.2 dL_isStepSo_285
    have h := o_t h c26
    refine lv_aload_n hx hb dL_isStepSo_286 rfl (lv_at hl 1 rfl) ?_
    refine lv_iload hx hb dL_isStepSo_287 (lv_at hl 4 rfl) ?_
    refine lv_iconst (v := (0 : Int32)) hx hb dL_isStepSo_289 (by decide) ?_
    obtain ⟨v27, g28, h⟩ := o_b h
    have g28 := o_R_ g28
    refine k_ro (va_runV (As := [.int y4, .int (0 : Int32)]) (rest := []) ⟨hx, hb, hml, hown, hts⟩ (c_X5_can l dC dI cI cF a S y4 (0 : Int32) v27 g28) (cwV 2 hts gL_isStepSo_X5_can rfl rfl rfl (by decide +kernel) ⟨Nat.le_of_ble_eq_true rfl, Nat.le_of_ble_eq_true rfl⟩) (k_preL (q0 := 0) (ci := 5) hK hP (LN_id (fX5 a cI cF S S)) rfl rfl rfl) rfl rfl hl.1 rfl (lv_room (Nat.le_of_ble_eq_true rfl)) dL_isStepSo_290 ⟨Nat.zero_le _, Nat.zero_le _⟩) (st1 := [.int v27]) rfl ?_
    refine lv_istore (lv' := [(10, .int v27), (5, .int t0), (0, .ref (a 0)), (1, .int y1), (2, .int y2), (4, .int y4), (9, .int y9)]) hx hb dL_isStepSo_293 hl (by decide) rfl (fun ls hl => ?_)
    refine lv_aload_n hx hb dL_isStepSo_295 rfl (lv_at hl 2 rfl) ?_
    refine lv_iconst (v := (5 : Int32)) hx hb dL_isStepSo_296 (by decide) ?_
    obtain ⟨v29, g30, h⟩ := o_b h
    have g30 := o_R_ g30
    refine k_ro (va_runV (As := [.int (5 : Int32)]) (rest := []) ⟨hx, hb, hml, hown, hts⟩ (c_X5_count l dC dI cI cF a S (5 : Int32) v29 g30) (cwV 1 hts gL_isStepSo_X5_count rfl rfl rfl (by decide +kernel) ⟨Nat.le_of_ble_eq_true rfl, Nat.le_of_ble_eq_true rfl⟩) (k_preL (q0 := 0) (ci := 5) hK hP (LN_id (fX5 a cI cF S S)) rfl rfl rfl) rfl rfl hl.1 rfl (lv_room (Nat.le_of_ble_eq_true rfl)) dL_isStepSo_297 ⟨Nat.zero_le _, Nat.zero_le _⟩) (st1 := [.int v29]) rfl ?_
    refine lv_istore (lv' := [(11, .int v29), (10, .int v27), (5, .int t0), (0, .ref (a 0)), (1, .int y1), (2, .int y2), (4, .int y4), (9, .int y9)]) hx hb dL_isStepSo_300 hl (by decide) rfl (fun ls hl => ?_)
    refine lv_aload_n hx hb dL_isStepSo_302 rfl (lv_at hl 3 rfl) ?_
    refine lv_bipush (v := (6 : Int32)) hx hb dL_isStepSo_303 (by decide) ?_
    obtain ⟨v31, g32, h⟩ := o_b h
    have g32 := o_R_ g32
    refine k_ro (va_runV (As := [.int (6 : Int32)]) (rest := []) ⟨hx, hb, hml, hown, hts⟩ (c_X5_count l dC dI cI cF a S (6 : Int32) v31 g32) (cwV 1 hts gL_isStepSo_X5_count rfl rfl rfl (by decide +kernel) ⟨Nat.le_of_ble_eq_true rfl, Nat.le_of_ble_eq_true rfl⟩) (k_preL (q0 := 0) (ci := 5) hK hP (LN_id (fX5 a cI cF S S)) rfl rfl rfl) rfl rfl hl.1 rfl (lv_room (Nat.le_of_ble_eq_true rfl)) dL_isStepSo_305 ⟨Nat.zero_le _, Nat.zero_le _⟩) (st1 := [.int v31]) rfl ?_
    refine lv_istore (lv' := [(12, .int v31), (11, .int v29), (10, .int v27), (5, .int t0), (0, .ref (a 0)), (1, .int y1), (2, .int y2), (4, .int y4), (9, .int y9)]) hx hb dL_isStepSo_308 hl (by decide) rfl (fun ls hl => ?_)
    refine lv_aload_n hx hb dL_isStepSo_310 rfl (lv_at hl 4 rfl) ?_
    refine lv_bipush (v := (10 : Int32)) hx hb dL_isStepSo_311 (by decide) ?_
    obtain ⟨v33, g34, h⟩ := o_b h
    have g34 := o_R_ g34
    refine k_ro (va_runV (As := [.int (10 : Int32)]) (rest := []) ⟨hx, hb, hml, hown, hts⟩ (c_X5_count l dC dI cI cF a S (10 : Int32) v33 g34) (cwV 1 hts gL_isStepSo_X5_count rfl rfl rfl (by decide +kernel) ⟨Nat.le_of_ble_eq_true rfl, Nat.le_of_ble_eq_true rfl⟩) (k_preL (q0 := 0) (ci := 5) hK hP (LN_id (fX5 a cI cF S S)) rfl rfl rfl) rfl rfl hl.1 rfl (lv_room (Nat.le_of_ble_eq_true rfl)) dL_isStepSo_313 ⟨Nat.zero_le _, Nat.zero_le _⟩) (st1 := [.int v33]) rfl ?_
    refine lv_istore (lv' := [(13, .int v33), (12, .int v31), (11, .int v29), (10, .int v27), (5, .int t0), (0, .ref (a 0)), (1, .int y1), (2, .int y2), (4, .int y4), (9, .int y9)]) hx hb dL_isStepSo_316 hl (by decide) rfl (fun ls hl => ?_)
    refine lv_aload_n hx hb dL_isStepSo_318 rfl (lv_at hl 5 rfl) ?_
    refine lv_iconst (v := (1 : Int32)) hx hb dL_isStepSo_319 (by decide) ?_
    obtain ⟨v35, g36, h⟩ := o_b h
    have g36 := o_R_ g36
    refine k_rwL (va_runV (As := [.int (1 : Int32)]) (rest := []) ⟨hx, hb, hml, hown, hts⟩ (c_X5_run l dC dI cI cF a S (1 : Int32) v35 g36 H.size) (cwV 1 hts gL_isStepSo_X5_run rfl rfl rfl (by decide +kernel) ⟨Nat.le_of_ble_eq_true rfl, Nat.le_of_ble_eq_true rfl⟩) (k_preLw (q0 := 0) (ci := 5) hK hP hD (LN_id (fX5 a cI cF S v35.2)) rfl rfl rfl) rfl rfl hl.1 rfl (lv_room (Nat.le_of_ble_eq_true rfl)) dL_isStepSo_320 ⟨Nat.zero_le _, Nat.zero_le _⟩) (st1 := [.int v35.1]) rfl hP hD hS hA (wn := wX5 a cI cF v35.2) (LN_id (fX5 a cI cF S v35.2)) (fun H locs hP hD hS => ?_)
    obtain ⟨x14_37, e38, h⟩ := o_n h
    refine lv_nmi e38 ?_
    refine lv_istore (lv' := [(14, .int x14_37), (13, .int v33), (12, .int v31), (11, .int v29), (10, .int v27), (5, .int t0), (0, .ref (a 0)), (1, .int y1), (2, .int y2), (4, .int y4), (9, .int y9)]) hx hb dL_isStepSo_323 hl (by decide) rfl (fun ls hl => ?_)
    refine lv_iload hx hb dL_isStepSo_325 (lv_at hl 0 rfl) ?_
    refine lv_iload_n hx hb dL_isStepSo_327 rfl (lv_at hl 7 rfl) ?_
    refine lv_if_ne (tgt := 335) hx hb dL_isStepSo_328 (by decide) (fun c39 => ?_) (fun c39 => ?_)
    · have h := o_f h c39
      refine lv_iconst (v := (0 : Int32)) hx hb dL_isStepSo_335 (by decide) ?_
      refine lv_icmp_ne (tgt := 343) hx hb dL_isStepSo_336 (by decide) (fun c40 => ?_) (fun c40 => ?_)
      · have h := o_f h c40
        refine lv_iconst (v := (0 : Int32)) hx hb dL_isStepSo_343 (by decide) ?_
        exact L344 _ _ _ _ _ _ _ _ _ _ h _ _ hP hD hS _ (lv_sub hl [6, 8, 9, 10, 4, 3, 2, 1, 0] rfl)
      have h := o_t h c40
      refine lv_iconst (v := (1 : Int32)) hx hb dL_isStepSo_339 (by decide) ?_
      refine lv_goto (tgt := 344) hx hb dL_isStepSo_340 (by decide) ?_
      exact L344 _ _ _ _ _ _ _ _ _ _ h _ _ hP hD hS _ (lv_sub hl [6, 8, 9, 10, 4, 3, 2, 1, 0] rfl)
    have h := o_t h c39
    refine lv_iconst (v := (1 : Int32)) hx hb dL_isStepSo_331 (by decide) ?_
    refine lv_goto (tgt := 336) hx hb dL_isStepSo_332 (by decide) ?_
    refine lv_icmp_ne (tgt := 343) hx hb dL_isStepSo_336 (by decide) (fun c111 => ?_) (fun c111 => ?_)
    · have h := o_f h c111
      refine lv_iconst (v := (0 : Int32)) hx hb dL_isStepSo_343 (by decide) ?_
      exact L344 _ _ _ _ _ _ _ _ _ _ h _ _ hP hD hS _ (lv_sub hl [6, 8, 9, 10, 4, 3, 2, 1, 0] rfl)
    have h := o_t h c111
    refine lv_iconst (v := (1 : Int32)) hx hb dL_isStepSo_339 (by decide) ?_
    refine lv_goto (tgt := 344) hx hb dL_isStepSo_340 (by decide) ?_
    exact L344 _ _ _ _ _ _ _ _ _ _ h _ _ hP hD hS _ (lv_sub hl [6, 8, 9, 10, 4, 3, 2, 1, 0] rfl)
  have L250 : ∀ (y1 : Int32) (y2 : Int32) (y4 : Int32) (y5 : Int32) (y9 : Int32) (S : S_X5), m_L_isStepSo_L250 y1 y2 y4 y5 y9 S = some u → ∀ (H : Heap) (locs : List Loc), va_P (dC, dI) vwCl (wX5 a cI cF S) H → va_D A (wX5 a cI cF S) → va_S A s.heap H locs → ∀ (ls : Array Slot), lv_has ls 23 [(0, .ref (a 0)), (1, .int y1), (2, .int y2), (4, .int y4), (5, .int y5), (9, .int y9)] → W p l e (headSpec wsL_isStepSo ({ frames := 6, cells := 0, slots := 0, locals := 173 } : Room)).room s m ([.ref (a 0)] : List Value).toArray below meth c H locs 0 0 (MQ below (qRW (dC, dI) (wX5 a cI cF u.2) (some (.int u.1)) A) ([.ref (a 0)] : List Value).toArray s 0 0 A) (F0 m 250 ls []) := by
    intro  y1 y2 y4 y5 y9 S h H locs hP hD hS ls hl
    rw [m_L_isStepSo_L250] at h
    refine lv_iload hx hb dL_isStepSo_250 (lv_at hl 4 rfl) ?_
    refine lv_if_ne (tgt := 274) hx hb dL_isStepSo_252 (by decide) (fun c25 => ?_) (fun c25 => ?_)
    · have h := o_f h c25
      refine lv_iload hx hb dL_isStepSo_274 (lv_at hl 4 rfl) ?_
      exact L276 _ _ _ _ _ _ h _ _ hP hD hS _ (lv_sub hl [0, 1, 2, 3, 5] rfl)
    have h := o_t h c25
    refine lv_aload_n hx hb dL_isStepSo_255 rfl (lv_at hl 0 rfl) ?_
    refine lv_iload hx hb dL_isStepSo_256 (lv_at hl 3 rfl) ?_
    refine lv_iconst (v := (0 : Int32)) hx hb dL_isStepSo_258 (by decide) ?_
    obtain ⟨v112, g113, h⟩ := o_b h
    have g113 := o_R_ g113
    refine k_ro (va_runV (As := [.int y4, .int (0 : Int32)]) (rest := []) ⟨hx, hb, hml, hown, hts⟩ (c_X5_can l dC dI cI cF a S y4 (0 : Int32) v112 g113) (cwV 2 hts gL_isStepSo_X5_can rfl rfl rfl (by decide +kernel) ⟨Nat.le_of_ble_eq_true rfl, Nat.le_of_ble_eq_true rfl⟩) (k_preL (q0 := 0) (ci := 5) hK hP (LN_id (fX5 a cI cF S S)) rfl rfl rfl) rfl rfl hl.1 rfl (lv_room (Nat.le_of_ble_eq_true rfl)) dL_isStepSo_259 ⟨Nat.zero_le _, Nat.zero_le _⟩) (st1 := [.int v112]) rfl ?_
    refine lv_iload hx hb dL_isStepSo_262 (lv_at hl 5 rfl) ?_
    refine lv_iadd hx hb dL_isStepSo_264 ?_
    refine lv_bipush (v := (40 : Int32)) hx hb dL_isStepSo_265 (by decide) ?_
    refine lv_icmp_le (tgt := 274) hx hb dL_isStepSo_267 (by decide) (fun c114 => ?_) (fun c114 => ?_)
    · have h := o_t h c114
      refine lv_iload hx hb dL_isStepSo_274 (lv_at hl 4 rfl) ?_
      exact L276 _ _ _ _ _ _ h _ _ hP hD hS _ (lv_sub hl [0, 1, 2, 3, 5] rfl)
    have h := o_f h c114
    refine lv_iconst (v := (5 : Int32)) hx hb dL_isStepSo_270 (by decide) ?_
    refine lv_goto (tgt := 276) hx hb dL_isStepSo_271 (by decide) ?_
    exact L276 _ _ _ _ _ _ h _ _ hP hD hS _ (lv_sub hl [0, 1, 2, 3, 5] rfl)
  have L207 : ∀ (n : Nat), ∀ (y1 : Int32) (y2 : Int32) (y4 : Int32) (y5 : Int32) (y7 : Int32) (y8 : Int32) (y9 : Int32) (S : S_X5), m_L_isStepSo_L207 n y1 y2 y4 y5 y7 y8 y9 S = some u → ∀ (H : Heap) (locs : List Loc), va_P (dC, dI) vwCl (wX5 a cI cF S) H → va_D A (wX5 a cI cF S) → va_S A s.heap H locs → ∀ (ls : Array Slot), lv_has ls 23 [(0, .ref (a 0)), (1, .int y1), (2, .int y2), (4, .int y4), (5, .int y5), (7, .int y7), (8, .int y8), (9, .int y9)] → W p l e (headSpec wsL_isStepSo ({ frames := 6, cells := 0, slots := 0, locals := 173 } : Room)).room s m ([.ref (a 0)] : List Value).toArray below meth c H locs 0 0 (MQ below (qRW (dC, dI) (wX5 a cI cF u.2) (some (.int u.1)) A) ([.ref (a 0)] : List Value).toArray s 0 0 A) (F0 m 207 ls []) := by
    intro  n
    induction n with
    | zero =>
      intro y1 y2 y4 y5 y7 y8 y9 S h
      exact (o_0 h).elim
    | succ n ih207 =>
      intro y1 y2 y4 y5 y7 y8 y9 S h H locs hP hD hS ls hl
      rw [m_L_isStepSo_L207] at h
      refine lv_iload hx hb dL_isStepSo_207 (lv_at hl 7 rfl) ?_
      refine lv_bipush (v := (8 : Int32)) hx hb dL_isStepSo_209 (by decide) ?_
      refine lv_icmp_ge (tgt := 236) hx hb dL_isStepSo_211 (by decide) (fun c116 => ?_) (fun c116 => ?_)
      · have h := o_t h c116
        refine lv_iload hx hb dL_isStepSo_236 (lv_at hl 7 rfl) ?_
        refine lv_iconst (v := (1 : Int32)) hx hb dL_isStepSo_238 (by decide) ?_
        refine lv_icmp_ge (tgt := 246) hx hb dL_isStepSo_239 (by decide) (fun c117 => ?_) (fun c117 => ?_)
        · have h := o_t h c117
          refine lv_iload hx hb dL_isStepSo_246 (lv_at hl 7 rfl) ?_
          refine lv_istore (lv' := [(9, .int y9), (0, .ref (a 0)), (1, .int y1), (2, .int y2), (4, .int y4), (5, .int y5), (7, .int y7), (8, .int y8)]) hx hb dL_isStepSo_248 hl (by decide) rfl (fun ls hl => ?_)
          exact L250 _ _ _ _ _ _ h _ _ hP hD hS _ (lv_sub hl [1, 2, 3, 4, 5, 0] rfl)
        have h := o_f h c117
        refine lv_iconst (v := (1 : Int32)) hx hb dL_isStepSo_242 (by decide) ?_
        refine lv_goto (tgt := 248) hx hb dL_isStepSo_243 (by decide) ?_
        refine lv_istore (lv' := [(9, .int (1 : Int32)), (0, .ref (a 0)), (1, .int y1), (2, .int y2), (4, .int y4), (5, .int y5), (7, .int y7), (8, .int y8)]) hx hb dL_isStepSo_248 hl (by decide) rfl (fun ls hl => ?_)
        exact L250 _ _ _ _ _ _ h _ _ hP hD hS _ (lv_sub hl [1, 2, 3, 4, 5, 0] rfl)
      have h := o_f h c116
      refine lv_iconst (v := (2 : Int32)) hx hb dL_isStepSo_214 (by decide) ?_
      refine lv_iload hx hb dL_isStepSo_215 (lv_at hl 5 rfl) ?_
      refine lv_imul hx hb dL_isStepSo_217 ?_
      refine lv_iconst (v := (2 : Int32)) hx hb dL_isStepSo_218 (by decide) ?_
      refine lv_iload hx hb dL_isStepSo_219 (lv_at hl 7 rfl) ?_
      refine lv_imul hx hb dL_isStepSo_221 ?_
      refine lv_iconst (v := (1 : Int32)) hx hb dL_isStepSo_222 (by decide) ?_
      refine lv_iadd hx hb dL_isStepSo_223 ?_
      refine lv_iload hx hb dL_isStepSo_224 (lv_at hl 6 rfl) ?_
      refine lv_imul hx hb dL_isStepSo_226 ?_
      refine lv_icmp_lt (tgt := 236) hx hb dL_isStepSo_227 (by decide) (fun c118 => ?_) (fun c118 => ?_)
      rotate_left
      · have h := o_f h c118
        obtain ⟨x9_120, e121, h⟩ := o_n h
        refine lv_iinc (v := x9_120) (lv' := [(9, .int x9_120), (0, .ref (a 0)), (1, .int y1), (2, .int y2), (4, .int y4), (5, .int y5), (7, .int y7), (8, .int y8)]) hx hb dL_isStepSo_230 hl (k := 7) rfl (by rw [e121]; rfl) (by decide) rfl (fun ls hl => ?_)
        refine lv_goto (tgt := 207) hx hb dL_isStepSo_233 (by decide) ?_
        exact ih207 _ _ _ _ _ _ _ _ h _ _ hP hD hS _ (lv_sub hl [1, 2, 3, 4, 5, 6, 7, 0] rfl)
      have h := o_t h c118
      refine lv_iload hx hb dL_isStepSo_236 (lv_at hl 7 rfl) ?_
      refine lv_iconst (v := (1 : Int32)) hx hb dL_isStepSo_238 (by decide) ?_
      refine lv_icmp_ge (tgt := 246) hx hb dL_isStepSo_239 (by decide) (fun c119 => ?_) (fun c119 => ?_)
      · have h := o_t h c119
        refine lv_iload hx hb dL_isStepSo_246 (lv_at hl 7 rfl) ?_
        refine lv_istore (lv' := [(9, .int y9), (0, .ref (a 0)), (1, .int y1), (2, .int y2), (4, .int y4), (5, .int y5), (7, .int y7), (8, .int y8)]) hx hb dL_isStepSo_248 hl (by decide) rfl (fun ls hl => ?_)
        exact L250 _ _ _ _ _ _ h _ _ hP hD hS _ (lv_sub hl [1, 2, 3, 4, 5, 0] rfl)
      have h := o_f h c119
      refine lv_iconst (v := (1 : Int32)) hx hb dL_isStepSo_242 (by decide) ?_
      refine lv_goto (tgt := 248) hx hb dL_isStepSo_243 (by decide) ?_
      refine lv_istore (lv' := [(9, .int (1 : Int32)), (0, .ref (a 0)), (1, .int y1), (2, .int y2), (4, .int y4), (5, .int y5), (7, .int y7), (8, .int y8)]) hx hb dL_isStepSo_248 hl (by decide) rfl (fun ls hl => ?_)
      exact L250 _ _ _ _ _ _ h _ _ hP hD hS _ (lv_sub hl [1, 2, 3, 4, 5, 0] rfl)
  have L173 : ∀ (y1 : Int32) (y2 : Int32) (y4 : Int32) (y5 : Int32) (t0 : Int32) (S : S_X5), m_L_isStepSo_L173 y1 y2 y4 y5 t0 S = some u → ∀ (H : Heap) (locs : List Loc), va_P (dC, dI) vwCl (wX5 a cI cF S) H → va_D A (wX5 a cI cF S) → va_S A s.heap H locs → ∀ (ls : Array Slot), lv_has ls 23 [(0, .ref (a 0)), (1, .int y1), (2, .int y2), (4, .int y4), (5, .int y5)] → W p l e (headSpec wsL_isStepSo ({ frames := 6, cells := 0, slots := 0, locals := 173 } : Room)).room s m ([.ref (a 0)] : List Value).toArray below meth c H locs 0 0 (MQ below (qRW (dC, dI) (wX5 a cI cF u.2) (some (.int u.1)) A) ([.ref (a 0)] : List Value).toArray s 0 0 A) (F0 m 173 ls [.int t0]) := by
    intro  y1 y2 y4 y5 t0 S h H locs hP hD hS ls hl
    rw [m_L_isStepSo_L173] at h
    refine lv_istore (lv' := [(7, .int t0), (0, .ref (a 0)), (1, .int y1), (2, .int y2), (4, .int y4), (5, .int y5)]) hx hb dL_isStepSo_173 hl (by decide) rfl (fun ls hl => ?_)
    refine lv_aload_n hx hb dL_isStepSo_175 rfl (lv_at hl 1 rfl) ?_
    refine lv_iconst (v := (2 : Int32)) hx hb dL_isStepSo_176 (by decide) ?_
    obtain ⟨v18, g19, h⟩ := o_b h
    have g19 := o_R_ g19
    refine k_ro (va_runV (As := [.int (2 : Int32)]) (rest := []) ⟨hx, hb, hml, hown, hts⟩ (c_X5_setting l dC dI cI cF a S (2 : Int32) v18 g19) (cwV 1 hts gL_isStepSo_X5_setting rfl rfl rfl (by decide +kernel) ⟨Nat.le_of_ble_eq_true rfl, Nat.le_of_ble_eq_true rfl⟩) (k_preL (q0 := 0) (ci := 5) hK hP (LN_id (fX5 a cI cF S S)) rfl rfl rfl) rfl rfl hl.1 rfl (lv_room (Nat.le_of_ble_eq_true rfl)) dL_isStepSo_177 ⟨Nat.zero_le _, Nat.zero_le _⟩) (st1 := [.int v18]) rfl ?_
    refine lv_istore (lv' := [(8, .int v18), (7, .int t0), (0, .ref (a 0)), (1, .int y1), (2, .int y2), (4, .int y4), (5, .int y5)]) hx hb dL_isStepSo_180 hl (by decide) rfl (fun ls hl => ?_)
    refine lv_aload_n hx hb dL_isStepSo_182 rfl (lv_at hl 2 rfl) ?_
    refine lv_iconst (v := (1 : Int32)) hx hb dL_isStepSo_183 (by decide) ?_
    obtain ⟨v20, g21, h⟩ := o_b h
    have g21 := o_R_ g21
    refine k_ro (va_runV (As := [.int (1 : Int32)]) (rest := []) ⟨hx, hb, hml, hown, hts⟩ (c_X5_setting l dC dI cI cF a S (1 : Int32) v20 g21) (cwV 1 hts gL_isStepSo_X5_setting rfl rfl rfl (by decide +kernel) ⟨Nat.le_of_ble_eq_true rfl, Nat.le_of_ble_eq_true rfl⟩) (k_preL (q0 := 0) (ci := 5) hK hP (LN_id (fX5 a cI cF S S)) rfl rfl rfl) rfl rfl hl.1 rfl (lv_room (Nat.le_of_ble_eq_true rfl)) dL_isStepSo_184 ⟨Nat.zero_le _, Nat.zero_le _⟩) (st1 := [.int v20]) rfl ?_
    refine lv_istore (lv' := [(9, .int v20), (8, .int v18), (7, .int t0), (0, .ref (a 0)), (1, .int y1), (2, .int y2), (4, .int y4), (5, .int y5)]) hx hb dL_isStepSo_187 hl (by decide) rfl (fun ls hl => ?_)
    refine lv_aload_n hx hb dL_isStepSo_189 rfl (lv_at hl 3 rfl) ?_
    refine lv_iconst (v := (3 : Int32)) hx hb dL_isStepSo_190 (by decide) ?_
    obtain ⟨v22, g23, h⟩ := o_b h
    have g23 := o_R_ g23
    refine k_ro (va_runV (As := [.int (3 : Int32)]) (rest := []) ⟨hx, hb, hml, hown, hts⟩ (c_X5_setting l dC dI cI cF a S (3 : Int32) v22 g23) (cwV 1 hts gL_isStepSo_X5_setting rfl rfl rfl (by decide +kernel) ⟨Nat.le_of_ble_eq_true rfl, Nat.le_of_ble_eq_true rfl⟩) (k_preL (q0 := 0) (ci := 5) hK hP (LN_id (fX5 a cI cF S S)) rfl rfl rfl) rfl rfl hl.1 rfl (lv_room (Nat.le_of_ble_eq_true rfl)) dL_isStepSo_191 ⟨Nat.zero_le _, Nat.zero_le _⟩) (st1 := [.int v22]) rfl ?_
    refine lv_iconst (v := (1 : Int32)) hx hb dL_isStepSo_194 (by decide) ?_
    refine lv_icmp_ne (tgt := 250) hx hb dL_isStepSo_195 (by decide) (fun c24 => ?_) (fun c24 => ?_)
    · have h := o_f h c24
      exact L250 _ _ _ _ _ _ h _ _ hP hD hS _ (lv_sub hl [3, 4, 5, 6, 7, 0] rfl)
    have h := o_t h c24
    refine lv_iload hx hb dL_isStepSo_198 (lv_at hl 2 rfl) ?_
    refine lv_iconst (v := (-1 : Int32)) hx hb dL_isStepSo_200 (by decide) ?_
    refine lv_icmp_eq (tgt := 250) hx hb dL_isStepSo_201 (by decide) (fun c115 => ?_) (fun c115 => ?_)
    · have h := o_t h c115
      exact L250 _ _ _ _ _ _ h _ _ hP hD hS _ (lv_sub hl [3, 4, 5, 6, 7, 0] rfl)
    have h := o_f h c115
    refine lv_iconst (v := (0 : Int32)) hx hb dL_isStepSo_204 (by decide) ?_
    refine lv_istore (lv' := [(9, .int (0 : Int32)), (8, .int v18), (7, .int t0), (0, .ref (a 0)), (1, .int y1), (2, .int y2), (4, .int y4), (5, .int y5)]) hx hb dL_isStepSo_205 hl (by decide) rfl (fun ls hl => ?_)
    exact L207 _ _ _ _ _ _ _ _ _ h _ _ hP hD hS _ (lv_sub hl [3, 4, 5, 6, 7, 2, 1, 0] rfl)
  have L149 : ∀ (y1 : Int32) (y2 : Int32) (y4 : Int32) (y5 : Int32) (S : S_X5), m_L_isStepSo_L149 y1 y2 y4 y5 S = some u → ∀ (H : Heap) (locs : List Loc), va_P (dC, dI) vwCl (wX5 a cI cF S) H → va_D A (wX5 a cI cF S) → va_S A s.heap H locs → ∀ (ls : Array Slot), lv_has ls 23 [(0, .ref (a 0)), (1, .int y1), (2, .int y2), (4, .int y4), (5, .int y5)] → W p l e (headSpec wsL_isStepSo ({ frames := 6, cells := 0, slots := 0, locals := 173 } : Room)).room s m ([.ref (a 0)] : List Value).toArray below meth c H locs 0 0 (MQ below (qRW (dC, dI) (wX5 a cI cF u.2) (some (.int u.1)) A) ([.ref (a 0)] : List Value).toArray s 0 0 A) (F0 m 149 ls []) := by
    intro  y1 y2 y4 y5 S h H locs hP hD hS ls hl
    rw [m_L_isStepSo_L149] at h
    refine lv_aload_n hx hb dL_isStepSo_149 rfl (lv_at hl 0 rfl) ?_
    refine lv_iconst (v := (0 : Int32)) hx hb dL_isStepSo_150 (by decide) ?_
    obtain ⟨v13, g14, h⟩ := o_b h
    have g14 := o_R_ g14
    refine k_ro (va_runV (As := [.int (0 : Int32)]) (rest := []) ⟨hx, hb, hml, hown, hts⟩ (c_X5_setting l dC dI cI cF a S (0 : Int32) v13 g14) (cwV 1 hts gL_isStepSo_X5_setting rfl rfl rfl (by decide +kernel) ⟨Nat.le_of_ble_eq_true rfl, Nat.le_of_ble_eq_true rfl⟩) (k_preL (q0 := 0) (ci := 5) hK hP (LN_id (fX5 a cI cF S S)) rfl rfl rfl) rfl rfl hl.1 rfl (lv_room (Nat.le_of_ble_eq_true rfl)) dL_isStepSo_151 ⟨Nat.zero_le _, Nat.zero_le _⟩) (st1 := [.int v13]) rfl ?_
    refine lv_istore (lv' := [(6, .int v13), (0, .ref (a 0)), (1, .int y1), (2, .int y2), (4, .int y4), (5, .int y5)]) hx hb dL_isStepSo_154 hl (by decide) rfl (fun ls hl => ?_)
    refine lv_iload hx hb dL_isStepSo_156 (lv_at hl 0 rfl) ?_
    refine lv_if_ne (tgt := 165) hx hb dL_isStepSo_158 (by decide) (fun c15 => ?_) (fun c15 => ?_)
    rotate_left
    · have h := o_t h c15
      refine lv_iload_n hx hb dL_isStepSo_161 rfl (lv_at hl 3 rfl) ?_
      refine lv_goto (tgt := 173) hx hb dL_isStepSo_162 (by decide) ?_
      exact L173 _ _ _ _ _ _ h _ _ hP hD hS _ (lv_sub hl [1, 2, 3, 4, 5] rfl)
    have h := o_f h c15
    refine lv_aload_n hx hb dL_isStepSo_165 rfl (lv_at hl 1 rfl) ?_
    refine lv_iload hx hb dL_isStepSo_166 (lv_at hl 0 rfl) ?_
    refine lv_iconst (v := (1 : Int32)) hx hb dL_isStepSo_168 (by decide) ?_
    refine lv_isub hx hb dL_isStepSo_169 ?_
    obtain ⟨v16, g17, h⟩ := o_b h
    have g17 := o_R_ g17
    refine k_ro (va_runV (As := [.int (v13 - (1 : Int32))]) (rest := []) ⟨hx, hb, hml, hown, hts⟩ (c_X5_feeler l dC dI cI cF a S (v13 - (1 : Int32)) v16 g17) (cwV 1 hts gL_isStepSo_X5_feeler rfl rfl rfl (by decide +kernel) ⟨Nat.le_of_ble_eq_true rfl, Nat.le_of_ble_eq_true rfl⟩) (k_preL (q0 := 0) (ci := 5) hK hP (LN_id (fX5 a cI cF S S)) rfl rfl rfl) rfl rfl hl.1 rfl (lv_room (Nat.le_of_ble_eq_true rfl)) dL_isStepSo_170 ⟨Nat.zero_le _, Nat.zero_le _⟩) (st1 := [.int v16]) rfl ?_
    exact L173 _ _ _ _ _ _ h _ _ hP hD hS _ (lv_sub hl [1, 2, 3, 4, 5] rfl)
  have L111 : ∀ (k61 : Int32 → Int32 → Int32 → Int32 → Int32 → Int32 → S_X5 → Option (Int32 × S_X5)) (ih61 : ∀ (y1 : Int32) (y2 : Int32) (y3 : Int32) (y4 : Int32) (y5 : Int32) (y6 : Int32) (S : S_X5), k61 y1 y2 y3 y4 y5 y6 S = some u → ∀ (H : Heap) (locs : List Loc), va_P (dC, dI) vwCl (wX5 a cI cF S) H → va_D A (wX5 a cI cF S) → va_S A s.heap H locs → ∀ (ls : Array Slot), lv_has ls 23 [(0, .ref (a 0)), (1, .int y1), (2, .int y2), (3, .int y3), (4, .int y4), (5, .int y5), (6, .int y6)] → W p l e (headSpec wsL_isStepSo ({ frames := 6, cells := 0, slots := 0, locals := 173 } : Room)).room s m ([.ref (a 0)] : List Value).toArray below meth c H locs 0 0 (MQ below (qRW (dC, dI) (wX5 a cI cF u.2) (some (.int u.1)) A) ([.ref (a 0)] : List Value).toArray s 0 0 A) (F0 m 61 ls [])), ∀ (y1 : Int32) (y2 : Int32) (y3 : Int32) (y4 : Int32) (y6 : Int32) (y7 : Int32) (t0 : Int32) (S : S_X5), m_L_isStepSo_L111 k61 y1 y2 y3 y4 y6 y7 t0 S = some u → ∀ (H : Heap) (locs : List Loc), va_P (dC, dI) vwCl (wX5 a cI cF S) H → va_D A (wX5 a cI cF S) → va_S A s.heap H locs → ∀ (ls : Array Slot), lv_has ls 23 [(0, .ref (a 0)), (1, .int y1), (2, .int y2), (3, .int y3), (4, .int y4), (6, .int y6), (7, .int y7)] → W p l e (headSpec wsL_isStepSo ({ frames := 6, cells := 0, slots := 0, locals := 173 } : Room)).room s m ([.ref (a 0)] : List Value).toArray below meth c H locs 0 0 (MQ below (qRW (dC, dI) (wX5 a cI cF u.2) (some (.int u.1)) A) ([.ref (a 0)] : List Value).toArray s 0 0 A) (F0 m 111 ls [.int t0]) := by
    intro k61 ih61 y1 y2 y3 y4 y6 y7 t0 S h H locs hP hD hS ls hl
    rw [m_L_isStepSo_L111] at h
    refine lv_istore (lv' := [(5, .int t0), (0, .ref (a 0)), (1, .int y1), (2, .int y2), (3, .int y3), (4, .int y4), (6, .int y6), (7, .int y7)]) hx hb dL_isStepSo_111 hl (by decide) rfl (fun ls hl => ?_)
    refine lv_iload_n hx hb dL_isStepSo_113 rfl (lv_at hl 3 rfl) ?_
    refine lv_iload hx hb dL_isStepSo_114 (lv_at hl 7 rfl) ?_
    refine lv_if_eq (tgt := 140) hx hb dL_isStepSo_116 (by decide) (fun c124 => ?_) (fun c124 => ?_)
    · have h := o_t h c124
      refine lv_iconst (v := (0 : Int32)) hx hb dL_isStepSo_140 (by decide) ?_
      refine lv_iadd hx hb dL_isStepSo_141 ?_
      obtain ⟨x2_125, e126, h⟩ := o_n h
      refine lv_nmi e126 ?_
      refine lv_istore_n (lv' := [(2, .int x2_125), (5, .int t0), (0, .ref (a 0)), (1, .int y1), (3, .int y3), (4, .int y4), (6, .int y6), (7, .int y7)]) hx hb dL_isStepSo_142 rfl hl (by decide) rfl (fun ls hl => ?_)
      obtain ⟨x6_127, e128, h⟩ := o_n h
      refine lv_iinc (v := x6_127) (lv' := [(6, .int x6_127), (2, .int x2_125), (5, .int t0), (0, .ref (a 0)), (1, .int y1), (3, .int y3), (4, .int y4), (7, .int y7)]) hx hb dL_isStepSo_143 hl (k := 6) rfl (by rw [e128]; rfl) (by decide) rfl (fun ls hl => ?_)
      refine lv_goto (tgt := 61) hx hb dL_isStepSo_146 (by decide) ?_
      exact ih61 _ _ _ _ _ _ _ h _ _ hP hD hS _ (lv_sub hl [3, 4, 1, 5, 6, 2, 0] rfl)
    have h := o_f h c124
    refine lv_aload_n hx hb dL_isStepSo_119 rfl (lv_at hl 1 rfl) ?_
    refine lv_iload hx hb dL_isStepSo_120 (lv_at hl 6 rfl) ?_
    refine lv_iconst (v := (0 : Int32)) hx hb dL_isStepSo_122 (by decide) ?_
    obtain ⟨v129, g130, h⟩ := o_b h
    have g130 := o_R_ g130
    refine k_ro (va_runV (As := [.int y6, .int (0 : Int32)]) (rest := [.int y2]) ⟨hx, hb, hml, hown, hts⟩ (c_X5_can l dC dI cI cF a S y6 (0 : Int32) v129 g130) (cwV 2 hts gL_isStepSo_X5_can rfl rfl rfl (by decide +kernel) ⟨Nat.le_of_ble_eq_true rfl, Nat.le_of_ble_eq_true rfl⟩) (k_preL (q0 := 0) (ci := 5) hK hP (LN_id (fX5 a cI cF S S)) rfl rfl rfl) rfl rfl hl.1 rfl (lv_room (Nat.le_of_ble_eq_true rfl)) dL_isStepSo_123 ⟨Nat.zero_le _, Nat.zero_le _⟩) (st1 := [.int v129, .int y2]) rfl ?_
    refine lv_if_le (tgt := 140) hx hb dL_isStepSo_126 (by decide) (fun c131 => ?_) (fun c131 => ?_)
    · have h := o_t h c131
      refine lv_iconst (v := (0 : Int32)) hx hb dL_isStepSo_140 (by decide) ?_
      refine lv_iadd hx hb dL_isStepSo_141 ?_
      obtain ⟨x2_132, e133, h⟩ := o_n h
      refine lv_nmi e133 ?_
      refine lv_istore_n (lv' := [(2, .int x2_132), (5, .int t0), (0, .ref (a 0)), (1, .int y1), (3, .int y3), (4, .int y4), (6, .int y6), (7, .int y7)]) hx hb dL_isStepSo_142 rfl hl (by decide) rfl (fun ls hl => ?_)
      obtain ⟨x6_134, e135, h⟩ := o_n h
      refine lv_iinc (v := x6_134) (lv' := [(6, .int x6_134), (2, .int x2_132), (5, .int t0), (0, .ref (a 0)), (1, .int y1), (3, .int y3), (4, .int y4), (7, .int y7)]) hx hb dL_isStepSo_143 hl (k := 6) rfl (by rw [e135]; rfl) (by decide) rfl (fun ls hl => ?_)
      refine lv_goto (tgt := 61) hx hb dL_isStepSo_146 (by decide) ?_
      exact ih61 _ _ _ _ _ _ _ h _ _ hP hD hS _ (lv_sub hl [3, 4, 1, 5, 6, 2, 0] rfl)
    have h := o_f h c131
    refine lv_aload_n hx hb dL_isStepSo_129 rfl (lv_at hl 1 rfl) ?_
    refine lv_iload hx hb dL_isStepSo_130 (lv_at hl 6 rfl) ?_
    refine lv_bipush (v := (7 : Int32)) hx hb dL_isStepSo_132 (by decide) ?_
    obtain ⟨v136, g137, h⟩ := o_b h
    have g137 := o_R_ g137
    refine k_ro (va_runV (As := [.int y6, .int (7 : Int32)]) (rest := [.int y2]) ⟨hx, hb, hml, hown, hts⟩ (c_X5_can l dC dI cI cF a S y6 (7 : Int32) v136 g137) (cwV 2 hts gL_isStepSo_X5_can rfl rfl rfl (by decide +kernel) ⟨Nat.le_of_ble_eq_true rfl, Nat.le_of_ble_eq_true rfl⟩) (k_preL (q0 := 0) (ci := 5) hK hP (LN_id (fX5 a cI cF S S)) rfl rfl rfl) rfl rfl hl.1 rfl (lv_room (Nat.le_of_ble_eq_true rfl)) dL_isStepSo_134 ⟨Nat.zero_le _, Nat.zero_le _⟩) (st1 := [.int v136, .int y2]) rfl ?_
    refine lv_goto (tgt := 141) hx hb dL_isStepSo_137 (by decide) ?_
    refine lv_iadd hx hb dL_isStepSo_141 ?_
    obtain ⟨x2_138, e139, h⟩ := o_n h
    refine lv_nmi e139 ?_
    refine lv_istore_n (lv' := [(2, .int x2_138), (5, .int t0), (0, .ref (a 0)), (1, .int y1), (3, .int y3), (4, .int y4), (6, .int y6), (7, .int y7)]) hx hb dL_isStepSo_142 rfl hl (by decide) rfl (fun ls hl => ?_)
    obtain ⟨x6_140, e141, h⟩ := o_n h
    refine lv_iinc (v := x6_140) (lv' := [(6, .int x6_140), (2, .int x2_138), (5, .int t0), (0, .ref (a 0)), (1, .int y1), (3, .int y3), (4, .int y4), (7, .int y7)]) hx hb dL_isStepSo_143 hl (k := 6) rfl (by rw [e141]; rfl) (by decide) rfl (fun ls hl => ?_)
    refine lv_goto (tgt := 61) hx hb dL_isStepSo_146 (by decide) ?_
    exact ih61 _ _ _ _ _ _ _ h _ _ hP hD hS _ (lv_sub hl [3, 4, 1, 5, 6, 2, 0] rfl)
  have L83 : ∀ (k61 : Int32 → Int32 → Int32 → Int32 → Int32 → Int32 → S_X5 → Option (Int32 × S_X5)) (ih61 : ∀ (y1 : Int32) (y2 : Int32) (y3 : Int32) (y4 : Int32) (y5 : Int32) (y6 : Int32) (S : S_X5), k61 y1 y2 y3 y4 y5 y6 S = some u → ∀ (H : Heap) (locs : List Loc), va_P (dC, dI) vwCl (wX5 a cI cF S) H → va_D A (wX5 a cI cF S) → va_S A s.heap H locs → ∀ (ls : Array Slot), lv_has ls 23 [(0, .ref (a 0)), (1, .int y1), (2, .int y2), (3, .int y3), (4, .int y4), (5, .int y5), (6, .int y6)] → W p l e (headSpec wsL_isStepSo ({ frames := 6, cells := 0, slots := 0, locals := 173 } : Room)).room s m ([.ref (a 0)] : List Value).toArray below meth c H locs 0 0 (MQ below (qRW (dC, dI) (wX5 a cI cF u.2) (some (.int u.1)) A) ([.ref (a 0)] : List Value).toArray s 0 0 A) (F0 m 61 ls [])), ∀ (y1 : Int32) (y2 : Int32) (y3 : Int32) (y4 : Int32) (y5 : Int32) (y6 : Int32) (t0 : Int32) (S : S_X5), m_L_isStepSo_L83 k61 y1 y2 y3 y4 y5 y6 t0 S = some u → ∀ (H : Heap) (locs : List Loc), va_P (dC, dI) vwCl (wX5 a cI cF S) H → va_D A (wX5 a cI cF S) → va_S A s.heap H locs → ∀ (ls : Array Slot), lv_has ls 23 [(0, .ref (a 0)), (1, .int y1), (2, .int y2), (3, .int y3), (4, .int y4), (5, .int y5), (6, .int y6)] → W p l e (headSpec wsL_isStepSo ({ frames := 6, cells := 0, slots := 0, locals := 173 } : Room)).room s m ([.ref (a 0)] : List Value).toArray below meth c H locs 0 0 (MQ below (qRW (dC, dI) (wX5 a cI cF u.2) (some (.int u.1)) A) ([.ref (a 0)] : List Value).toArray s 0 0 A) (F0 m 83 ls [.int t0]) := by
    intro k61 ih61 y1 y2 y3 y4 y5 y6 t0 S h H locs hP hD hS ls hl
    rw [m_L_isStepSo_L83] at h
    refine lv_istore (lv' := [(7, .int t0), (0, .ref (a 0)), (1, .int y1), (2, .int y2), (3, .int y3), (4, .int y4), (5, .int y5), (6, .int y6)]) hx hb dL_isStepSo_83 hl (by decide) rfl (fun ls hl => ?_)
    refine lv_iload hx hb dL_isStepSo_85 (lv_at hl 6 rfl) ?_
    refine lv_if_ne (tgt := 109) hx hb dL_isStepSo_87 (by decide) (fun c123 => ?_) (fun c123 => ?_)
    · have h := o_f h c123
      refine lv_iload hx hb dL_isStepSo_109 (lv_at hl 6 rfl) ?_
      exact L111 _ ih61 _ _ _ _ _ _ _ _ h _ _ hP hD hS _ (lv_sub hl [1, 2, 3, 4, 5, 7, 0] rfl)
    have h := o_t h c123
    refine lv_iload hx hb dL_isStepSo_90 (lv_at hl 0 rfl) ?_
    refine lv_if_eq (tgt := 109) hx hb dL_isStepSo_92 (by decide) (fun c142 => ?_) (fun c142 => ?_)
    · have h := o_t h c142
      refine lv_iload hx hb dL_isStepSo_109 (lv_at hl 6 rfl) ?_
      exact L111 _ ih61 _ _ _ _ _ _ _ _ h _ _ hP hD hS _ (lv_sub hl [1, 2, 3, 4, 5, 7, 0] rfl)
    have h := o_f h c142
    refine lv_aload_n hx hb dL_isStepSo_95 rfl (lv_at hl 1 rfl) ?_
    refine lv_iload hx hb dL_isStepSo_96 (lv_at hl 7 rfl) ?_
    refine lv_iconst (v := (0 : Int32)) hx hb dL_isStepSo_98 (by decide) ?_
    obtain ⟨v143, g144, h⟩ := o_b h
    have g144 := o_R_ g144
    refine k_ro (va_runV (As := [.int y6, .int (0 : Int32)]) (rest := []) ⟨hx, hb, hml, hown, hts⟩ (c_X5_can l dC dI cI cF a S y6 (0 : Int32) v143 g144) (cwV 2 hts gL_isStepSo_X5_can rfl rfl rfl (by decide +kernel) ⟨Nat.le_of_ble_eq_true rfl, Nat.le_of_ble_eq_true rfl⟩) (k_preL (q0 := 0) (ci := 5) hK hP (LN_id (fX5 a cI cF S S)) rfl rfl rfl) rfl rfl hl.1 rfl (lv_room (Nat.le_of_ble_eq_true rfl)) dL_isStepSo_99 ⟨Nat.zero_le _, Nat.zero_le _⟩) (st1 := [.int v143]) rfl ?_
    refine lv_if_ne (tgt := 109) hx hb dL_isStepSo_102 (by decide) (fun c145 => ?_) (fun c145 => ?_)
    · have h := o_f h c145
      refine lv_iload hx hb dL_isStepSo_109 (lv_at hl 6 rfl) ?_
      exact L111 _ ih61 _ _ _ _ _ _ _ _ h _ _ hP hD hS _ (lv_sub hl [1, 2, 3, 4, 5, 7, 0] rfl)
    have h := o_t h c145
    refine lv_iconst (v := (4 : Int32)) hx hb dL_isStepSo_105 (by decide) ?_
    refine lv_goto (tgt := 111) hx hb dL_isStepSo_106 (by decide) ?_
    exact L111 _ ih61 _ _ _ _ _ _ _ _ h _ _ hP hD hS _ (lv_sub hl [1, 2, 3, 4, 5, 7, 0] rfl)
  have L61 : ∀ (n : Nat), ∀ (y1 : Int32) (y2 : Int32) (y3 : Int32) (y4 : Int32) (y5 : Int32) (y6 : Int32) (S : S_X5), m_L_isStepSo_L61 n y1 y2 y3 y4 y5 y6 S = some u → ∀ (H : Heap) (locs : List Loc), va_P (dC, dI) vwCl (wX5 a cI cF S) H → va_D A (wX5 a cI cF S) → va_S A s.heap H locs → ∀ (ls : Array Slot), lv_has ls 23 [(0, .ref (a 0)), (1, .int y1), (2, .int y2), (3, .int y3), (4, .int y4), (5, .int y5), (6, .int y6)] → W p l e (headSpec wsL_isStepSo ({ frames := 6, cells := 0, slots := 0, locals := 173 } : Room)).room s m ([.ref (a 0)] : List Value).toArray below meth c H locs 0 0 (MQ below (qRW (dC, dI) (wX5 a cI cF u.2) (some (.int u.1)) A) ([.ref (a 0)] : List Value).toArray s 0 0 A) (F0 m 61 ls []) := by
    intro  n
    induction n with
    | zero =>
      intro y1 y2 y3 y4 y5 y6 S h
      exact (o_0 h).elim
    | succ n ih61 =>
      intro y1 y2 y3 y4 y5 y6 S h H locs hP hD hS ls hl
      rw [m_L_isStepSo_L61] at h
      refine lv_iload hx hb dL_isStepSo_61 (lv_at hl 6 rfl) ?_
      refine lv_bipush (v := (8 : Int32)) hx hb dL_isStepSo_63 (by decide) ?_
      refine lv_icmp_ge (tgt := 149) hx hb dL_isStepSo_65 (by decide) (fun c12 => ?_) (fun c12 => ?_)
      · have h := o_t h c12
        exact L149 _ _ _ _ _ h _ _ hP hD hS _ (lv_sub hl [0, 1, 2, 4, 5] rfl)
      have h := o_f h c12
      refine lv_iload_n hx hb dL_isStepSo_68 rfl (lv_at hl 3 rfl) ?_
      refine lv_iload hx hb dL_isStepSo_69 (lv_at hl 6 rfl) ?_
      refine lv_ishr hx hb dL_isStepSo_71 ?_
      refine lv_iconst (v := (1 : Int32)) hx hb dL_isStepSo_72 (by decide) ?_
      refine lv_iand hx hb dL_isStepSo_73 ?_
      refine lv_iconst (v := (1 : Int32)) hx hb dL_isStepSo_74 (by decide) ?_
      refine lv_icmp_ne (tgt := 82) hx hb dL_isStepSo_75 (by decide) (fun c122 => ?_) (fun c122 => ?_)
      · have h := o_f h c122
        refine lv_iconst (v := (0 : Int32)) hx hb dL_isStepSo_82 (by decide) ?_
        exact L83 _ ih61 _ _ _ _ _ _ _ _ h _ _ hP hD hS _ (lv_sub hl [0, 1, 2, 3, 4, 5, 6] rfl)
      have h := o_t h c122
      refine lv_iconst (v := (1 : Int32)) hx hb dL_isStepSo_78 (by decide) ?_
      refine lv_goto (tgt := 83) hx hb dL_isStepSo_79 (by decide) ?_
      exact L83 _ ih61 _ _ _ _ _ _ _ _ h _ _ hP hD hS _ (lv_sub hl [0, 1, 2, 3, 4, 5, 6] rfl)
  have hl := lv_entry ([.ref (a 0)]) (n := 23) (Nat.le_of_ble_eq_true rfl)
  rw [lg_entry_eq]
  generalize (lg_sl ([.ref (a 0)]) ++ List.replicate (23 - (lg_sl ([.ref (a 0)])).length) Slot.unset).toArray = ls at hl ⊢
  have hl : lv_has ls 23 [(0, .ref (a 0))] := hl
  rw [m_L_isStepSo] at h
  refine lv_aload_n hx hb dL_isStepSo_0 rfl (lv_at hl 0 rfl) ?_
  obtain ⟨v1, g2, h⟩ := o_b h
  refine k_ro (va_runV (As := []) (rest := []) ⟨hx, hb, hml, hown, hts⟩ (c_X5_why l dC dI cI cF a S v1 g2) (cwV 0 hts gL_isStepSo_X5_why rfl rfl rfl (by decide +kernel) ⟨Nat.le_of_ble_eq_true rfl, Nat.le_of_ble_eq_true rfl⟩) (k_preL (q0 := 0) (ci := 5) hK hP (LN_id (fX5 a cI cF S S)) rfl rfl rfl) rfl rfl hl.1 rfl (lv_room (Nat.le_of_ble_eq_true rfl)) dL_isStepSo_1 ⟨Nat.zero_le _, Nat.zero_le _⟩) (st1 := [.int v1]) rfl ?_
  refine lv_istore_n (lv' := [(1, .int v1), (0, .ref (a 0))]) hx hb dL_isStepSo_4 rfl hl (by decide) rfl (fun ls hl => ?_)
  refine lv_iconst (v := (0 : Int32)) hx hb dL_isStepSo_5 (by decide) ?_
  refine lv_istore_n (lv' := [(2, .int (0 : Int32)), (1, .int v1), (0, .ref (a 0))]) hx hb dL_isStepSo_6 rfl hl (by decide) rfl (fun ls hl => ?_)
  refine lv_aload_n hx hb dL_isStepSo_7 rfl (lv_at hl 2 rfl) ?_
  refine lv_iconst (v := (1 : Int32)) hx hb dL_isStepSo_8 (by decide) ?_
  obtain ⟨v3, g4, h⟩ := o_b h
  have g4 := o_R_ g4
  refine k_ro (va_runV (As := [.int (1 : Int32)]) (rest := []) ⟨hx, hb, hml, hown, hts⟩ (c_X5_count l dC dI cI cF a S (1 : Int32) v3 g4) (cwV 1 hts gL_isStepSo_X5_count rfl rfl rfl (by decide +kernel) ⟨Nat.le_of_ble_eq_true rfl, Nat.le_of_ble_eq_true rfl⟩) (k_preL (q0 := 0) (ci := 5) hK hP (LN_id (fX5 a cI cF S S)) rfl rfl rfl) rfl rfl hl.1 rfl (lv_room (Nat.le_of_ble_eq_true rfl)) dL_isStepSo_9 ⟨Nat.zero_le _, Nat.zero_le _⟩) (st1 := [.int v3]) rfl ?_
  refine lv_istore_n (lv' := [(3, .int v3), (2, .int (0 : Int32)), (1, .int v1), (0, .ref (a 0))]) hx hb dL_isStepSo_12 rfl hl (by decide) rfl (fun ls hl => ?_)
  refine lv_aload_n hx hb dL_isStepSo_13 rfl (lv_at hl 3 rfl) ?_
  refine lv_iconst (v := (2 : Int32)) hx hb dL_isStepSo_14 (by decide) ?_
  obtain ⟨v5, g6, h⟩ := o_b h
  have g6 := o_R_ g6
  refine k_ro (va_runV (As := [.int (2 : Int32)]) (rest := []) ⟨hx, hb, hml, hown, hts⟩ (c_X5_count l dC dI cI cF a S (2 : Int32) v5 g6) (cwV 1 hts gL_isStepSo_X5_count rfl rfl rfl (by decide +kernel) ⟨Nat.le_of_ble_eq_true rfl, Nat.le_of_ble_eq_true rfl⟩) (k_preL (q0 := 0) (ci := 5) hK hP (LN_id (fX5 a cI cF S S)) rfl rfl rfl) rfl rfl hl.1 rfl (lv_room (Nat.le_of_ble_eq_true rfl)) dL_isStepSo_15 ⟨Nat.zero_le _, Nat.zero_le _⟩) (st1 := [.int v5]) rfl ?_
  refine lv_istore (lv' := [(4, .int v5), (3, .int v3), (2, .int (0 : Int32)), (1, .int v1), (0, .ref (a 0))]) hx hb dL_isStepSo_18 hl (by decide) rfl (fun ls hl => ?_)
  refine lv_aload_n hx hb dL_isStepSo_20 rfl (lv_at hl 4 rfl) ?_
  refine lv_iconst (v := (3 : Int32)) hx hb dL_isStepSo_21 (by decide) ?_
  obtain ⟨v7, g8, h⟩ := o_b h
  have g8 := o_R_ g8
  refine k_ro (va_runV (As := [.int (3 : Int32)]) (rest := []) ⟨hx, hb, hml, hown, hts⟩ (c_X5_count l dC dI cI cF a S (3 : Int32) v7 g8) (cwV 1 hts gL_isStepSo_X5_count rfl rfl rfl (by decide +kernel) ⟨Nat.le_of_ble_eq_true rfl, Nat.le_of_ble_eq_true rfl⟩) (k_preL (q0 := 0) (ci := 5) hK hP (LN_id (fX5 a cI cF S S)) rfl rfl rfl) rfl rfl hl.1 rfl (lv_room (Nat.le_of_ble_eq_true rfl)) dL_isStepSo_22 ⟨Nat.zero_le _, Nat.zero_le _⟩) (st1 := [.int v7]) rfl ?_
  refine lv_iconst (v := (1 : Int32)) hx hb dL_isStepSo_25 (by decide) ?_
  refine lv_icmp_ne (tgt := 33) hx hb dL_isStepSo_26 (by decide) (fun c9 => ?_) (fun c9 => ?_)
  rotate_left
  · have h := o_t h c9
    refine lv_iconst (v := (1 : Int32)) hx hb dL_isStepSo_29 (by decide) ?_
    refine lv_goto (tgt := 56) hx hb dL_isStepSo_30 (by decide) ?_
    refine lv_istore (lv' := [(5, .int (1 : Int32)), (4, .int v5), (3, .int v3), (2, .int (0 : Int32)), (1, .int v1), (0, .ref (a 0))]) hx hb dL_isStepSo_56 hl (by decide) rfl (fun ls hl => ?_)
    refine lv_iconst (v := (0 : Int32)) hx hb dL_isStepSo_58 (by decide) ?_
    refine lv_istore (lv' := [(6, .int (0 : Int32)), (5, .int (1 : Int32)), (4, .int v5), (3, .int v3), (2, .int (0 : Int32)), (1, .int v1), (0, .ref (a 0))]) hx hb dL_isStepSo_59 hl (by decide) rfl (fun ls hl => ?_)
    exact L61 _ _ _ _ _ _ _ _ h _ _ hP hD hS _ (lv_sub hl [6, 5, 4, 3, 2, 1, 0] rfl)
  have h := o_f h c9
  refine lv_iload_n hx hb dL_isStepSo_33 rfl (lv_at hl 1 rfl) ?_
  refine lv_if_ne (tgt := 41) hx hb dL_isStepSo_34 (by decide) (fun c10 => ?_) (fun c10 => ?_)
  rotate_left
  · have h := o_t h c10
    refine lv_iconst (v := (2 : Int32)) hx hb dL_isStepSo_37 (by decide) ?_
    refine lv_goto (tgt := 56) hx hb dL_isStepSo_38 (by decide) ?_
    refine lv_istore (lv' := [(5, .int (2 : Int32)), (4, .int v5), (3, .int v3), (2, .int (0 : Int32)), (1, .int v1), (0, .ref (a 0))]) hx hb dL_isStepSo_56 hl (by decide) rfl (fun ls hl => ?_)
    refine lv_iconst (v := (0 : Int32)) hx hb dL_isStepSo_58 (by decide) ?_
    refine lv_istore (lv' := [(6, .int (0 : Int32)), (5, .int (2 : Int32)), (4, .int v5), (3, .int v3), (2, .int (0 : Int32)), (1, .int v1), (0, .ref (a 0))]) hx hb dL_isStepSo_59 hl (by decide) rfl (fun ls hl => ?_)
    exact L61 _ _ _ _ _ _ _ _ h _ _ hP hD hS _ (lv_sub hl [6, 5, 4, 3, 2, 1, 0] rfl)
  have h := o_f h c10
  refine lv_iload_n hx hb dL_isStepSo_41 rfl (lv_at hl 1 rfl) ?_
  refine lv_iload hx hb dL_isStepSo_42 (lv_at hl 0 rfl) ?_
  refine lv_ishr hx hb dL_isStepSo_44 ?_
  refine lv_iconst (v := (1 : Int32)) hx hb dL_isStepSo_45 (by decide) ?_
  refine lv_iand hx hb dL_isStepSo_46 ?_
  refine lv_iconst (v := (1 : Int32)) hx hb dL_isStepSo_47 (by decide) ?_
  refine lv_icmp_ne (tgt := 55) hx hb dL_isStepSo_48 (by decide) (fun c11 => ?_) (fun c11 => ?_)
  · have h := o_f h c11
    refine lv_iconst (v := (0 : Int32)) hx hb dL_isStepSo_55 (by decide) ?_
    refine lv_istore (lv' := [(5, .int (0 : Int32)), (4, .int v5), (3, .int v3), (2, .int (0 : Int32)), (1, .int v1), (0, .ref (a 0))]) hx hb dL_isStepSo_56 hl (by decide) rfl (fun ls hl => ?_)
    refine lv_iconst (v := (0 : Int32)) hx hb dL_isStepSo_58 (by decide) ?_
    refine lv_istore (lv' := [(6, .int (0 : Int32)), (5, .int (0 : Int32)), (4, .int v5), (3, .int v3), (2, .int (0 : Int32)), (1, .int v1), (0, .ref (a 0))]) hx hb dL_isStepSo_59 hl (by decide) rfl (fun ls hl => ?_)
    exact L61 _ _ _ _ _ _ _ _ h _ _ hP hD hS _ (lv_sub hl [6, 5, 4, 3, 2, 1, 0] rfl)
  have h := o_t h c11
  refine lv_iconst (v := (3 : Int32)) hx hb dL_isStepSo_51 (by decide) ?_
  refine lv_goto (tgt := 56) hx hb dL_isStepSo_52 (by decide) ?_
  refine lv_istore (lv' := [(5, .int (3 : Int32)), (4, .int v5), (3, .int v3), (2, .int (0 : Int32)), (1, .int v1), (0, .ref (a 0))]) hx hb dL_isStepSo_56 hl (by decide) rfl (fun ls hl => ?_)
  refine lv_iconst (v := (0 : Int32)) hx hb dL_isStepSo_58 (by decide) ?_
  refine lv_istore (lv' := [(6, .int (0 : Int32)), (5, .int (3 : Int32)), (4, .int v5), (3, .int v3), (2, .int (0 : Int32)), (1, .int v1), (0, .ref (a 0))]) hx hb dL_isStepSo_59 hl (by decide) rfl (fun ls hl => ?_)
  exact L61 _ _ _ _ _ _ _ _ h _ _ hP hD hS _ (lv_sub hl [6, 5, 4, 3, 2, 1, 0] rfl)

