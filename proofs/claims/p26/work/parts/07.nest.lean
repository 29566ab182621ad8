def nkw : List Cond := [.methodLinkNest RX5 11 yX4_init "TripleJoins", .methodLinkNest RX3 9 yX2_init "TripleJoins", .methodLinkNest RX7 9 yX0_init "TripleJoins", .methodLinkNest RX7 18 yX5_init "TripleJoins", .methodLinkNest RX7 25 yX3_init "TripleJoins", .methodLinkNest RX7 32 yX1_init "TripleJoins", .methodLinkNest RX0 22 yX7_at "TripleJoins", .methodLinkNest RX0 34 yX7_partShift "TripleJoins", .methodLinkNest RX4 19 yX7_at "TripleJoins", .methodLinkNest RX0 37 yX7_put "TripleJoins", .methodLinkNest RX4 27 yX7_put "TripleJoins", .methodLinkNest RX5 36 yX7_rolled "TripleJoins", .methodLinkNest RX5 51 yX7_rolledBack "TripleJoins", .methodLinkNest RX2 25 yX7_put "TripleJoins", .methodLinkNest RX2 33 yX7_at "TripleJoins", .methodLinkNest RX2 67 yX7_hasBit "TripleJoins", .methodLinkNest RX2 71 yX7_partShift "TripleJoins", .methodLinkNest RX2 74 yX7_cellOf "TripleJoins", .methodLinkNest RX2 77 yX7_partOf "TripleJoins", .methodLinkNest RX2 80 yX7_cellShift "TripleJoins", .methodLinkNest RX2 49 yX7_orderOf "TripleJoins", .methodLinkNest RX3 53 yX7_hasBit "TripleJoins", .methodLinkNest RX6 52 yX7_put "TripleJoins", .methodLinkNest RX1 79 yX7_orderOf "TripleJoins", .methodLinkNest RX6 38 yX7_at "TripleJoins", .methodLinkNest RX6 63 yX7_cellOf "TripleJoins", .methodLinkNest RX6 56 yX7_hasBit "TripleJoins", .methodLinkNest RX1 52 yX7_rowMask "TripleJoins", .methodLinkNest RX1 124 yX7_cellOf "TripleJoins", .methodLinkNest RX1 121 yX7_cellShift "TripleJoins", .methodLinkNest RX1 103 yX7_hasBit "TripleJoins"]
def nk (U : State) : Prop := ∀ w ∈ nkw, va_Nw w U
theorem nk_get {U : State} (h : nk U) (k : Nat) {w : Cond} (hw : nkw[k]? = some w) : va_Nw w U := h w (List.mem_of_getElem? hw)
def nk_isn (w : Cond) : Prop := ∃ a i y h, w = .methodLinkNest a i y h
theorem nk_form : ∀ w ∈ nkw, nk_isn w := by
  intro w hw
  simp only [nkw, List.mem_cons, List.not_mem_nil, or_false] at hw
  rcases hw with rfl | rfl | rfl | rfl | rfl | rfl | rfl | rfl | rfl | rfl | rfl | rfl | rfl | rfl | rfl | rfl | rfl | rfl | rfl | rfl | rfl | rfl | rfl | rfl | rfl | rfl | rfl | rfl | rfl | rfl | rfl <;> exact ⟨_, _, _, _, rfl⟩
theorem nk_warm {s U : State} (hW : s.WarmedH U.vm) (h : nk s) : nk U := by
  intro w hw
  obtain ⟨a, i, y, hh, rfl⟩ := nk_form w hw
  exact va_Nw.warmM hW (h _ hw)
theorem nk_same {u U : State} (hv : u.vm = U.vm) (h : nk u) : nk U := by
  intro w hw
  obtain ⟨a, i, y, hh, rfl⟩ := nk_form w hw
  exact va_Nw.same rfl hv (h _ hw)
def cpre (D : va_G) (tys : List (ClassId × FieldType)) (ws : va_W) (sz : Nat) (U : State) : Prop := U.heap.size = sz ∧ va_P D vwCl ws U.heap ∧ va_K D vwCl tys U ∧ va_D (fun _ => True) ws ∧ nk U
theorem cp_blind {av : List Value} {D : va_G} {tys : List (ClassId × FieldType)} {ws : va_W} {sz : Nat} : FrameBlind (va_Pc av (cpre D tys ws sz)) := fun a U g mk q => by
  obtain ⟨q0, q1, qP, qK, qD, qN⟩ := q
  exact ⟨q0, q1, qP, va_K.moved (u := U) (U := U.calling g mk a) (Vm.Alike.refl U.vm) qK, qD, nk_same (u := U) (U := U.calling g mk a) rfl qN⟩
theorem cp_at {s : State} {H : Heap} {D : va_G} {tys : List (ClassId × FieldType)} {ws : va_W} {A : Nat → Prop} (hP : va_P D vwCl ws H) (hK : va_K D vwCl tys s) (hD : va_D A ws) (hN : nk s) : ∀ U : State, U.heap = H → s.WarmedH U.vm → cpre D tys ws H.size U := by
  intro U hU hW
  exact ⟨by rw [hU], by rw [hU]; exact hP, va_K.moved hW.alike hK, hD.weaken (fun _ _ _ _ => trivial), nk_warm hW hN⟩
theorem pb_S {s : State} {H : Heap} {D : va_G} {tys : List (ClassId × FieldType)} {ws : va_W} {A : Nat → Prop} {As : List Value} (hP : va_P D vwCl ws H) (hK : va_K D vwCl tys s) (hD : va_D A ws) (hN : nk s) : PreS s H (va_Pc As (cpre D tys ws H.size)) As :=
  ⟨cp_blind, fun U hU hW => ⟨rfl, cp_at hP hK hD hN U hU hW⟩⟩
theorem pb_I {s : State} {H : Heap} {D : va_G} {tys : List (ClassId × FieldType)} {ws : va_W} {A : Nat → Prop} {b : Nat} {As : List Value} (hP : va_P D vwCl ws H) (hK : va_K D vwCl tys s) (hD : va_D A ws) (hN : nk s) : PreS s H (va_Pc (.ref b :: As) (cpre D tys ws H.size)) (.ref b :: As) :=
  pb_S hP hK hD hN
theorem pb_V {s : State} {H : Heap} {D : va_G} {tys : List (ClassId × FieldType)} {ws : va_W} {A : Nat → Prop} {b q0 ci : Nat} {q : vw_C} {fs : List Value} {As : List Value} (hP : va_P D vwCl ws H) (hK : va_K D vwCl tys s) (hD : va_D A ws) (hN : nk s) (hc : vwCl[ci]? = some q) (he : ws[q0]? = some (b, .inr (ci, fs))) : PreV s H q.1 b (va_Pc (.ref b :: As) (cpre D tys ws H.size)) As :=
  ⟨cp_blind, va_recv hK hP hc he, (pb_S hP hK hD hN).2⟩
/-- what the throws need: two statics, the texts, that each exception is of its own class -/
def xstrs : List (Nat × String) := [(54, "a term is 0 to 99"), (72, "the store has 60 triples"), (78, "the dictionary would have more than 40 terms"), (93, "an order is 0 to 2"), (95, "a part is 0 to 2"), (99, "there is no such triple"), (120, "the dictionary has no such number"), (125, "a term is 0 to 99, or -1 for any"), (140, "the dictionary does not have the term"), (151, "a term is 0 to 99, a variable -1 to -4"), (154, "the query has 3 patterns"), (159, "there is no such pattern"), (184, "there are not so many patterns"), (205, "there is no such answer"), (210, "a variable is 0 to 3"), (216, "the query that was answered did not have the variable"), (231, "the query has no patterns"), (243, "the query has more than 2000 answers")]
def xcls : List String := ["java/lang/IllegalArgumentException", "java/lang/IllegalStateException", "java/lang/IndexOutOfBoundsException"]
def exn (k : Nat) : String := if k = 1 then "java/lang/IllegalArgumentException" else if k = 2 then "java/lang/IllegalStateException" else "java/lang/IndexOutOfBoundsException"
def xk (A : Nat → Prop) (U : State) : Prop := vx_Zq Bundle.tN "UNASSIGNED_STACK" Bundle.steD A U U.heap ∧ vx_Zq Bundle.tN "SUPPRESSED_SENTINEL" Bundle.listD A U U.heap ∧ (∀ q ∈ xstrs, ∃ sa, vk_R RX7 q.1 q.2 sa U) ∧ (∀ q ∈ xcls, va_Nw (.castable q q) U)
def cprex (D : va_G) (tys : List (ClassId × FieldType)) (ws : va_W) (sz : Nat) (A : Nat → Prop) (U : State) : Prop := cpre D tys ws sz U ∧ xk A U
theorem xk_at {s U : State} {H : Heap} {A A1 : Nat → Prop} {locs : List Loc} (hX : xk A s) (hF : ∀ q, A1 q → A q) (hS : va_S A s.heap H locs) (hU : U.heap = H) (hW : s.WarmedH U.vm) : xk A1 U := by
  obtain ⟨h1, h2, h3, h4⟩ := hX
  refine ⟨?_, ?_, fun q hq => ?_, fun q hq => va_Nw.warmC hW (h4 q hq)⟩
  · rw [hU]; exact vx_Zq.moved hW.alike ((h1.kept hS.2.1).narrow hF)
  · rw [hU]; exact vx_Zq.moved hW.alike ((h2.kept hS.2.1).narrow hF)
  · obtain ⟨sa, h⟩ := h3 q hq
    exact ⟨sa, vk_R.warm hW h⟩
theorem cpx_blind {av : List Value} {D : va_G} {tys : List (ClassId × FieldType)} {ws : va_W} {sz : Nat} {A : Nat → Prop} : FrameBlind (va_Pc av (cprex D tys ws sz A)) := fun a U g mk q => by
  obtain ⟨q0, q1, h1, h2, h3, h4⟩ := q
  obtain ⟨-, q9⟩ := cp_blind (av := av) a U g mk ⟨q0, q1⟩
  refine ⟨q0, q9, vx_Zq.moved (u := U) (U := U.calling g mk a) (Vm.Alike.refl U.vm) h1, vx_Zq.moved (u := U) (U := U.calling g mk a) (Vm.Alike.refl U.vm) h2, fun q hq => ?_, fun q hq => va_Nw.same rfl (rfl : U.vm = (U.calling g mk a).vm) (h4 q hq)⟩
  obtain ⟨sa, h⟩ := h3 q hq
  exact ⟨sa, vk_R.same (u := U) (U := U.calling g mk a) rfl h⟩
theorem pbx_S {s : State} {H : Heap} {D : va_G} {tys : List (ClassId × FieldType)} {ws : va_W} {A A0 A1 : Nat → Prop} {locs : List Loc} {As : List Value} (hP : va_P D vwCl ws H) (hK : va_K D vwCl tys s) (hD : va_D A ws) (hN : nk s) (hX : xk A0 s) (hF : ∀ q, A1 q → A0 q) (hS : va_S A0 s.heap H locs) : PreS s H (va_Pc As (cprex D tys ws H.size A1)) As :=
  ⟨cpx_blind, fun U hU hW => ⟨rfl, cp_at hP hK hD hN U hU hW, xk_at hX hF hS hU hW⟩⟩
theorem pbx_V {s : State} {H : Heap} {D : va_G} {tys : List (ClassId × FieldType)} {ws : va_W} {A A0 A1 : Nat → Prop} {locs : List Loc} {b q0 ci : Nat} {q : vw_C} {fs : List Value} {As : List Value} (hP : va_P D vwCl ws H) (hK : va_K D vwCl tys s) (hD : va_D A ws) (hN : nk s) (hX : xk A0 s) (hF : ∀ q, A1 q → A0 q) (hS : va_S A0 s.heap H locs) (hc : vwCl[ci]? = some q) (he : ws[q0]? = some (b, .inr (ci, fs))) : PreV s H q.1 b (va_Pc (.ref b :: As) (cprex D tys ws H.size A1)) As :=
  ⟨cpx_blind, va_recv hK hP hc he, (pbx_S hP hK hD hN hX hF hS).2⟩
