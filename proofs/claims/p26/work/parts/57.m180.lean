/-- what the throws need: two statics, the texts, that each exception is of its own class -/
def xsup : List String := ["java/lang/RuntimeException", "java/lang/Exception", "java/lang/Throwable"]
def xj (A : Nat → Prop) (U : State) : Prop := vx_Zq Bundle.tN "UNASSIGNED_STACK" Bundle.steD A U U.heap ∧ vx_Zq Bundle.tN "SUPPRESSED_SENTINEL" Bundle.listD A U U.heap ∧ (∀ q ∈ xstrs, ∃ sa, vk_R RX7 q.1 q.2 sa U) ∧ (∀ q ∈ xcls, va_Nw (.castable q q) U) ∧ (∀ q ∈ xsup, va_Nw (.declares (Bundle.initS q)) U)
def cprej (D : va_G) (tys : List (ClassId × FieldType)) (ws : va_W) (sz : Nat) (A : Nat → Prop) (U : State) : Prop := cpre D tys ws sz U ∧ xj A U
theorem xj_at {s U : State} {H : Heap} {A A1 : Nat → Prop} {locs : List Loc} (hX : xj A s) (hF : ∀ q, A1 q → A q) (hS : va_S A s.heap H locs) (hU : U.heap = H) (hW : s.WarmedH U.vm) : xj A1 U := by
  obtain ⟨h1, h2, h3, h4, h5⟩ := hX
  refine ⟨?_, ?_, fun q hq => ?_, fun q hq => va_Nw.warmC hW (h4 q hq), fun q hq => va_Nw.warmD hW (h5 q hq)⟩
  · rw [hU]; exact vx_Zq.moved hW.alike ((h1.kept hS.2.1).narrow hF)
  · rw [hU]; exact vx_Zq.moved hW.alike ((h2.kept hS.2.1).narrow hF)
  · obtain ⟨sa, h⟩ := h3 q hq
    exact ⟨sa, vk_R.warm hW h⟩
theorem cpj_blind {av : List Value} {D : va_G} {tys : List (ClassId × FieldType)} {ws : va_W} {sz : Nat} {A : Nat → Prop} : FrameBlind (va_Pc av (cprej D tys ws sz A)) := fun a U g mk q => by
  obtain ⟨q0, q1, h1, h2, h3, h4, h5⟩ := q
  obtain ⟨-, q9⟩ := cp_blind (av := av) a U g mk ⟨q0, q1⟩
  refine ⟨q0, q9, vx_Zq.moved (u := U) (U := U.calling g mk a) (Vm.Alike.refl U.vm) h1, vx_Zq.moved (u := U) (U := U.calling g mk a) (Vm.Alike.refl U.vm) h2, fun q hq => ?_, fun q hq => va_Nw.same rfl (rfl : U.vm = (U.calling g mk a).vm) (h4 q hq), fun q hq => va_Nw.same rfl (rfl : U.vm = (U.calling g mk a).vm) (h5 q hq)⟩
  obtain ⟨sa, h⟩ := h3 q hq
  exact ⟨sa, vk_R.same (u := U) (U := U.calling g mk a) rfl h⟩
theorem pbj_S {s : State} {H : Heap} {D : va_G} {tys : List (ClassId × FieldType)} {ws : va_W} {A A0 A1 : Nat → Prop} {locs : List Loc} {As : List Value} (hP : va_P D vwCl ws H) (hK : va_K D vwCl tys s) (hD : va_D A ws) (hN : nk s) (hX : xj A0 s) (hF : ∀ q, A1 q → A0 q) (hS : va_S A0 s.heap H locs) : PreS s H (va_Pc As (cprej D tys ws H.size A1)) As :=
  ⟨cpj_blind, fun U hU hW => ⟨rfl, cp_at hP hK hD hN U hU hW, xj_at hX hF hS hU hW⟩⟩
theorem pbj_V {s : State} {H : Heap} {D : va_G} {tys : List (ClassId × FieldType)} {ws : va_W} {A A0 A1 : Nat → Prop} {locs : List Loc} {b q0 ci : Nat} {q : vw_C} {fs : List Value} {As : List Value} (hP : va_P D vwCl ws H) (hK : va_K D vwCl tys s) (hD : va_D A ws) (hN : nk s) (hX : xj A0 s) (hF : ∀ q, A1 q → A0 q) (hS : va_S A0 s.heap H locs) (hc : vwCl[ci]? = some q) (he : ws[q0]? = some (b, .inr (ci, fs))) : PreV s H q.1 b (va_Pc (.ref b :: As) (cprej D tys ws H.size A1)) As :=
  ⟨cpj_blind, va_recv hK hP hc he, (pbj_S hP hK hD hN hX hF hS).2⟩
