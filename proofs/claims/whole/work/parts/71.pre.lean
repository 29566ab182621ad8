
/-- which exceptions are not of another's class -/
def xncl : List (String × String) := [("java/lang/IllegalStateException", "java/lang/IllegalArgumentException"), ("java/lang/IndexOutOfBoundsException", "java/lang/IllegalArgumentException"), ("java/lang/IllegalArgumentException", "java/lang/IndexOutOfBoundsException")]
def xnc (U : State) : Prop := ∀ q ∈ xncl, va_Nc q.1 q.2 U
def cprel (D : va_G) (tys : List (ClassId × FieldType)) (ws : va_W) (sz : Nat) (A : Nat → Prop) (U : State) : Prop := cprej D tys ws sz A U ∧ xnc U
theorem cpl_blind {av : List Value} {D : va_G} {tys : List (ClassId × FieldType)} {ws : va_W} {sz : Nat} {A : Nat → Prop} : FrameBlind (va_Pc av (cprel D tys ws sz A)) := fun a U g mk q => by
  obtain ⟨q0, q1, q2⟩ := q
  obtain ⟨-, q9⟩ := cpj_blind (av := av) a U g mk ⟨q0, q1⟩
  exact ⟨q0, q9, fun q hq => va_Nc.moved (u := U) (U := U.calling g mk a) (Vm.Alike.refl U.vm) (q2 q hq)⟩
theorem pbl_S {s : State} {H : Heap} {D : va_G} {tys : List (ClassId × FieldType)} {ws : va_W} {A A0 A1 : Nat → Prop} {locs : List Loc} {As : List Value} (hP : va_P D vwCl ws H) (hK : va_K D vwCl tys s) (hD : va_D A ws) (hN : nk s) (hX : xj A0 s) (hC : xnc s) (hF : ∀ q, A1 q → A0 q) (hS : va_S A0 s.heap H locs) : PreS s H (va_Pc As (cprel D tys ws H.size A1)) As :=
  ⟨cpl_blind, fun U hU hW => ⟨rfl, ⟨cp_at hP hK hD hN U hU hW, xj_at hX hF hS hU hW⟩, fun q hq => va_Nc.moved hW.alike (hC q hq)⟩⟩
