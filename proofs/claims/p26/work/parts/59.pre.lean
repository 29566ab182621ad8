
/-- which exceptions are not of another's class -/
def xncl : List (String × String) := [("java/lang/IllegalArgumentException", "java/lang/IndexOutOfBoundsException"), ("java/lang/IllegalStateException", "java/lang/IndexOutOfBoundsException"), ("java/lang/IllegalStateException", "java/lang/IllegalArgumentException")]
def xnc (U : State) : Prop := ∀ q ∈ xncl, va_Nc q.1 q.2 U
def cprel (D : va_G) (tys : List (ClassId × FieldType)) (ws : va_W) (sz : Nat) (A : Nat → Prop) (U : State) : Prop := cprej D tys ws sz A U ∧ xnc U
theorem cpl_blind {av : List Value} {D : va_G} {tys : List (ClassId × FieldType)} {ws : va_W} {sz : Nat} {A : Nat → Prop} : FrameBlind (va_Pc av (cprel D tys ws sz A)) := fun a U g mk q => by
  obtain ⟨q0, q1, q2⟩ := q
  obtain ⟨-, q9⟩ := cpj_blind (av := av) a U g mk ⟨q0, q1⟩
  exact ⟨q0, q9, fun q hq => va_Nc.moved (u := U) (U := U.calling g mk a) (Vm.Alike.refl U.vm) (q2 q hq)⟩
theorem pbl_S {s : State} {H : Heap} {D : va_G} {tys : List (ClassId × FieldType)} {ws : va_W} {A A0 A1 : Nat → Prop} {locs : List Loc} {As : List Value} (hP : va_P D vwCl ws H) (hK : va_K D vwCl tys s) (hD : va_D A ws) (hN : nk s) (hX : xj A0 s) (hC : xnc s) (hF : ∀ q, A1 q → A0 q) (hS : va_S A0 s.heap H locs) : PreS s H (va_Pc As (cprel D tys ws H.size A1)) As :=
  ⟨cpl_blind, fun U hU hW => ⟨rfl, ⟨cp_at hP hK hD hN U hU hW, xj_at hX hF hS hU hW⟩, fun q hq => va_Nc.moved hW.alike (hC q hq)⟩⟩
theorem vx_runSX0 {p : Program} {l : Launch} {e : Env} {R : Room} {s : State} {m : MethodId} {args : Array Value} {below : List Frame} {meth : Method} {c : Code} {H : Heap} {locs : List Loc} {cells slots mc ms : Nat} {g : JFrame} {rest : List Value} {Qa : State → Outcome → State → Prop} {XC : String → State → State → Prop} {free : Addr → Prop} (hr : vx_Run p l e R s m args below meth c H locs cells slots mc ms g rest Qa (fun _ _ _ => False) free) : vx_Run p l e R s m args below meth c H locs cells slots mc ms g rest Qa XC free := by
  intro T hT X
  rcases hr T hT X with h | ⟨q, st₀, t, T', L, E, ce, h0, X', hL, e1, e2, h, -⟩
  · exact Or.inl h
  · exact h.elim
/-- a world's cells were the caller's to write -/
theorem frw {A0 : Nat → Prop} {ws : va_W} {H0 H : Heap} {locs : List Loc} (hD : va_D A0 ws) (hS : va_S A0 H0 H locs) (hA : ∀ q, H0.size ≤ q → A0 q) : ∀ q, va_A ws H.size q → A0 q := by
  intro q h
  rcases h with ⟨k, e, h⟩ | h
  · exact hD.2 k _ h
  · exact hA q (Nat.le_trans hS.1 h)
theorem lv_lit {p : Program} {l : Launch} {e : Env} {R : Room} {s : State} {m : MethodId} {args : Array Value} {below : List Frame} {meth : Method} {c : Code} {H : Heap} {locs : List Loc} {cells slots : Nat} {Q : State → Prop} {pc : Nat} {ls : Array Slot} {rest : List Value} {a b : Int32} (h : a = b) (k : W p l e R s m args below meth c H locs cells slots Q (F0 m pc ls (.int b :: rest))) : W p l e R s m args below meth c H locs cells slots Q (F0 m pc ls (.int a :: rest)) := by
  subst h; exact k
def LC (p : Program) (s : State) (m : MethodId) (args : Array Value) (meth : Method) (c : Code) (cc : ByteArray) (maxL : Nat) (ws : List Cond) : Prop :=
  p.tables.exec = Jvm.exec ∧ c.code = cc ∧ meth.sig.returnType = some .boolean ∧ c.maxLocals = maxL ∧ s.vm.findClass RL = some m.cls ∧ (∀ w ∈ ws, w.before args s = true) ∧ meth.locks = false
def lwO (cI : ClassId) (h0 h0_1 h0_2 h0_3 h0_4 h0_5 h0_6 h0_7 h0_8 h0_9 h0_10 h0_11 h0_12 h0_13 h0_14 h0_15 h0_16 h0_17 h0_18 h0_19 h0_20 h0_21 h0_22 h0_23 h0_24 h0_25 h0_26 h0_27 h0_28 h0_29 h0_30 : Nat) (s0 : TriS) : va_W :=
  [(h0, .inr (7, [.ref h0_1, .ref h0_4, .ref h0_11, .ref h0_21, .ref h0_30, .int s0.keptSize, .int s0.keptVariables])), (h0_1, .inr (0, [.ref h0_2, .ref h0_3, .int s0.dictionary.size])), (h0_2, .inl (cI, 40, .inl s0.dictionary.termByNumber)), (h0_3, .inl (cI, 100, .inl s0.dictionary.nextNumberByTerm)), (h0_4, .inr (5, [.ref h0_5, .ref h0_7, .ref h0_9])), (h0_5, .inr (4, [.ref h0_6, .int s0.store.bySubject.size])), (h0_6, .inl (cI, 60, .inl s0.store.bySubject.keys)), (h0_7, .inr (4, [.ref h0_8, .int s0.store.byPredicate.size])), (h0_8, .inl (cI, 60, .inl s0.store.byPredicate.keys)), (h0_9, .inr (4, [.ref h0_10, .int s0.store.byObject.size])), (h0_10, .inl (cI, 60, .inl s0.store.byObject.keys)), (h0_11, .inr (3, [.ref h0_12, .ref h0_15, .ref h0_18, .int s0.query.size])), (h0_12, .inr (2, [.ref h0_13, .ref h0_14, .int s0.query.first.variableBits, .int s0.query.first.found])), (h0_13, .inl (cI, 3, .inl s0.query.first.told)), (h0_14, .inl (cI, 3, .inl s0.query.first.numbers)), (h0_15, .inr (2, [.ref h0_16, .ref h0_17, .int s0.query.second.variableBits, .int s0.query.second.found])), (h0_16, .inl (cI, 3, .inl s0.query.second.told)), (h0_17, .inl (cI, 3, .inl s0.query.second.numbers)), (h0_18, .inr (2, [.ref h0_19, .ref h0_20, .int s0.query.third.variableBits, .int s0.query.third.found])), (h0_19, .inl (cI, 3, .inl s0.query.third.told)), (h0_20, .inl (cI, 3, .inl s0.query.third.numbers)), (h0_21, .inr (1, [.ref h0_22, .ref h0_26])), (h0_22, .inr (6, [.ref h0_23, .ref h0_24, .ref h0_25, .int s0.joins.made.size, .int s0.joins.made.nextSize, .int s0.joins.made.over])), (h0_23, .inl (cI, 3600, .inl s0.joins.made.rows)), (h0_24, .inl (cI, 3600, .inl s0.joins.made.next_)), (h0_25, .inl (cI, 64, .inl s0.joins.made.starts)), (h0_26, .inr (6, [.ref h0_27, .ref h0_28, .ref h0_29, .int s0.joins.side.size, .int s0.joins.side.nextSize, .int s0.joins.side.over])), (h0_27, .inl (cI, 60, .inl s0.joins.side.rows)), (h0_28, .inl (cI, 60, .inl s0.joins.side.next_)), (h0_29, .inl (cI, 64, .inl s0.joins.side.starts)), (h0_30, .inl (cI, 2000, .inl s0.kept))]
