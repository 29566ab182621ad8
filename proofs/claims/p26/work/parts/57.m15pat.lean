abbrev Q_X2_init (dC : Nat → ClassId) (dI : Nat → Nat → Nat) (cI : ClassId) (h0 : Nat) (A : Nat → Prop) (post : PatS → Prop) : Array Value → State → Outcome → State → Prop := va_Qv post (fun (u : PatS) (t : State) => ∃ q_1 q_2 : Nat, va_P (dC, dI) vwCl [(h0, .inr (2, [.ref q_1, .ref q_2, .int u.variableBits, .int u.found])), (q_1, .inl (cI, 3, .inl u.told)), (q_2, .inl (cI, 3, .inl u.numbers))] t.heap ∧ va_D A [(h0, .inr (2, [.ref q_1, .ref q_2, .int u.variableBits, .int u.found])), (q_1, .inl (cI, 3, .inl u.told)), (q_2, .inl (cI, 3, .inl u.numbers))]) A
abbrev rm_X2_init : Room := { frames := 1, cells := 2, slots := 6, locals := 12 }
set_option maxHeartbeats 4000000 in
set_option maxRecDepth 100000 in
theorem c_X2_init (l : Launch) (dC : Nat → ClassId) (dI : Nat → Nat → Nat) (cI : ClassId) (h0 : Nat) (sz : Nat) (post : PatS → Prop) (h : P_X2_init post) : Met l yX2_init wsX2_init rm_X2_init (va_Pc [.ref h0] (cpre (dC, dI) [(cI, .int)] [(h0, .inr (2, [.null, .null, .int (0 : Int32), .int (0 : Int32)]))] sz)) (Q_X2_init dC dI cI h0 (va_A [(h0, .inr (2, [.null, .null, .int (0 : Int32), .int (0 : Int32)]))] sz) post) 2 (6) (va_A [(h0, .inr (2, [.null, .null, .int (0 : Int32), .int (0 : Int32)]))] sz) := by
  refine Met.ofW (cc := cX2_init) (maxL := 1) (ret := none) (by decide) rfl ?_
  intro p e s m args below meth c s₁ B hml hv
  obtain ⟨rfl, hsz, hP, hK, hD0, hN⟩ := hv
  have hx := B.exec
  have hb := B.bytes
  have hr := B.returns
  have hts := atoms_spec (ws := wsX2_init) B.pre
  have hown : s.vm.findClass RX2 = some m.cls := findClass_of_methodNamed B.named
  have hlocks := B.notSynchronized
  have hmn : meth.name = "<init>" := (name_of_methodNamed B.named B.method).1
  subst hsz
  have hD := hD0.self (sz := s.heap.size)
  generalize hAe : va_A [(h0, .inr (2, [.null, .null, .int (0 : Int32), .int (0 : Int32)]))] s.heap.size = A at hD ⊢
  have hA : ∀ q : Nat, s.heap.size ≤ q → A q := fun q h => by rw [← hAe]; exact Or.inr h
  clear hAe hD0
  have hS : va_S A s.heap s.heap [] := va_S.rf
  have hl := lv_entry ([.ref h0]) (n := 1) (Nat.le_of_ble_eq_true rfl)
  rw [lg_entry_eq]
  generalize (lg_sl ([.ref h0]) ++ List.replicate (1 - (lg_sl ([.ref h0])).length) Slot.unset).toArray = ls at hl ⊢
  have hl : lv_has ls 1 [(0, .ref h0)] := hl
  have hinX2 : ∀ w ∈ u_ws RX2 TX2 4, w ∈ wsX2_init := by decide +kernel
  refine lv_aload_n hx hb dX2_init_0 rfl (lv_at hl 0 rfl) ?_
  refine W.objInit hx hb hown (hts (.methodLink RX2 3 objectInit) (by decide +kernel)) (hts (.instanceMethod objectInit) (by decide +kernel)) (hts _ (List.mem_of_getElem? (i := 3) rfl)) rfl (by rw [hml]; exact hl.1) rfl dX2_init_1 (Nat.le_of_ble_eq_true rfl) (Nat.le_of_ble_eq_true rfl) ?_
  refine W.eq (g2 := F0 m 4 ls []) rfl ?_
  refine lv_aload_n hx hb dX2_init_4 rfl (lv_at hl 0 rfl) ?_
  refine lv_iconst (v := (3 : Int32)) hx hb dX2_init_5 (by decide) ?_
  refine va_newa (atype := .int) (ty := .int) (a0 := (3, .inl (fun _ => 0))) hx hb (hts (.arrayClass .int) (by decide +kernel)) rfl hK hP hD hS hA (fun _ => rfl) (by decide) (by decide +kernel) (by decide +kernel) (by decide +kernel) (by decide +kernel) dX2_init_6 (fun q_1 cA H hK9 hP hD hS => ?_)
  obtain rfl := arr_eq hK9
  refine W.widen (k := 1) (n := 3) (by omega) (by omega) ?_
  have hP : va_P (dC, dI) vwCl [(h0, .inr (2, [.null, .null, .int (0 : Int32), .int (0 : Int32)])), (q_1, .inl (cI, 3, .inl (fun _ => 0)))] _ := hP
  have hD : va_D A [(h0, .inr (2, [.null, .null, .int (0 : Int32), .int (0 : Int32)])), (q_1, .inl (cI, 3, .inl (fun _ => 0)))] := hD
  refine va_putF (D := (dC, dI)) (ci := 2) (v := .ref q_1) (ty := .array .int) (C := RX2) (T := TX2) (N := 4) hx hb hts (hinX2) tyX2 tyX2_ok nmX2 hown hK hP hD hS 0 rfl rfl 0 (by decide) (hts (.fieldLink RX2 9 "TripleJoins$Pattern" "told" "[I") (by decide +kernel)) (fun _ h9 => h9) rfl hmn rfl (by decide +kernel) rfl rfl (Nat.le_of_ble_eq_true rfl) dX2_init_8 (fun H locs hP hD hS => ?_)
  have hP : va_P (dC, dI) vwCl [(h0, .inr (2, [.ref q_1, .null, .int (0 : Int32), .int (0 : Int32)])), (q_1, .inl (cI, 3, .inl (fun _ => 0)))] _ := hP
  have hD : va_D A [(h0, .inr (2, [.ref q_1, .null, .int (0 : Int32), .int (0 : Int32)])), (q_1, .inl (cI, 3, .inl (fun _ => 0)))] := hD
  refine lv_aload_n hx hb dX2_init_11 rfl (lv_at hl 0 rfl) ?_
  refine lv_iconst (v := (3 : Int32)) hx hb dX2_init_12 (by decide) ?_
  refine va_newa (atype := .int) (ty := .int) (a0 := (3, .inl (fun _ => 0))) hx hb (hts (.arrayClass .int) (by decide +kernel)) rfl hK hP hD hS hA (fun _ => rfl) (by decide) (by decide +kernel) (by decide +kernel) (by decide +kernel) (by decide +kernel) dX2_init_13 (fun q_2 cA H hK9 hP hD hS => ?_)
  obtain rfl := arr_eq hK9
  refine W.widen (k := 2) (n := 6) (by omega) (by omega) ?_
  have hP : va_P (dC, dI) vwCl [(h0, .inr (2, [.ref q_1, .null, .int (0 : Int32), .int (0 : Int32)])), (q_1, .inl (cI, 3, .inl (fun _ => 0))), (q_2, .inl (cI, 3, .inl (fun _ => 0)))] _ := hP
  have hD : va_D A [(h0, .inr (2, [.ref q_1, .null, .int (0 : Int32), .int (0 : Int32)])), (q_1, .inl (cI, 3, .inl (fun _ => 0))), (q_2, .inl (cI, 3, .inl (fun _ => 0)))] := hD
  refine va_putF (D := (dC, dI)) (ci := 2) (v := .ref q_2) (ty := .array .int) (C := RX2) (T := TX2) (N := 4) hx hb hts (hinX2) tyX2 tyX2_ok nmX2 hown hK hP hD hS 0 rfl rfl 1 (by decide) (hts (.fieldLink RX2 15 "TripleJoins$Pattern" "numbers" "[I") (by decide +kernel)) (fun _ h9 => h9) rfl hmn rfl (by decide +kernel) rfl rfl (Nat.le_of_ble_eq_true rfl) dX2_init_15 (fun H locs hP hD hS => ?_)
  have hP : va_P (dC, dI) vwCl [(h0, .inr (2, [.ref q_1, .ref q_2, .int (0 : Int32), .int (0 : Int32)])), (q_1, .inl (cI, 3, .inl (fun _ => 0))), (q_2, .inl (cI, 3, .inl (fun _ => 0)))] _ := hP
  have hD : va_D A [(h0, .inr (2, [.ref q_1, .ref q_2, .int (0 : Int32), .int (0 : Int32)])), (q_1, .inl (cI, 3, .inl (fun _ => 0))), (q_2, .inl (cI, 3, .inl (fun _ => 0)))] := hD
  refine lv_aload_n hx hb dX2_init_18 rfl (lv_at hl 0 rfl) ?_
  refine lv_iconst (v := (0 : Int32)) hx hb dX2_init_19 (by decide) ?_
  refine va_put (D := (dC, dI)) (ci := 2) (v := .int (0 : Int32)) (ty := .int) (C := RX2) (T := TX2) (N := 4) hx hb hts (hinX2) tyX2 tyX2_ok nmX2 hown hK hP hD hS 0 rfl rfl 2 (by decide) (hts (.fieldLink RX2 18 "TripleJoins$Pattern" "variableBits" "I") (by decide +kernel)) (fun _ h9 => h9) rfl (by decide +kernel) rfl rfl (Nat.le_of_ble_eq_true rfl) dX2_init_20 (fun H locs hP hD hS => ?_)
  have hP : va_P (dC, dI) vwCl [(h0, .inr (2, [.ref q_1, .ref q_2, .int (0 : Int32), .int (0 : Int32)])), (q_1, .inl (cI, 3, .inl (fun _ => 0))), (q_2, .inl (cI, 3, .inl (fun _ => 0)))] _ := hP
  have hD : va_D A [(h0, .inr (2, [.ref q_1, .ref q_2, .int (0 : Int32), .int (0 : Int32)])), (q_1, .inl (cI, 3, .inl (fun _ => 0))), (q_2, .inl (cI, 3, .inl (fun _ => 0)))] := hD
  refine lv_aload_n hx hb dX2_init_23 rfl (lv_at hl 0 rfl) ?_
  refine lv_iconst (v := (0 : Int32)) hx hb dX2_init_24 (by decide) ?_
  refine va_put (D := (dC, dI)) (ci := 2) (v := .int (0 : Int32)) (ty := .int) (C := RX2) (T := TX2) (N := 4) hx hb hts (hinX2) tyX2 tyX2_ok nmX2 hown hK hP hD hS 0 rfl rfl 3 (by decide) (hts (.fieldLink RX2 22 "TripleJoins$Pattern" "found" "I") (by decide +kernel)) (fun _ h9 => h9) rfl (by decide +kernel) rfl rfl (Nat.le_of_ble_eq_true rfl) dX2_init_25 (fun H locs hP hD hS => ?_)
  have hP : va_P (dC, dI) vwCl [(h0, .inr (2, [.ref q_1, .ref q_2, .int (0 : Int32), .int (0 : Int32)])), (q_1, .inl (cI, 3, .inl (fun _ => 0))), (q_2, .inl (cI, 3, .inl (fun _ => 0)))] _ := hP
  have hD : va_D A [(h0, .inr (2, [.ref q_1, .ref q_2, .int (0 : Int32), .int (0 : Int32)])), (q_1, .inl (cI, 3, .inl (fun _ => 0))), (q_2, .inl (cI, 3, .inl (fun _ => 0)))] := hD
  have hP := hP.sub (ws' := [(h0, .inr (2, [.ref q_1, .ref q_2, .int (0 : Int32), .int (0 : Int32)])), (q_1, .inl (cI, 3, .inl (fun _ => 0))), (q_2, .inl (cI, 3, .inl (fun _ => 0)))]) [0, 1, 2] rfl
  have hD := hD.sub (ws' := [(h0, .inr (2, [.ref q_1, .ref q_2, .int (0 : Int32), .int (0 : Int32)])), (q_1, .inl (cI, 3, .inl (fun _ => 0))), (q_2, .inl (cI, 3, .inl (fun _ => 0)))]) [0, 1, 2] (by decide) rfl
  refine W.widen (k := 2) (n := 6) (by omega) (by omega) ?_
  exact W.vret hx hb hr (fun t ht hW => ⟨⟨((fun _ => 0), (fun _ => 0), (0 : Int32), (0 : Int32)), rfl, h, q_1, q_2, by rw [ht]; exact hP, hD⟩, hS.F ht⟩) hS.2.2 dX2_init_28
abbrev Q_X2_bitOf (dC : Nat → ClassId) (dI : Nat → Nat → Nat) (cI : ClassId) (h0 h0_1 h0_2 : Nat) (s0 : PatS) (A : Nat → Prop) (post : Int32 → Prop) : Array Value → State → Outcome → State → Prop := va_Qi (fun (r : Int32) (_ : Unit) => post r) (fun _ _ => True) A
abbrev rm_X2_bitOf : Room := { frames := 0, cells := 0, slots := 0, locals := 0 }
set_option maxHeartbeats 4000000 in
set_option maxRecDepth 100000 in
theorem c_X2_bitOf (l : Launch) (dC : Nat → ClassId) (dI : Nat → Nat → Nat) (cI : ClassId) (h0 h0_1 h0_2 : Nat) (sz : Nat) (s0 : PatS) (v1 : Int32) (post : Int32 → Prop) (h : P_X2_bitOf s0 v1 post) : Met l yX2_bitOf wsX2_bitOf rm_X2_bitOf (va_Pc [.ref h0, .int v1] (cpre (dC, dI) [(cI, .int)] [(h0, .inr (2, [.ref h0_1, .ref h0_2, .int s0.variableBits, .int s0.found])), (h0_1, .inl (cI, 3, .inl s0.told)), (h0_2, .inl (cI, 3, .inl s0.numbers))] sz)) (Q_X2_bitOf dC dI cI h0 h0_1 h0_2 s0 (va_A [] sz) post) 0 0 (va_A [] sz) := by
  refine Met.ofW (cc := cX2_bitOf) (maxL := 2) (ret := (some .int)) (by decide) rfl ?_
  intro p e s m args below meth c s₁ B hml hv
  obtain ⟨rfl, hsz, hP, hK, hD0, hN⟩ := hv
  have hx := B.exec
  have hb := B.bytes
  have hr := B.returns
  have hts := atoms_spec (ws := wsX2_bitOf) B.pre
  have hown : s.vm.findClass RX2 = some m.cls := findClass_of_methodNamed B.named
  have hlocks := B.notSynchronized
  subst hsz
  have hD := hD0
  generalize hAe : va_A [] s.heap.size = A
  have hA : ∀ q : Nat, s.heap.size ≤ q → A q := fun q h => by rw [← hAe]; exact Or.inr h
  clear hAe hD0
  obtain ⟨s0_told, s0_numbers, s0_variableBits, s0_found⟩ := s0
  have hS : va_S A s.heap s.heap [] := va_S.rf
  have hP : va_P (dC, dI) vwCl [(h0, .inr (2, [.ref h0_1, .ref h0_2, .int s0_variableBits, .int s0_found])), (h0_1, .inl (cI, 3, .inl s0_told)), (h0_2, .inl (cI, 3, .inl s0_numbers))] s.heap := hP
  have hD : va_D (fun _ : Nat => True) [(h0, .inr (2, [.ref h0_1, .ref h0_2, .int s0_variableBits, .int s0_found])), (h0_1, .inl (cI, 3, .inl s0_told)), (h0_2, .inl (cI, 3, .inl s0_numbers))] := hD
  have hl := lv_entry ([.ref h0, .int v1]) (n := 2) (Nat.le_of_ble_eq_true rfl)
  rw [lg_entry_eq]
  generalize (lg_sl ([.ref h0, .int v1]) ++ List.replicate (2 - (lg_sl ([.ref h0, .int v1])).length) Slot.unset).toArray = ls at hl ⊢
  have hl : lv_has ls 2 [(0, .ref h0), (1, .int v1)] := hl
  refine lv_iload_n hx hb dX2_bitOf_0 rfl (lv_at hl 1 rfl) ?_
  obtain ⟨ht_, hf_⟩ := h
  refine lv_if_ge (tgt := 12) hx hb dX2_bitOf_1 (by decide) (fun c_1 => ?_) (fun c_1 => ?_)
  · have h := ht_ c_1
    refine lv_iconst (v := (0 : Int32)) hx hb dX2_bitOf_12 (by decide) ?_
    exact W.iret (v := (0 : Int32)) hx hb hr (fun t ht hW => ⟨⟨(0 : Int32), (), rfl, h, trivial⟩, hS.F ht⟩) hS.2.2 dX2_bitOf_13
  · have h := hf_ c_1
    refine lv_iconst (v := (1 : Int32)) hx hb dX2_bitOf_4 (by decide) ?_
    refine lv_iconst (v := (-1 : Int32)) hx hb dX2_bitOf_5 (by decide) ?_
    refine lv_iload_n hx hb dX2_bitOf_6 rfl (lv_at hl 1 rfl) ?_
    refine lv_isub hx hb dX2_bitOf_7 ?_
    refine lv_ishl hx hb dX2_bitOf_8 ?_
    refine lv_goto (tgt := 13) hx hb dX2_bitOf_9 (by decide) ?_
    exact W.iret (v := ((1 : Int32) <<< (((-1 : Int32) - v1) &&& 31))) hx hb hr (fun t ht hW => ⟨⟨((1 : Int32) <<< (((-1 : Int32) - v1) &&& 31)), (), rfl, h, trivial⟩, hS.F ht⟩) hS.2.2 dX2_bitOf_13
abbrev Q_X2_tell (dC : Nat → ClassId) (dI : Nat → Nat → Nat) (cI : ClassId) (h0 h0_1 h0_2 : Nat) (s0 : PatS) (A : Nat → Prop) (post : PatS → Prop) : Array Value → State → Outcome → State → Prop := va_Qv post (fun (u : PatS) (t : State) => va_P (dC, dI) vwCl [(h0, .inr (2, [.ref h0_1, .ref h0_2, .int u.variableBits, .int u.found])), (h0_1, .inl (cI, 3, .inl u.told)), (h0_2, .inl (cI, 3, .inl u.numbers))] t.heap ∧ va_D A [(h0, .inr (2, [.ref h0_1, .ref h0_2, .int u.variableBits, .int u.found])), (h0_1, .inl (cI, 3, .inl u.told)), (h0_2, .inl (cI, 3, .inl u.numbers))]) A
abbrev rm_X2_tell : Room := { frames := 1, cells := 0, slots := 0, locals := 22 }
set_option maxHeartbeats 4000000 in
set_option maxRecDepth 100000 in
theorem c_X2_tell (l : Launch) (dC : Nat → ClassId) (dI : Nat → Nat → Nat) (cI : ClassId) (h0 h0_1 h0_2 : Nat) (sz : Nat) (s0 : PatS) (v1 : Int32) (v2 : Int32) (v3 : Int32) (post : PatS → Prop) (h : P_X2_tell s0 v1 v2 v3 post) : Met l yX2_tell wsX2_tell rm_X2_tell (va_Pc [.ref h0, .int v1, .int v2, .int v3] (cpre (dC, dI) [(cI, .int)] [(h0, .inr (2, [.ref h0_1, .ref h0_2, .int s0.variableBits, .int s0.found])), (h0_1, .inl (cI, 3, .inl s0.told)), (h0_2, .inl (cI, 3, .inl s0.numbers))] sz)) (Q_X2_tell dC dI cI h0 h0_1 h0_2 s0 (va_A [(h0, .inr (2, [.ref h0_1, .ref h0_2, .int s0.variableBits, .int s0.found])), (h0_1, .inl (cI, 3, .inl s0.told)), (h0_2, .inl (cI, 3, .inl s0.numbers))] sz) post) 0 0 (va_A [(h0, .inr (2, [.ref h0_1, .ref h0_2, .int s0.variableBits, .int s0.found])), (h0_1, .inl (cI, 3, .inl s0.told)), (h0_2, .inl (cI, 3, .inl s0.numbers))] sz) := by
  refine Met.ofW (cc := cX2_tell) (maxL := 4) (ret := none) (by decide) rfl ?_
  intro p e s m args below meth c s₁ B hml hv
  obtain ⟨rfl, hsz, hP, hK, hD0, hN⟩ := hv
  have hx := B.exec
  have hb := B.bytes
  have hr := B.returns
  have hts := atoms_spec (ws := wsX2_tell) B.pre
  have hown : s.vm.findClass RX2 = some m.cls := findClass_of_methodNamed B.named
  have hlocks := B.notSynchronized
  subst hsz
  have hD := hD0.self (sz := s.heap.size)
  generalize hAe : va_A [(h0, .inr (2, [.ref h0_1, .ref h0_2, .int s0.variableBits, .int s0.found])), (h0_1, .inl (cI, 3, .inl s0.told)), (h0_2, .inl (cI, 3, .inl s0.numbers))] s.heap.size = A at hD ⊢
  have hA : ∀ q : Nat, s.heap.size ≤ q → A q := fun q h => by rw [← hAe]; exact Or.inr h
  clear hAe hD0
  obtain ⟨s0_told, s0_numbers, s0_variableBits, s0_found⟩ := s0
  have hS : va_S A s.heap s.heap [] := va_S.rf
  have hP : va_P (dC, dI) vwCl [(h0, .inr (2, [.ref h0_1, .ref h0_2, .int s0_variableBits, .int s0_found])), (h0_1, .inl (cI, 3, .inl s0_told)), (h0_2, .inl (cI, 3, .inl s0_numbers))] s.heap := hP
  have hD : va_D A [(h0, .inr (2, [.ref h0_1, .ref h0_2, .int s0_variableBits, .int s0_found])), (h0_1, .inl (cI, 3, .inl s0_told)), (h0_2, .inl (cI, 3, .inl s0_numbers))] := hD
  have hl := lv_entry ([.ref h0, .int v1, .int v2, .int v3]) (n := 4) (Nat.le_of_ble_eq_true rfl)
  rw [lg_entry_eq]
  generalize (lg_sl ([.ref h0, .int v1, .int v2, .int v3]) ++ List.replicate (4 - (lg_sl ([.ref h0, .int v1, .int v2, .int v3])).length) Slot.unset).toArray = ls at hl ⊢
  have hl : lv_has ls 4 [(0, .ref h0), (1, .int v1), (2, .int v2), (3, .int v3)] := hl
  have hinX2 : ∀ w ∈ u_ws RX2 TX2 4, w ∈ wsX2_tell := by decide +kernel
  refine lv_aload_n hx hb dX2_tell_0 rfl (lv_at hl 0 rfl) ?_
  refine va_get (D := (dC, dI)) (ci := 2) (v := .ref h0_1) (C := RX2) (T := TX2) (N := 4) hx hb hts (hinX2) hown hK hP 0 rfl rfl 0 (by decide) (hts (.fieldLink RX2 9 "TripleJoins$Pattern" "told" "[I") (by decide +kernel)) (fun _ h9 => h9) rfl dX2_tell_1 ?_
  refine lv_iconst (v := (0 : Int32)) hx hb dX2_tell_4 (by decide) ?_
  refine lv_iload_n hx hb dX2_tell_5 rfl (lv_at hl 1 rfl) ?_
  have hPc := hP.sub (ws' := [(h0_1, .inl (cI, 3, .inl s0_told))]) [1] rfl
  have hDc := hD.sub (ws' := [(h0_1, .inl (cI, 3, .inl s0_told))]) [1] (by decide) rfl
  have hFc := va_free (wc := [(h0_1, .inl (cI, 3, .inl s0_told))]) hD hS hA [1] rfl
  refine va_callv (va_runSN (As := [.ref h0_1, .int (0 : Int32), .int v1]) (rest := []) ⟨hx, hb, hml, hown, hts⟩ (c_X7_put l dC dI cI h0_1 _ 3 s0_told (0 : Int32) v1 _ h) ⟨va_cnB 3 hts gX2_tell_X7_put_n25 rfl rfl rfl (nk_get hN 13 rfl) (hts (.initialized RX7) (by decide +kernel)) (by decide +kernel) ⟨Nat.le_of_ble_eq_true rfl, Nat.le_of_ble_eq_true rfl⟩, (hts (.static yX7_put) (by decide +kernel)), trivial⟩ (pb_S hPc hK hDc hN) rfl rfl hl.1 rfl (lv_room (Nat.le_of_ble_eq_true rfl)) dX2_tell_6 ⟨Nat.zero_le _, Nat.zero_le _⟩) hS (fun q _ h => hFc q h) hFc (fun u_1 t H locs ht hvm h hB hz1 hk1 hS => ?_)
  obtain ⟨hP1, hD1⟩ := hB
  rw [ht] at hP1
  obtain ⟨hP, hD⟩ := cl_join (wr := [(h0, .inr (2, [.ref h0_1, .ref h0_2, .int s0_variableBits, .int s0_found])), (h0_2, .inl (cI, 3, .inl s0_numbers))]) (w1 := [(h0_1, .inl (cI, 3, .inl u_1))]) (ws' := [(h0, .inr (2, [.ref h0_1, .ref h0_2, .int s0_variableBits, .int s0_found])), (h0_1, .inl (cI, 3, .inl u_1)), (h0_2, .inl (cI, 3, .inl s0_numbers))]) hP hD [1] [0, 2] [0, 2, 1] rfl rfl (by decide) (by decide) (by decide) rfl hk1 hFc hP1 hD1
  refine lv_aload_n hx hb dX2_tell_9 rfl (lv_at hl 0 rfl) ?_
  refine va_get (D := (dC, dI)) (ci := 2) (v := .ref h0_1) (C := RX2) (T := TX2) (N := 4) hx hb hts (hinX2) hown hK hP 0 rfl rfl 0 (by decide) (hts (.fieldLink RX2 9 "TripleJoins$Pattern" "told" "[I") (by decide +kernel)) (fun _ h9 => h9) rfl dX2_tell_10 ?_
  refine lv_iconst (v := (1 : Int32)) hx hb dX2_tell_13 (by decide) ?_
  refine lv_iload_n hx hb dX2_tell_14 rfl (lv_at hl 2 rfl) ?_
  have hPc := hP.sub (ws' := [(h0_1, .inl (cI, 3, .inl u_1))]) [1] rfl
  have hDc := hD.sub (ws' := [(h0_1, .inl (cI, 3, .inl u_1))]) [1] (by decide) rfl
  have hFc := va_free (wc := [(h0_1, .inl (cI, 3, .inl u_1))]) hD hS hA [1] rfl
  refine va_callv (va_runSN (As := [.ref h0_1, .int (1 : Int32), .int v2]) (rest := []) ⟨hx, hb, hml, hown, hts⟩ (c_X7_put l dC dI cI h0_1 _ 3 u_1 (1 : Int32) v2 _ h) ⟨va_cnB 3 hts gX2_tell_X7_put_n25 rfl rfl rfl (nk_get hN 13 rfl) (hts (.initialized RX7) (by decide +kernel)) (by decide +kernel) ⟨Nat.le_of_ble_eq_true rfl, Nat.le_of_ble_eq_true rfl⟩, (hts (.static yX7_put) (by decide +kernel)), trivial⟩ (pb_S hPc hK hDc hN) rfl rfl hl.1 rfl (lv_room (Nat.le_of_ble_eq_true rfl)) dX2_tell_15 ⟨Nat.zero_le _, Nat.zero_le _⟩) hS (fun q _ h => hFc q h) hFc (fun u_3 t H locs ht hvm h hB hz1 hk1 hS => ?_)
  obtain ⟨hP1, hD1⟩ := hB
  rw [ht] at hP1
  obtain ⟨hP, hD⟩ := cl_join (wr := [(h0, .inr (2, [.ref h0_1, .ref h0_2, .int s0_variableBits, .int s0_found])), (h0_2, .inl (cI, 3, .inl s0_numbers))]) (w1 := [(h0_1, .inl (cI, 3, .inl u_3))]) (ws' := [(h0, .inr (2, [.ref h0_1, .ref h0_2, .int s0_variableBits, .int s0_found])), (h0_1, .inl (cI, 3, .inl u_3)), (h0_2, .inl (cI, 3, .inl s0_numbers))]) hP hD [1] [0, 2] [0, 2, 1] rfl rfl (by decide) (by decide) (by decide) rfl hk1 hFc hP1 hD1
  refine lv_aload_n hx hb dX2_tell_18 rfl (lv_at hl 0 rfl) ?_
  refine va_get (D := (dC, dI)) (ci := 2) (v := .ref h0_1) (C := RX2) (T := TX2) (N := 4) hx hb hts (hinX2) hown hK hP 0 rfl rfl 0 (by decide) (hts (.fieldLink RX2 9 "TripleJoins$Pattern" "told" "[I") (by decide +kernel)) (fun _ h9 => h9) rfl dX2_tell_19 ?_
  refine lv_iconst (v := (2 : Int32)) hx hb dX2_tell_22 (by decide) ?_
  refine lv_iload_n hx hb dX2_tell_23 rfl (lv_at hl 3 rfl) ?_
  have hPc := hP.sub (ws' := [(h0_1, .inl (cI, 3, .inl u_3))]) [1] rfl
  have hDc := hD.sub (ws' := [(h0_1, .inl (cI, 3, .inl u_3))]) [1] (by decide) rfl
  have hFc := va_free (wc := [(h0_1, .inl (cI, 3, .inl u_3))]) hD hS hA [1] rfl
  refine va_callv (va_runSN (As := [.ref h0_1, .int (2 : Int32), .int v3]) (rest := []) ⟨hx, hb, hml, hown, hts⟩ (c_X7_put l dC dI cI h0_1 _ 3 u_3 (2 : Int32) v3 _ h) ⟨va_cnB 3 hts gX2_tell_X7_put_n25 rfl rfl rfl (nk_get hN 13 rfl) (hts (.initialized RX7) (by decide +kernel)) (by decide +kernel) ⟨Nat.le_of_ble_eq_true rfl, Nat.le_of_ble_eq_true rfl⟩, (hts (.static yX7_put) (by decide +kernel)), trivial⟩ (pb_S hPc hK hDc hN) rfl rfl hl.1 rfl (lv_room (Nat.le_of_ble_eq_true rfl)) dX2_tell_24 ⟨Nat.zero_le _, Nat.zero_le _⟩) hS (fun q _ h => hFc q h) hFc (fun u_5 t H locs ht hvm h hB hz1 hk1 hS => ?_)
  obtain ⟨hP1, hD1⟩ := hB
  rw [ht] at hP1
  obtain ⟨hP, hD⟩ := cl_join (wr := [(h0, .inr (2, [.ref h0_1, .ref h0_2, .int s0_variableBits, .int s0_found])), (h0_2, .inl (cI, 3, .inl s0_numbers))]) (w1 := [(h0_1, .inl (cI, 3, .inl u_5))]) (ws' := [(h0, .inr (2, [.ref h0_1, .ref h0_2, .int s0_variableBits, .int s0_found])), (h0_1, .inl (cI, 3, .inl u_5)), (h0_2, .inl (cI, 3, .inl s0_numbers))]) hP hD [1] [0, 2] [0, 2, 1] rfl rfl (by decide) (by decide) (by decide) rfl hk1 hFc hP1 hD1
  refine lv_aload_n hx hb dX2_tell_27 rfl (lv_at hl 0 rfl) ?_
  refine lv_aload_n hx hb dX2_tell_28 rfl (lv_at hl 0 rfl) ?_
  refine lv_iload_n hx hb dX2_tell_29 rfl (lv_at hl 1 rfl) ?_
  have hPc := hP.sub (ws' := [(h0, .inr (2, [.ref h0_1, .ref h0_2, .int s0_variableBits, .int s0_found])), (h0_1, .inl (cI, 3, .inl u_5)), (h0_2, .inl (cI, 3, .inl s0_numbers))]) [0, 1, 2] rfl
  have hDc := hD.sub (ws' := [(h0, .inr (2, [.ref h0_1, .ref h0_2, .int s0_variableBits, .int s0_found])), (h0_1, .inl (cI, 3, .inl u_5)), (h0_2, .inl (cI, 3, .inl s0_numbers))]) [0, 1, 2] (by decide) rfl
  have hFc := fr0 hA hS
  refine va_calli (va_runV (As := [.int v1]) (rest := [.ref h0]) ⟨hx, hb, hml, hown, hts⟩ (c_X2_bitOf l dC dI cI h0 h0_1 h0_2 _ (u_5, s0_numbers, s0_variableBits, s0_found) v1 _ h) (cwV 1 hts gX2_tell_X2_bitOf rfl rfl rfl (by decide +kernel) ⟨Nat.le_of_ble_eq_true rfl, Nat.le_of_ble_eq_true rfl⟩) (pb_V hPc hK hDc hN (ci := 2) (q0 := 0) rfl rfl) rfl rfl hl.1 rfl (lv_room (Nat.le_of_ble_eq_true rfl)) dX2_tell_30 ⟨Nat.zero_le _, Nat.zero_le _⟩) hS (fun q _ h => hFc q h) hFc (fun r_8 u_7 t H locs ht hvm h hB hz1 hk1 hS => ?_)
  have hP := vaPk hP hk1
  refine lv_aload_n hx hb dX2_tell_33 rfl (lv_at hl 0 rfl) ?_
  refine lv_iload_n hx hb dX2_tell_34 rfl (lv_at hl 2 rfl) ?_
  have hPc := hP.sub (ws' := [(h0, .inr (2, [.ref h0_1, .ref h0_2, .int s0_variableBits, .int s0_found])), (h0_1, .inl (cI, 3, .inl u_5)), (h0_2, .inl (cI, 3, .inl s0_numbers))]) [0, 1, 2] rfl
  have hDc := hD.sub (ws' := [(h0, .inr (2, [.ref h0_1, .ref h0_2, .int s0_variableBits, .int s0_found])), (h0_1, .inl (cI, 3, .inl u_5)), (h0_2, .inl (cI, 3, .inl s0_numbers))]) [0, 1, 2] (by decide) rfl
  have hFc := fr0 hA hS
  refine va_calli (va_runV (As := [.int v2]) (rest := [.int r_8, .ref h0]) ⟨hx, hb, hml, hown, hts⟩ (c_X2_bitOf l dC dI cI h0 h0_1 h0_2 _ (u_5, s0_numbers, s0_variableBits, s0_found) v2 _ h) (cwV 1 hts gX2_tell_X2_bitOf rfl rfl rfl (by decide +kernel) ⟨Nat.le_of_ble_eq_true rfl, Nat.le_of_ble_eq_true rfl⟩) (pb_V hPc hK hDc hN (ci := 2) (q0 := 0) rfl rfl) rfl rfl hl.1 rfl (lv_room (Nat.le_of_ble_eq_true rfl)) dX2_tell_35 ⟨Nat.zero_le _, Nat.zero_le _⟩) hS (fun q _ h => hFc q h) hFc (fun r_10 u_9 t H locs ht hvm h hB hz1 hk1 hS => ?_)
  have hP := vaPk hP hk1
  refine lv_ior hx hb dX2_tell_38 ?_
  refine lv_aload_n hx hb dX2_tell_39 rfl (lv_at hl 0 rfl) ?_
  refine lv_iload_n hx hb dX2_tell_40 rfl (lv_at hl 3 rfl) ?_
  have hPc := hP.sub (ws' := [(h0, .inr (2, [.ref h0_1, .ref h0_2, .int s0_variableBits, .int s0_found])), (h0_1, .inl (cI, 3, .inl u_5)), (h0_2, .inl (cI, 3, .inl s0_numbers))]) [0, 1, 2] rfl
  have hDc := hD.sub (ws' := [(h0, .inr (2, [.ref h0_1, .ref h0_2, .int s0_variableBits, .int s0_found])), (h0_1, .inl (cI, 3, .inl u_5)), (h0_2, .inl (cI, 3, .inl s0_numbers))]) [0, 1, 2] (by decide) rfl
  have hFc := fr0 hA hS
  refine va_calli (va_runV (As := [.int v3]) (rest := [.int (r_8 ||| r_10), .ref h0]) ⟨hx, hb, hml, hown, hts⟩ (c_X2_bitOf l dC dI cI h0 h0_1 h0_2 _ (u_5, s0_numbers, s0_variableBits, s0_found) v3 _ h) (cwV 1 hts gX2_tell_X2_bitOf rfl rfl rfl (by decide +kernel) ⟨Nat.le_of_ble_eq_true rfl, Nat.le_of_ble_eq_true rfl⟩) (pb_V hPc hK hDc hN (ci := 2) (q0 := 0) rfl rfl) rfl rfl hl.1 rfl (lv_room (Nat.le_of_ble_eq_true rfl)) dX2_tell_41 ⟨Nat.zero_le _, Nat.zero_le _⟩) hS (fun q _ h => hFc q h) hFc (fun r_12 u_11 t H locs ht hvm h hB hz1 hk1 hS => ?_)
  have hP := vaPk hP hk1
  refine lv_ior hx hb dX2_tell_44 ?_
  refine va_put (D := (dC, dI)) (ci := 2) (v := .int ((r_8 ||| r_10) ||| r_12)) (ty := .int) (C := RX2) (T := TX2) (N := 4) hx hb hts (hinX2) tyX2 tyX2_ok nmX2 hown hK hP hD hS 0 rfl rfl 2 (by decide) (hts (.fieldLink RX2 18 "TripleJoins$Pattern" "variableBits" "I") (by decide +kernel)) (fun _ h9 => h9) rfl (by decide +kernel) rfl rfl (Nat.le_of_ble_eq_true rfl) dX2_tell_45 (fun H locs hP hD hS => ?_)
  have hP : va_P (dC, dI) vwCl [(h0, .inr (2, [.ref h0_1, .ref h0_2, .int ((r_8 ||| r_10) ||| r_12), .int s0_found])), (h0_1, .inl (cI, 3, .inl u_5)), (h0_2, .inl (cI, 3, .inl s0_numbers))] _ := hP
  have hD : va_D A [(h0, .inr (2, [.ref h0_1, .ref h0_2, .int ((r_8 ||| r_10) ||| r_12), .int s0_found])), (h0_1, .inl (cI, 3, .inl u_5)), (h0_2, .inl (cI, 3, .inl s0_numbers))] := hD
  exact W.vret hx hb hr (fun t ht hW => ⟨⟨(u_5, s0_numbers, ((r_8 ||| r_10) ||| r_12), s0_found), rfl, h, ⟨by rw [ht]; exact hP, hD⟩⟩, hS.F ht⟩) hS.2.2 dX2_tell_48
abbrev Q_X2_maskWith (dC : Nat → ClassId) (dI : Nat → Nat → Nat) (cI : ClassId) (h0 h0_1 h0_2 : Nat) (s0 : PatS) (A : Nat → Prop) (post : Int32 → Prop) : Array Value → State → Outcome → State → Prop := va_Qi (fun (r : Int32) (_ : Unit) => post r) (fun _ _ => True) A
abbrev rm_X2_maskWith : Room := { frames := 1, cells := 0, slots := 0, locals := 21 }
set_option maxHeartbeats 4000000 in
set_option maxRecDepth 100000 in
theorem c_X2_maskWith (l : Launch) (dC : Nat → ClassId) (dI : Nat → Nat → Nat) (cI : ClassId) (h0 h0_1 h0_2 : Nat) (sz : Nat) (s0 : PatS) (v1 : Int32) (post : Int32 → Prop) (h : P_X2_maskWith s0 v1 post) : Met l yX2_maskWith wsX2_maskWith rm_X2_maskWith (va_Pc [.ref h0, .int v1] (cpre (dC, dI) [(cI, .int)] [(h0, .inr (2, [.ref h0_1, .ref h0_2, .int s0.variableBits, .int s0.found])), (h0_1, .inl (cI, 3, .inl s0.told)), (h0_2, .inl (cI, 3, .inl s0.numbers))] sz)) (Q_X2_maskWith dC dI cI h0 h0_1 h0_2 s0 (va_A [] sz) post) 0 0 (va_A [] sz) := by
  refine Met.ofW (cc := cX2_maskWith) (maxL := 5) (ret := (some .int)) (by decide) rfl ?_
  intro p e s m args below meth c s₁ B hml hv
  obtain ⟨rfl, hsz, hP, hK, hD0, hN⟩ := hv
  have hx := B.exec
  have hb := B.bytes
  have hr := B.returns
  have hts := atoms_spec (ws := wsX2_maskWith) B.pre
  have hown : s.vm.findClass RX2 = some m.cls := findClass_of_methodNamed B.named
  have hlocks := B.notSynchronized
  subst hsz
  have hD := hD0
  generalize hAe : va_A [] s.heap.size = A
  have hA : ∀ q : Nat, s.heap.size ≤ q → A q := fun q h => by rw [← hAe]; exact Or.inr h
  clear hAe hD0
  obtain ⟨s0_told, s0_numbers, s0_variableBits, s0_found⟩ := s0
  have hS : va_S A s.heap s.heap [] := va_S.rf
  have hP : va_P (dC, dI) vwCl [(h0, .inr (2, [.ref h0_1, .ref h0_2, .int s0_variableBits, .int s0_found])), (h0_1, .inl (cI, 3, .inl s0_told)), (h0_2, .inl (cI, 3, .inl s0_numbers))] s.heap := hP
  have hD : va_D (fun _ : Nat => True) [(h0, .inr (2, [.ref h0_1, .ref h0_2, .int s0_variableBits, .int s0_found])), (h0_1, .inl (cI, 3, .inl s0_told)), (h0_2, .inl (cI, 3, .inl s0_numbers))] := hD
  have hl := lv_entry ([.ref h0, .int v1]) (n := 5) (Nat.le_of_ble_eq_true rfl)
  rw [lg_entry_eq]
  generalize (lg_sl ([.ref h0, .int v1]) ++ List.replicate (5 - (lg_sl ([.ref h0, .int v1])).length) Slot.unset).toArray = ls at hl ⊢
  have hl : lv_has ls 5 [(0, .ref h0), (1, .int v1)] := hl
  have hinX2 : ∀ w ∈ u_ws RX2 TX2 4, w ∈ wsX2_maskWith := by decide +kernel
  refine lv_iconst (v := (0 : Int32)) hx hb dX2_maskWith_0 (by decide) ?_
  refine lv_istore_n (lv' := [(2, .int (0 : Int32)), (0, .ref h0), (1, .int v1)]) hx hb dX2_maskWith_1 rfl hl (by decide) rfl (fun ls hl => ?_)
  refine lv_iconst (v := (0 : Int32)) hx hb dX2_maskWith_2 (by decide) ?_
  refine lv_istore_n (lv' := [(3, .int (0 : Int32)), (2, .int (0 : Int32)), (0, .ref h0), (1, .int v1)]) hx hb dX2_maskWith_3 rfl hl (by decide) rfl (fun ls hl => ?_)
  have hl : lv_has ls 5 [(0, .ref h0), (1, .int v1), (2, .int (0 : Int32)), (3, .int (0 : Int32))] := lv_sub hl [2, 3, 1, 0] rfl
  obtain ⟨I_1, hI_1, n_1, h⟩ := h
  have loop_1 : ∀ (n_1 : Nat) (v2_2 : Int32) (v3_3 : Int32) (h : I_1 n_1 (v2_2, v3_3)) (H : Heap) (locs : List Loc) (hP : va_P (dC, dI) vwCl [(h0, .inr (2, [.ref h0_1, .ref h0_2, .int s0_variableBits, .int s0_found])), (h0_1, .inl (cI, 3, .inl s0_told)), (h0_2, .inl (cI, 3, .inl s0_numbers))] H) (hD : va_D (fun _ : Nat => True) [(h0, .inr (2, [.ref h0_1, .ref h0_2, .int s0_variableBits, .int s0_found])), (h0_1, .inl (cI, 3, .inl s0_told)), (h0_2, .inl (cI, 3, .inl s0_numbers))]) (hS : va_S A s.heap H locs) (ls : Array Slot) (hl : lv_has ls 5 [(0, .ref h0), (1, .int v1), (2, .int v2_2), (3, .int v3_3)]), W p l e rm_X2_maskWith s m ([.ref h0, .int v1] : List Value).toArray below meth c H locs 0 0 (MQ below (Q_X2_maskWith dC dI cI h0 h0_1 h0_2 (s0_told, s0_numbers, s0_variableBits, s0_found) A post) (([.ref h0, .int v1] : List Value).toArray) s 0 0 A) (F0 m 4 ls []) := by
    intro n_1
    induction n_1 using Nat.strongRecOn with
    | ind n_1 ih_1 =>
      intro v2_2 v3_3 h H locs hP hD hS ls hl
      have h := hI_1 n_1 _ h
      have lab_35 : ∀ (v2_4 : Int32) (v3_5 : Int32) (h : P_X2_maskWith_j35 (s0_told, s0_numbers, s0_variableBits, s0_found) v1 v2_4 v3_5 (fun w => ∃ k, k < n_1 ∧ I_1 k w) post) (H : Heap) (locs : List Loc) (hP : va_P (dC, dI) vwCl [(h0, .inr (2, [.ref h0_1, .ref h0_2, .int s0_variableBits, .int s0_found])), (h0_1, .inl (cI, 3, .inl s0_told)), (h0_2, .inl (cI, 3, .inl s0_numbers))] H) (hD : va_D (fun _ : Nat => True) [(h0, .inr (2, [.ref h0_1, .ref h0_2, .int s0_variableBits, .int s0_found])), (h0_1, .inl (cI, 3, .inl s0_told)), (h0_2, .inl (cI, 3, .inl s0_numbers))]) (hS : va_S A s.heap H locs) (ls : Array Slot) (hl : lv_has ls 5 [(0, .ref h0), (1, .int v1), (2, .int v2_4), (3, .int v3_5)]), W p l e rm_X2_maskWith s m ([.ref h0, .int v1] : List Value).toArray below meth c H locs 0 0 (MQ below (Q_X2_maskWith dC dI cI h0 h0_1 h0_2 (s0_told, s0_numbers, s0_variableBits, s0_found) A post) (([.ref h0, .int v1] : List Value).toArray) s 0 0 A) (F0 m 35 ls []) := by
        intro v2_4 v3_5 h H locs hP hD hS ls hl
        refine lv_iload_n hx hb dX2_maskWith_35 rfl (lv_at hl 2 rfl) ?_
        refine lv_bipush (v := (63 : Int32)) hx hb dX2_maskWith_36 (by decide) ?_
        refine lv_iload_n hx hb dX2_maskWith_38 rfl (lv_at hl 3 rfl) ?_
        have hPc := hP.sub (ws' := []) [] rfl
        have hDc := hD.sub (ws' := []) [] (by decide) rfl
        have hFc := fr0 hA hS
        refine va_calli (va_runSN (As := [.int v3_5]) (rest := [.int (63 : Int32), .int v2_4]) ⟨hx, hb, hml, hown, hts⟩ (c_X7_partShift l dC dI cI  _ v3_5 _ h) ⟨va_cnB 1 hts gX2_maskWith_X7_partShift_n71 rfl rfl rfl (nk_get hN 16 rfl) (hts (.initialized RX7) (by decide +kernel)) (by decide +kernel) ⟨Nat.le_of_ble_eq_true rfl, Nat.le_of_ble_eq_true rfl⟩, (hts (.static yX7_partShift) (by decide +kernel)), trivial⟩ (pb_S hPc hK hDc hN) rfl rfl hl.1 rfl (lv_room (Nat.le_of_ble_eq_true rfl)) dX2_maskWith_39 ⟨Nat.zero_le _, Nat.zero_le _⟩) hS (fun q _ h => hFc q h) hFc (fun r_7 u_6 t H locs ht hvm h hB hz1 hk1 hS => ?_)
        have hP := vaPk hP hk1
        refine lv_ishl hx hb dX2_maskWith_42 ?_
        refine lv_ior hx hb dX2_maskWith_43 ?_
        refine lv_istore_n (lv' := [(2, .int (v2_4 ||| ((63 : Int32) <<< (r_7 &&& 31)))), (0, .ref h0), (1, .int v1), (3, .int v3_5)]) hx hb dX2_maskWith_44 rfl hl (by decide) rfl (fun ls hl => ?_)
        refine lv_iinc (v := (v3_5 + (1 : Int32))) (lv' := [(3, .int (v3_5 + (1 : Int32))), (2, .int (v2_4 ||| ((63 : Int32) <<< (r_7 &&& 31)))), (0, .ref h0), (1, .int v1)]) hx hb dX2_maskWith_45 hl (k := 3) rfl rfl (by decide) rfl (fun ls hl => ?_)
        refine lv_goto (tgt := 4) hx hb dX2_maskWith_48 (by decide) ?_
        have hl : lv_has ls 5 [(0, .ref h0), (1, .int v1), (2, .int (v2_4 ||| ((63 : Int32) <<< (r_7 &&& 31)))), (3, .int (v3_5 + (1 : Int32)))] := lv_sub hl [2, 3, 1, 0] rfl
        obtain ⟨k_8, hk_9, h⟩ := h
        exact ih_1 k_8 hk_9 (v2_4 ||| ((63 : Int32) <<< (r_7 &&& 31))) (v3_5 + (1 : Int32)) h _ _ hP hD hS _ hl
      refine lv_iload_n hx hb dX2_maskWith_4 rfl (lv_at hl 3 rfl) ?_
      refine lv_iconst (v := (3 : Int32)) hx hb dX2_maskWith_5 (by decide) ?_
      obtain ⟨ht_, hf_⟩ := h
      refine lv_icmp_ge (tgt := 51) hx hb dX2_maskWith_6 (by decide) (fun c_10 => ?_) (fun c_10 => ?_)
      · have h := ht_ c_10
        refine lv_iload_n hx hb dX2_maskWith_51 rfl (lv_at hl 2 rfl) ?_
        exact W.iret (v := v2_2) hx hb hr (fun t ht hW => ⟨⟨v2_2, (), rfl, h, trivial⟩, hS.F ht⟩) hS.2.2 dX2_maskWith_52
      · have h := hf_ c_10
        refine lv_aload_n hx hb dX2_maskWith_9 rfl (lv_at hl 0 rfl) ?_
        refine va_get (D := (dC, dI)) (ci := 2) (v := .ref h0_1) (C := RX2) (T := TX2) (N := 4) hx hb hts (hinX2) hown hK hP 0 rfl rfl 0 (by decide) (hts (.fieldLink RX2 9 "TripleJoins$Pattern" "told" "[I") (by decide +kernel)) (fun _ h9 => h9) rfl dX2_maskWith_10 ?_
        refine lv_iload_n hx hb dX2_maskWith_13 rfl (lv_at hl 3 rfl) ?_
        have hPc := hP.sub (ws' := [(h0_1, .inl (cI, 3, .inl s0_told))]) [1] rfl
        have hDc := hD.sub (ws' := [(h0_1, .inl (cI, 3, .inl s0_told))]) [1] (by decide) rfl
        have hFc := fr0 hA hS
        refine va_calli (va_runSN (As := [.ref h0_1, .int v3_3]) (rest := []) ⟨hx, hb, hml, hown, hts⟩ (c_X7_at l dC dI cI h0_1 _ 3 s0_told v3_3 _ h) ⟨va_cnB 2 hts gX2_maskWith_X7_at_n33 rfl rfl rfl (nk_get hN 14 rfl) (hts (.initialized RX7) (by decide +kernel)) (by decide +kernel) ⟨Nat.le_of_ble_eq_true rfl, Nat.le_of_ble_eq_true rfl⟩, (hts (.static yX7_at) (by decide +kernel)), trivial⟩ (pb_S hPc hK hDc hN) rfl rfl hl.1 rfl (lv_room (Nat.le_of_ble_eq_true rfl)) dX2_maskWith_14 ⟨Nat.zero_le _, Nat.zero_le _⟩) hS (fun q _ h => hFc q h) hFc (fun r_12 u_11 t H locs ht hvm h hB hz1 hk1 hS => ?_)
        have hP := vaPk hP hk1
        refine lv_istore (lv' := [(4, .int r_12), (0, .ref h0), (1, .int v1), (2, .int v2_2), (3, .int v3_3)]) hx hb dX2_maskWith_17 hl (by decide) rfl (fun ls hl => ?_)
        refine lv_iload hx hb dX2_maskWith_19 (lv_at hl 0 rfl) ?_
        obtain ⟨ht_, hf_⟩ := h
        refine lv_if_ge (tgt := 35) hx hb dX2_maskWith_21 (by decide) (fun c_13 => ?_) (fun c_13 => ?_)
        · have h := ht_ c_13
          have hl : lv_has ls 5 [(0, .ref h0), (1, .int v1), (2, .int v2_2), (3, .int v3_3)] := lv_sub hl [1, 2, 3, 4] rfl
          exact lab_35 v2_2 v3_3 h _ _ hP hD hS _ hl
        · have h := hf_ c_13
          refine lv_iload_n hx hb dX2_maskWith_24 rfl (lv_at hl 2 rfl) ?_
          refine lv_iconst (v := (-1 : Int32)) hx hb dX2_maskWith_25 (by decide) ?_
          refine lv_iload hx hb dX2_maskWith_26 (lv_at hl 0 rfl) ?_
          refine lv_isub hx hb dX2_maskWith_28 ?_
          have hPc := hP.sub (ws' := []) [] rfl
          have hDc := hD.sub (ws' := []) [] (by decide) rfl
          have hFc := fr0 hA hS
          refine va_calli (va_runSN (As := [.int v1, .int ((-1 : Int32) - r_12)]) (rest := []) ⟨hx, hb, hml, hown, hts⟩ (c_X7_hasBit l dC dI cI  _ v1 ((-1 : Int32) - r_12) _ h) ⟨va_cnB 2 hts gX2_maskWith_X7_hasBit_n67 rfl rfl rfl (nk_get hN 15 rfl) (hts (.initialized RX7) (by decide +kernel)) (by decide +kernel) ⟨Nat.le_of_ble_eq_true rfl, Nat.le_of_ble_eq_true rfl⟩, (hts (.static yX7_hasBit) (by decide +kernel)), trivial⟩ (pb_S hPc hK hDc hN) rfl rfl hl.1 rfl (lv_room (Nat.le_of_ble_eq_true rfl)) dX2_maskWith_29 ⟨Nat.zero_le _, Nat.zero_le _⟩) hS (fun q _ h => hFc q h) hFc (fun r_15 u_14 t H locs ht hvm h hB hz1 hk1 hS => ?_)
          have hP := vaPk hP hk1
          obtain ⟨ht_, hf_⟩ := h
          refine lv_if_eq (tgt := 45) hx hb dX2_maskWith_32 (by decide) (fun c_16 => ?_) (fun c_16 => ?_)
          · have h := ht_ c_16
            refine lv_iinc (v := (v3_3 + (1 : Int32))) (lv' := [(3, .int (v3_3 + (1 : Int32))), (4, .int r_12), (0, .ref h0), (1, .int v1), (2, .int v2_2)]) hx hb dX2_maskWith_45 hl (k := 4) rfl rfl (by decide) rfl (fun ls hl => ?_)
            refine lv_goto (tgt := 4) hx hb dX2_maskWith_48 (by decide) ?_
            have hl : lv_has ls 5 [(0, .ref h0), (1, .int v1), (2, .int v2_2), (3, .int (v3_3 + (1 : Int32)))] := lv_sub hl [2, 3, 4, 0] rfl
            obtain ⟨k_17, hk_18, h⟩ := h
            exact ih_1 k_17 hk_18 v2_2 (v3_3 + (1 : Int32)) h _ _ hP hD hS _ hl
          · have h := hf_ c_16
            have hl : lv_has ls 5 [(0, .ref h0), (1, .int v1), (2, .int v2_2), (3, .int v3_3)] := lv_sub hl [1, 2, 3, 4] rfl
            exact lab_35 v2_2 v3_3 h _ _ hP hD hS _ hl
  exact loop_1 n_1 (0 : Int32) (0 : Int32) h _ _ hP hD hS _ hl
abbrev Q_X2_valueWith (dC : Nat → ClassId) (dI : Nat → Nat → Nat) (cI : ClassId) (h0 h0_1 h0_2 : Nat) (s0 : PatS) (A : Nat → Prop) (post : Int32 → Prop) : Array Value → State → Outcome → State → Prop := va_Qi (fun (r : Int32) (_ : Unit) => post r) (fun _ _ => True) A
abbrev rm_X2_valueWith : Room := { frames := 2, cells := 0, slots := 0, locals := 41 }
set_option maxHeartbeats 4000000 in
set_option maxRecDepth 100000 in
theorem c_X2_valueWith (l : Launch) (dC : Nat → ClassId) (dI : Nat → Nat → Nat) (cI : ClassId) (h0 h0_1 h0_2 : Nat) (sz : Nat) (s0 : PatS) (v1 : Int32) (v2 : Int32) (post : Int32 → Prop) (h : P_X2_valueWith s0 v1 v2 post) : Met l yX2_valueWith wsX2_valueWith rm_X2_valueWith (va_Pc [.ref h0, .int v1, .int v2] (cpre (dC, dI) [(cI, .int)] [(h0, .inr (2, [.ref h0_1, .ref h0_2, .int s0.variableBits, .int s0.found])), (h0_1, .inl (cI, 3, .inl s0.told)), (h0_2, .inl (cI, 3, .inl s0.numbers))] sz)) (Q_X2_valueWith dC dI cI h0 h0_1 h0_2 s0 (va_A [] sz) post) 0 0 (va_A [] sz) := by
  refine Met.ofW (cc := cX2_valueWith) (maxL := 6) (ret := (some .int)) (by decide) rfl ?_
  intro p e s m args below meth c s₁ B hml hv
  obtain ⟨rfl, hsz, hP, hK, hD0, hN⟩ := hv
  have hx := B.exec
  have hb := B.bytes
  have hr := B.returns
  have hts := atoms_spec (ws := wsX2_valueWith) B.pre
  have hown : s.vm.findClass RX2 = some m.cls := findClass_of_methodNamed B.named
  have hlocks := B.notSynchronized
  subst hsz
  have hD := hD0
  generalize hAe : va_A [] s.heap.size = A
  have hA : ∀ q : Nat, s.heap.size ≤ q → A q := fun q h => by rw [← hAe]; exact Or.inr h
  clear hAe hD0
  obtain ⟨s0_told, s0_numbers, s0_variableBits, s0_found⟩ := s0
  have hS : va_S A s.heap s.heap [] := va_S.rf
  have hP : va_P (dC, dI) vwCl [(h0, .inr (2, [.ref h0_1, .ref h0_2, .int s0_variableBits, .int s0_found])), (h0_1, .inl (cI, 3, .inl s0_told)), (h0_2, .inl (cI, 3, .inl s0_numbers))] s.heap := hP
  have hD : va_D (fun _ : Nat => True) [(h0, .inr (2, [.ref h0_1, .ref h0_2, .int s0_variableBits, .int s0_found])), (h0_1, .inl (cI, 3, .inl s0_told)), (h0_2, .inl (cI, 3, .inl s0_numbers))] := hD
  have hl := lv_entry ([.ref h0, .int v1, .int v2]) (n := 6) (Nat.le_of_ble_eq_true rfl)
  rw [lg_entry_eq]
  generalize (lg_sl ([.ref h0, .int v1, .int v2]) ++ List.replicate (6 - (lg_sl ([.ref h0, .int v1, .int v2])).length) Slot.unset).toArray = ls at hl ⊢
  have hl : lv_has ls 6 [(0, .ref h0), (1, .int v1), (2, .int v2)] := hl
  have hinX2 : ∀ w ∈ u_ws RX2 TX2 4, w ∈ wsX2_valueWith := by decide +kernel
  refine lv_iconst (v := (0 : Int32)) hx hb dX2_valueWith_0 (by decide) ?_
  refine lv_istore_n (lv' := [(3, .int (0 : Int32)), (0, .ref h0), (1, .int v1), (2, .int v2)]) hx hb dX2_valueWith_1 rfl hl (by decide) rfl (fun ls hl => ?_)
  refine lv_iconst (v := (0 : Int32)) hx hb dX2_valueWith_2 (by decide) ?_
  refine lv_istore (lv' := [(4, .int (0 : Int32)), (3, .int (0 : Int32)), (0, .ref h0), (1, .int v1), (2, .int v2)]) hx hb dX2_valueWith_3 hl (by decide) rfl (fun ls hl => ?_)
  have hl : lv_has ls 6 [(0, .ref h0), (1, .int v1), (2, .int v2), (3, .int (0 : Int32)), (4, .int (0 : Int32))] := lv_sub hl [2, 3, 4, 1, 0] rfl
  obtain ⟨I_1, hI_1, n_1, h⟩ := h
  have loop_1 : ∀ (n_1 : Nat) (v3_2 : Int32) (v4_3 : Int32) (h : I_1 n_1 (v3_2, v4_3)) (H : Heap) (locs : List Loc) (hP : va_P (dC, dI) vwCl [(h0, .inr (2, [.ref h0_1, .ref h0_2, .int s0_variableBits, .int s0_found])), (h0_1, .inl (cI, 3, .inl s0_told)), (h0_2, .inl (cI, 3, .inl s0_numbers))] H) (hD : va_D (fun _ : Nat => True) [(h0, .inr (2, [.ref h0_1, .ref h0_2, .int s0_variableBits, .int s0_found])), (h0_1, .inl (cI, 3, .inl s0_told)), (h0_2, .inl (cI, 3, .inl s0_numbers))]) (hS : va_S A s.heap H locs) (ls : Array Slot) (hl : lv_has ls 6 [(0, .ref h0), (1, .int v1), (2, .int v2), (3, .int v3_2), (4, .int v4_3)]), W p l e rm_X2_valueWith s m ([.ref h0, .int v1, .int v2] : List Value).toArray below meth c H locs 0 0 (MQ below (Q_X2_valueWith dC dI cI h0 h0_1 h0_2 (s0_told, s0_numbers, s0_variableBits, s0_found) A post) (([.ref h0, .int v1, .int v2] : List Value).toArray) s 0 0 A) (F0 m 5 ls []) := by
    intro n_1
    induction n_1 using Nat.strongRecOn with
    | ind n_1 ih_1 =>
      intro v3_2 v4_3 h H locs hP hD hS ls hl
      have h := hI_1 n_1 _ h
      refine lv_iload hx hb dX2_valueWith_5 (lv_at hl 4 rfl) ?_
      refine lv_iconst (v := (3 : Int32)) hx hb dX2_valueWith_7 (by decide) ?_
      obtain ⟨ht_, hf_⟩ := h
      refine lv_icmp_ge (tgt := 82) hx hb dX2_valueWith_8 (by decide) (fun c_4 => ?_) (fun c_4 => ?_)
      · have h := ht_ c_4
        refine lv_iload_n hx hb dX2_valueWith_82 rfl (lv_at hl 3 rfl) ?_
        exact W.iret (v := v3_2) hx hb hr (fun t ht hW => ⟨⟨v3_2, (), rfl, h, trivial⟩, hS.F ht⟩) hS.2.2 dX2_valueWith_83
      · have h := hf_ c_4
        refine lv_aload_n hx hb dX2_valueWith_11 rfl (lv_at hl 0 rfl) ?_
        refine va_get (D := (dC, dI)) (ci := 2) (v := .ref h0_1) (C := RX2) (T := TX2) (N := 4) hx hb hts (hinX2) hown hK hP 0 rfl rfl 0 (by decide) (hts (.fieldLink RX2 9 "TripleJoins$Pattern" "told" "[I") (by decide +kernel)) (fun _ h9 => h9) rfl dX2_valueWith_12 ?_
        refine lv_iload hx hb dX2_valueWith_15 (lv_at hl 4 rfl) ?_
        have hPc := hP.sub (ws' := [(h0_1, .inl (cI, 3, .inl s0_told))]) [1] rfl
        have hDc := hD.sub (ws' := [(h0_1, .inl (cI, 3, .inl s0_told))]) [1] (by decide) rfl
        have hFc := fr0 hA hS
        refine va_calli (va_runSN (As := [.ref h0_1, .int v4_3]) (rest := []) ⟨hx, hb, hml, hown, hts⟩ (c_X7_at l dC dI cI h0_1 _ 3 s0_told v4_3 _ h) ⟨va_cnB 2 hts gX2_valueWith_X7_at_n33 rfl rfl rfl (nk_get hN 14 rfl) (hts (.initialized RX7) (by decide +kernel)) (by decide +kernel) ⟨Nat.le_of_ble_eq_true rfl, Nat.le_of_ble_eq_true rfl⟩, (hts (.static yX7_at) (by decide +kernel)), trivial⟩ (pb_S hPc hK hDc hN) rfl rfl hl.1 rfl (lv_room (Nat.le_of_ble_eq_true rfl)) dX2_valueWith_17 ⟨Nat.zero_le _, Nat.zero_le _⟩) hS (fun q _ h => hFc q h) hFc (fun r_6 u_5 t H locs ht hvm h hB hz1 hk1 hS => ?_)
        have hP := vaPk hP hk1
        refine lv_istore (lv' := [(5, .int r_6), (0, .ref h0), (1, .int v1), (2, .int v2), (3, .int v3_2), (4, .int v4_3)]) hx hb dX2_valueWith_20 hl (by decide) rfl (fun ls hl => ?_)
        refine lv_iload hx hb dX2_valueWith_22 (lv_at hl 0 rfl) ?_
        obtain ⟨ht_, hf_⟩ := h
        refine lv_if_lt (tgt := 48) hx hb dX2_valueWith_24 (by decide) (fun c_7 => ?_) (fun c_7 => ?_)
        · have h := ht_ c_7
          refine lv_iload_n hx hb dX2_valueWith_48 rfl (lv_at hl 2 rfl) ?_
          refine lv_iconst (v := (-1 : Int32)) hx hb dX2_valueWith_49 (by decide) ?_
          refine lv_iload hx hb dX2_valueWith_50 (lv_at hl 0 rfl) ?_
          refine lv_isub hx hb dX2_valueWith_52 ?_
          have hPc := hP.sub (ws' := []) [] rfl
          have hDc := hD.sub (ws' := []) [] (by decide) rfl
          have hFc := fr0 hA hS
          refine va_calli (va_runSN (As := [.int v1, .int ((-1 : Int32) - r_6)]) (rest := []) ⟨hx, hb, hml, hown, hts⟩ (c_X7_hasBit l dC dI cI  _ v1 ((-1 : Int32) - r_6) _ h) ⟨va_cnB 2 hts gX2_valueWith_X7_hasBit_n67 rfl rfl rfl (nk_get hN 15 rfl) (hts (.initialized RX7) (by decide +kernel)) (by decide +kernel) ⟨Nat.le_of_ble_eq_true rfl, Nat.le_of_ble_eq_true rfl⟩, (hts (.static yX7_hasBit) (by decide +kernel)), trivial⟩ (pb_S hPc hK hDc hN) rfl rfl hl.1 rfl (lv_room (Nat.le_of_ble_eq_true rfl)) dX2_valueWith_53 ⟨Nat.zero_le _, Nat.zero_le _⟩) hS (fun q _ h => hFc q h) hFc (fun r_9 u_8 t H locs ht hvm h hB hz1 hk1 hS => ?_)
          have hP := vaPk hP hk1
          obtain ⟨ht_, hf_⟩ := h
          refine lv_if_eq (tgt := 76) hx hb dX2_valueWith_56 (by decide) (fun c_10 => ?_) (fun c_10 => ?_)
          · have h := ht_ c_10
            refine lv_iinc (v := (v4_3 + (1 : Int32))) (lv' := [(4, .int (v4_3 + (1 : Int32))), (5, .int r_6), (0, .ref h0), (1, .int v1), (2, .int v2), (3, .int v3_2)]) hx hb dX2_valueWith_76 hl (k := 5) rfl rfl (by decide) rfl (fun ls hl => ?_)
            refine lv_goto (tgt := 5) hx hb dX2_valueWith_79 (by decide) ?_
            have hl : lv_has ls 6 [(0, .ref h0), (1, .int v1), (2, .int v2), (3, .int v3_2), (4, .int (v4_3 + (1 : Int32)))] := lv_sub hl [2, 3, 4, 5, 0] rfl
            obtain ⟨k_11, hk_12, h⟩ := h
            exact ih_1 k_11 hk_12 v3_2 (v4_3 + (1 : Int32)) h _ _ hP hD hS _ hl
          · have h := hf_ c_10
            refine lv_iload_n hx hb dX2_valueWith_59 rfl (lv_at hl 4 rfl) ?_
            refine lv_iload_n hx hb dX2_valueWith_60 rfl (lv_at hl 3 rfl) ?_
            refine lv_iconst (v := (-1 : Int32)) hx hb dX2_valueWith_61 (by decide) ?_
            refine lv_iload hx hb dX2_valueWith_62 (lv_at hl 0 rfl) ?_
            refine lv_isub hx hb dX2_valueWith_64 ?_
            have hPc := hP.sub (ws' := []) [] rfl
            have hDc := hD.sub (ws' := []) [] (by decide) rfl
            have hFc := fr0 hA hS
            refine va_calli (va_runSN (As := [.int v2, .int ((-1 : Int32) - r_6)]) (rest := [.int v3_2]) ⟨hx, hb, hml, hown, hts⟩ (c_X7_cellOf l dC dI cI  _ v2 ((-1 : Int32) - r_6) _ h) ⟨va_cnB 2 hts gX2_valueWith_X7_cellOf_n74 rfl rfl rfl (nk_get hN 17 rfl) (hts (.initialized RX7) (by decide +kernel)) (by decide +kernel) ⟨Nat.le_of_ble_eq_true rfl, Nat.le_of_ble_eq_true rfl⟩, (hts (.static yX7_cellOf) (by decide +kernel)), trivial⟩ (pb_S hPc hK hDc hN) rfl rfl hl.1 rfl (lv_room (Nat.le_of_ble_eq_true rfl)) dX2_valueWith_65 ⟨Nat.zero_le _, Nat.zero_le _⟩) hS (fun q _ h => hFc q h) hFc (fun r_14 u_13 t H locs ht hvm h hB hz1 hk1 hS => ?_)
            have hP := vaPk hP hk1
            refine lv_iload hx hb dX2_valueWith_68 (lv_at hl 5 rfl) ?_
            have hPc := hP.sub (ws' := []) [] rfl
            have hDc := hD.sub (ws' := []) [] (by decide) rfl
            have hFc := fr0 hA hS
            refine va_calli (va_runSN (As := [.int v4_3]) (rest := [.int r_14, .int v3_2]) ⟨hx, hb, hml, hown, hts⟩ (c_X7_partShift l dC dI cI  _ v4_3 _ h) ⟨va_cnB 1 hts gX2_valueWith_X7_partShift_n71 rfl rfl rfl (nk_get hN 16 rfl) (hts (.initialized RX7) (by decide +kernel)) (by decide +kernel) ⟨Nat.le_of_ble_eq_true rfl, Nat.le_of_ble_eq_true rfl⟩, (hts (.static yX7_partShift) (by decide +kernel)), trivial⟩ (pb_S hPc hK hDc hN) rfl rfl hl.1 rfl (lv_room (Nat.le_of_ble_eq_true rfl)) dX2_valueWith_70 ⟨Nat.zero_le _, Nat.zero_le _⟩) hS (fun q _ h => hFc q h) hFc (fun r_16 u_15 t H locs ht hvm h hB hz1 hk1 hS => ?_)
            have hP := vaPk hP hk1
            refine lv_ishl hx hb dX2_valueWith_73 ?_
            refine lv_ior hx hb dX2_valueWith_74 ?_
            refine lv_istore_n (lv' := [(3, .int (v3_2 ||| (r_14 <<< (r_16 &&& 31)))), (5, .int r_6), (0, .ref h0), (1, .int v1), (2, .int v2), (4, .int v4_3)]) hx hb dX2_valueWith_75 rfl hl (by decide) rfl (fun ls hl => ?_)
            refine lv_iinc (v := (v4_3 + (1 : Int32))) (lv' := [(4, .int (v4_3 + (1 : Int32))), (3, .int (v3_2 ||| (r_14 <<< (r_16 &&& 31)))), (5, .int r_6), (0, .ref h0), (1, .int v1), (2, .int v2)]) hx hb dX2_valueWith_76 hl (k := 5) rfl rfl (by decide) rfl (fun ls hl => ?_)
            refine lv_goto (tgt := 5) hx hb dX2_valueWith_79 (by decide) ?_
            have hl : lv_has ls 6 [(0, .ref h0), (1, .int v1), (2, .int v2), (3, .int (v3_2 ||| (r_14 <<< (r_16 &&& 31)))), (4, .int (v4_3 + (1 : Int32)))] := lv_sub hl [3, 4, 5, 1, 0] rfl
            obtain ⟨k_17, hk_18, h⟩ := h
            exact ih_1 k_17 hk_18 (v3_2 ||| (r_14 <<< (r_16 &&& 31))) (v4_3 + (1 : Int32)) h _ _ hP hD hS _ hl
        · have h := hf_ c_7
          refine lv_iload_n hx hb dX2_valueWith_27 rfl (lv_at hl 4 rfl) ?_
          refine lv_aload_n hx hb dX2_valueWith_28 rfl (lv_at hl 1 rfl) ?_
          refine va_get (D := (dC, dI)) (ci := 2) (v := .ref h0_2) (C := RX2) (T := TX2) (N := 4) hx hb hts (hinX2) hown hK hP 0 rfl rfl 1 (by decide) (hts (.fieldLink RX2 15 "TripleJoins$Pattern" "numbers" "[I") (by decide +kernel)) (fun _ h9 => h9) rfl dX2_valueWith_29 ?_
          refine lv_iload hx hb dX2_valueWith_32 (lv_at hl 5 rfl) ?_
          have hPc := hP.sub (ws' := [(h0_2, .inl (cI, 3, .inl s0_numbers))]) [2] rfl
          have hDc := hD.sub (ws' := [(h0_2, .inl (cI, 3, .inl s0_numbers))]) [2] (by decide) rfl
          have hFc := fr0 hA hS
          refine va_calli (va_runSN (As := [.ref h0_2, .int v4_3]) (rest := [.int v3_2]) ⟨hx, hb, hml, hown, hts⟩ (c_X7_at l dC dI cI h0_2 _ 3 s0_numbers v4_3 _ h) ⟨va_cnB 2 hts gX2_valueWith_X7_at_n33 rfl rfl rfl (nk_get hN 14 rfl) (hts (.initialized RX7) (by decide +kernel)) (by decide +kernel) ⟨Nat.le_of_ble_eq_true rfl, Nat.le_of_ble_eq_true rfl⟩, (hts (.static yX7_at) (by decide +kernel)), trivial⟩ (pb_S hPc hK hDc hN) rfl rfl hl.1 rfl (lv_room (Nat.le_of_ble_eq_true rfl)) dX2_valueWith_34 ⟨Nat.zero_le _, Nat.zero_le _⟩) hS (fun q _ h => hFc q h) hFc (fun r_20 u_19 t H locs ht hvm h hB hz1 hk1 hS => ?_)
          have hP := vaPk hP hk1
          refine lv_iload hx hb dX2_valueWith_37 (lv_at hl 5 rfl) ?_
          have hPc := hP.sub (ws' := []) [] rfl
          have hDc := hD.sub (ws' := []) [] (by decide) rfl
          have hFc := fr0 hA hS
          refine va_calli (va_runSN (As := [.int v4_3]) (rest := [.int r_20, .int v3_2]) ⟨hx, hb, hml, hown, hts⟩ (c_X7_partShift l dC dI cI  _ v4_3 _ h) ⟨va_cnB 1 hts gX2_valueWith_X7_partShift_n71 rfl rfl rfl (nk_get hN 16 rfl) (hts (.initialized RX7) (by decide +kernel)) (by decide +kernel) ⟨Nat.le_of_ble_eq_true rfl, Nat.le_of_ble_eq_true rfl⟩, (hts (.static yX7_partShift) (by decide +kernel)), trivial⟩ (pb_S hPc hK hDc hN) rfl rfl hl.1 rfl (lv_room (Nat.le_of_ble_eq_true rfl)) dX2_valueWith_39 ⟨Nat.zero_le _, Nat.zero_le _⟩) hS (fun q _ h => hFc q h) hFc (fun r_22 u_21 t H locs ht hvm h hB hz1 hk1 hS => ?_)
          have hP := vaPk hP hk1
          refine lv_ishl hx hb dX2_valueWith_42 ?_
          refine lv_ior hx hb dX2_valueWith_43 ?_
          refine lv_istore_n (lv' := [(3, .int (v3_2 ||| (r_20 <<< (r_22 &&& 31)))), (5, .int r_6), (0, .ref h0), (1, .int v1), (2, .int v2), (4, .int v4_3)]) hx hb dX2_valueWith_44 rfl hl (by decide) rfl (fun ls hl => ?_)
          refine lv_goto (tgt := 76) hx hb dX2_valueWith_45 (by decide) ?_
          refine lv_iinc (v := (v4_3 + (1 : Int32))) (lv' := [(4, .int (v4_3 + (1 : Int32))), (3, .int (v3_2 ||| (r_20 <<< (r_22 &&& 31)))), (5, .int r_6), (0, .ref h0), (1, .int v1), (2, .int v2)]) hx hb dX2_valueWith_76 hl (k := 5) rfl rfl (by decide) rfl (fun ls hl => ?_)
          refine lv_goto (tgt := 5) hx hb dX2_valueWith_79 (by decide) ?_
          have hl : lv_has ls 6 [(0, .ref h0), (1, .int v1), (2, .int v2), (3, .int (v3_2 ||| (r_20 <<< (r_22 &&& 31)))), (4, .int (v4_3 + (1 : Int32)))] := lv_sub hl [3, 4, 5, 1, 0] rfl
          obtain ⟨k_23, hk_24, h⟩ := h
          exact ih_1 k_23 hk_24 (v3_2 ||| (r_20 <<< (r_22 &&& 31))) (v4_3 + (1 : Int32)) h _ _ hP hD hS _ hl
  exact loop_1 n_1 (0 : Int32) (0 : Int32) h _ _ hP hD hS _ hl
abbrev Q_X2_widen (dC : Nat → ClassId) (dI : Nat → Nat → Nat) (cI : ClassId) (h0 h0_1 h0_2 : Nat) (s0 : PatS) (A : Nat → Prop) (post : Int32 → Prop) : Array Value → State → Outcome → State → Prop := va_Qi (fun (r : Int32) (_ : Unit) => post r) (fun _ _ => True) A
abbrev rm_X2_widen : Room := { frames := 2, cells := 0, slots := 0, locals := 41 }
set_option maxHeartbeats 4000000 in
set_option maxRecDepth 100000 in
theorem c_X2_widen (l : Launch) (dC : Nat → ClassId) (dI : Nat → Nat → Nat) (cI : ClassId) (h0 h0_1 h0_2 : Nat) (sz : Nat) (s0 : PatS) (v1 : Int32) (v2 : Int32) (v3 : Int32) (post : Int32 → Prop) (h : P_X2_widen s0 v1 v2 v3 post) : Met l yX2_widen wsX2_widen rm_X2_widen (va_Pc [.ref h0, .int v1, .int v2, .int v3] (cpre (dC, dI) [(cI, .int)] [(h0, .inr (2, [.ref h0_1, .ref h0_2, .int s0.variableBits, .int s0.found])), (h0_1, .inl (cI, 3, .inl s0.told)), (h0_2, .inl (cI, 3, .inl s0.numbers))] sz)) (Q_X2_widen dC dI cI h0 h0_1 h0_2 s0 (va_A [] sz) post) 0 0 (va_A [] sz) := by
  refine Met.ofW (cc := cX2_widen) (maxL := 9) (ret := (some .int)) (by decide) rfl ?_
  intro p e s m args below meth c s₁ B hml hv
  obtain ⟨rfl, hsz, hP, hK, hD0, hN⟩ := hv
  have hx := B.exec
  have hb := B.bytes
  have hr := B.returns
  have hts := atoms_spec (ws := wsX2_widen) B.pre
  have hown : s.vm.findClass RX2 = some m.cls := findClass_of_methodNamed B.named
  have hlocks := B.notSynchronized
  subst hsz
  have hD := hD0
  generalize hAe : va_A [] s.heap.size = A
  have hA : ∀ q : Nat, s.heap.size ≤ q → A q := fun q h => by rw [← hAe]; exact Or.inr h
  clear hAe hD0
  obtain ⟨s0_told, s0_numbers, s0_variableBits, s0_found⟩ := s0
  have hS : va_S A s.heap s.heap [] := va_S.rf
  have hP : va_P (dC, dI) vwCl [(h0, .inr (2, [.ref h0_1, .ref h0_2, .int s0_variableBits, .int s0_found])), (h0_1, .inl (cI, 3, .inl s0_told)), (h0_2, .inl (cI, 3, .inl s0_numbers))] s.heap := hP
  have hD : va_D (fun _ : Nat => True) [(h0, .inr (2, [.ref h0_1, .ref h0_2, .int s0_variableBits, .int s0_found])), (h0_1, .inl (cI, 3, .inl s0_told)), (h0_2, .inl (cI, 3, .inl s0_numbers))] := hD
  have hl := lv_entry ([.ref h0, .int v1, .int v2, .int v3]) (n := 9) (Nat.le_of_ble_eq_true rfl)
  rw [lg_entry_eq]
  generalize (lg_sl ([.ref h0, .int v1, .int v2, .int v3]) ++ List.replicate (9 - (lg_sl ([.ref h0, .int v1, .int v2, .int v3])).length) Slot.unset).toArray = ls at hl ⊢
  have hl : lv_has ls 9 [(0, .ref h0), (1, .int v1), (2, .int v2), (3, .int v3)] := hl
  have hinX2 : ∀ w ∈ u_ws RX2 TX2 4, w ∈ wsX2_widen := by decide +kernel
  refine lv_iload_n hx hb dX2_widen_0 rfl (lv_at hl 2 rfl) ?_
  refine lv_istore (lv' := [(4, .int v2), (0, .ref h0), (1, .int v1), (2, .int v2), (3, .int v3)]) hx hb dX2_widen_1 hl (by decide) rfl (fun ls hl => ?_)
  refine lv_iload_n hx hb dX2_widen_3 rfl (lv_at hl 2 rfl) ?_
  refine lv_istore (lv' := [(5, .int v1), (4, .int v2), (0, .ref h0), (1, .int v1), (2, .int v2), (3, .int v3)]) hx hb dX2_widen_4 hl (by decide) rfl (fun ls hl => ?_)
  refine lv_iconst (v := (0 : Int32)) hx hb dX2_widen_6 (by decide) ?_
  refine lv_istore (lv' := [(6, .int (0 : Int32)), (5, .int v1), (4, .int v2), (0, .ref h0), (1, .int v1), (2, .int v2), (3, .int v3)]) hx hb dX2_widen_7 hl (by decide) rfl (fun ls hl => ?_)
  have hl : lv_has ls 9 [(0, .ref h0), (3, .int v3), (4, .int v2), (5, .int v1), (6, .int (0 : Int32))] := lv_sub hl [3, 6, 2, 1, 0] rfl
  obtain ⟨I_1, hI_1, n_1, h⟩ := h
  have loop_1 : ∀ (n_1 : Nat) (v4_2 : Int32) (v5_3 : Int32) (v6_4 : Int32) (h : I_1 n_1 (v4_2, v5_3, v6_4)) (H : Heap) (locs : List Loc) (hP : va_P (dC, dI) vwCl [(h0, .inr (2, [.ref h0_1, .ref h0_2, .int s0_variableBits, .int s0_found])), (h0_1, .inl (cI, 3, .inl s0_told)), (h0_2, .inl (cI, 3, .inl s0_numbers))] H) (hD : va_D (fun _ : Nat => True) [(h0, .inr (2, [.ref h0_1, .ref h0_2, .int s0_variableBits, .int s0_found])), (h0_1, .inl (cI, 3, .inl s0_told)), (h0_2, .inl (cI, 3, .inl s0_numbers))]) (hS : va_S A s.heap H locs) (ls : Array Slot) (hl : lv_has ls 9 [(0, .ref h0), (3, .int v3), (4, .int v4_2), (5, .int v5_3), (6, .int v6_4)]), W p l e rm_X2_widen s m ([.ref h0, .int v1, .int v2, .int v3] : List Value).toArray below meth c H locs 0 0 (MQ below (Q_X2_widen dC dI cI h0 h0_1 h0_2 (s0_told, s0_numbers, s0_variableBits, s0_found) A post) (([.ref h0, .int v1, .int v2, .int v3] : List Value).toArray) s 0 0 A) (F0 m 9 ls []) := by
    intro n_1
    induction n_1 using Nat.strongRecOn with
    | ind n_1 ih_1 =>
      intro v4_2 v5_3 v6_4 h H locs hP hD hS ls hl
      have h := hI_1 n_1 _ h
      refine lv_iload hx hb dX2_widen_9 (lv_at hl 4 rfl) ?_
      refine lv_iconst (v := (3 : Int32)) hx hb dX2_widen_11 (by decide) ?_
      obtain ⟨ht_, hf_⟩ := h
      refine lv_icmp_ge (tgt := 96) hx hb dX2_widen_12 (by decide) (fun c_5 => ?_) (fun c_5 => ?_)
      · have h := ht_ c_5
        refine lv_iload hx hb dX2_widen_96 (lv_at hl 2 rfl) ?_
        exact W.iret (v := v4_2) hx hb hr (fun t ht hW => ⟨⟨v4_2, (), rfl, h, trivial⟩, hS.F ht⟩) hS.2.2 dX2_widen_98
      · have h := hf_ c_5
        refine lv_iconst (v := (-1 : Int32)) hx hb dX2_widen_15 (by decide) ?_
        refine lv_aload_n hx hb dX2_widen_16 rfl (lv_at hl 0 rfl) ?_
        refine va_get (D := (dC, dI)) (ci := 2) (v := .ref h0_1) (C := RX2) (T := TX2) (N := 4) hx hb hts (hinX2) hown hK hP 0 rfl rfl 0 (by decide) (hts (.fieldLink RX2 9 "TripleJoins$Pattern" "told" "[I") (by decide +kernel)) (fun _ h9 => h9) rfl dX2_widen_17 ?_
        refine lv_iload hx hb dX2_widen_20 (lv_at hl 4 rfl) ?_
        have hPc := hP.sub (ws' := [(h0_1, .inl (cI, 3, .inl s0_told))]) [1] rfl
        have hDc := hD.sub (ws' := [(h0_1, .inl (cI, 3, .inl s0_told))]) [1] (by decide) rfl
        have hFc := fr0 hA hS
        refine va_calli (va_runSN (As := [.ref h0_1, .int v6_4]) (rest := [.int (-1 : Int32)]) ⟨hx, hb, hml, hown, hts⟩ (c_X7_at l dC dI cI h0_1 _ 3 s0_told v6_4 _ h) ⟨va_cnB 2 hts gX2_widen_X7_at_n33 rfl rfl rfl (nk_get hN 14 rfl) (hts (.initialized RX7) (by decide +kernel)) (by decide +kernel) ⟨Nat.le_of_ble_eq_true rfl, Nat.le_of_ble_eq_true rfl⟩, (hts (.static yX7_at) (by decide +kernel)), trivial⟩ (pb_S hPc hK hDc hN) rfl rfl hl.1 rfl (lv_room (Nat.le_of_ble_eq_true rfl)) dX2_widen_22 ⟨Nat.zero_le _, Nat.zero_le _⟩) hS (fun q _ h => hFc q h) hFc (fun r_7 u_6 t H locs ht hvm h hB hz1 hk1 hS => ?_)
        have hP := vaPk hP hk1
        refine lv_isub hx hb dX2_widen_25 ?_
        refine lv_istore (lv' := [(7, .int ((-1 : Int32) - r_7)), (0, .ref h0), (3, .int v3), (4, .int v4_2), (5, .int v5_3), (6, .int v6_4)]) hx hb dX2_widen_26 hl (by decide) rfl (fun ls hl => ?_)
        refine lv_iload hx hb dX2_widen_28 (lv_at hl 0 rfl) ?_
        obtain ⟨ht_, hf_⟩ := h
        refine lv_if_lt (tgt := 90) hx hb dX2_widen_30 (by decide) (fun c_8 => ?_) (fun c_8 => ?_)
        · have h := ht_ c_8
          refine lv_iinc (v := (v6_4 + (1 : Int32))) (lv' := [(6, .int (v6_4 + (1 : Int32))), (7, .int ((-1 : Int32) - r_7)), (0, .ref h0), (3, .int v3), (4, .int v4_2), (5, .int v5_3)]) hx hb dX2_widen_90 hl (k := 5) rfl rfl (by decide) rfl (fun ls hl => ?_)
          refine lv_goto (tgt := 9) hx hb dX2_widen_93 (by decide) ?_
          have hl : lv_has ls 9 [(0, .ref h0), (3, .int v3), (4, .int v4_2), (5, .int v5_3), (6, .int (v6_4 + (1 : Int32)))] := lv_sub hl [2, 3, 4, 5, 0] rfl
          obtain ⟨k_9, hk_10, h⟩ := h
          exact ih_1 k_9 hk_10 v4_2 v5_3 (v6_4 + (1 : Int32)) h _ _ hP hD hS _ hl
        · have h := hf_ c_8
          refine lv_iload_n hx hb dX2_widen_33 rfl (lv_at hl 2 rfl) ?_
          refine lv_iload hx hb dX2_widen_34 (lv_at hl 5 rfl) ?_
          have hPc := hP.sub (ws' := []) [] rfl
          have hDc := hD.sub (ws' := []) [] (by decide) rfl
          have hFc := fr0 hA hS
          refine va_calli (va_runSN (As := [.int v3, .int v6_4]) (rest := []) ⟨hx, hb, hml, hown, hts⟩ (c_X7_partOf l dC dI cI  _ v3 v6_4 _ h) ⟨va_cnB 2 hts gX2_widen_X7_partOf_n77 rfl rfl rfl (nk_get hN 18 rfl) (hts (.initialized RX7) (by decide +kernel)) (by decide +kernel) ⟨Nat.le_of_ble_eq_true rfl, Nat.le_of_ble_eq_true rfl⟩, (hts (.static yX7_partOf) (by decide +kernel)), trivial⟩ (pb_S hPc hK hDc hN) rfl rfl hl.1 rfl (lv_room (Nat.le_of_ble_eq_true rfl)) dX2_widen_36 ⟨Nat.zero_le _, Nat.zero_le _⟩) hS (fun q _ h => hFc q h) hFc (fun r_12 u_11 t H locs ht hvm h hB hz1 hk1 hS => ?_)
          have hP := vaPk hP hk1
          refine lv_istore (lv' := [(8, .int r_12), (7, .int ((-1 : Int32) - r_7)), (0, .ref h0), (3, .int v3), (4, .int v4_2), (5, .int v5_3), (6, .int v6_4)]) hx hb dX2_widen_39 hl (by decide) rfl (fun ls hl => ?_)
          refine lv_iload hx hb dX2_widen_41 (lv_at hl 5 rfl) ?_
          refine lv_iload hx hb dX2_widen_43 (lv_at hl 1 rfl) ?_
          have hPc := hP.sub (ws' := []) [] rfl
          have hDc := hD.sub (ws' := []) [] (by decide) rfl
          have hFc := fr0 hA hS
          refine va_calli (va_runSN (As := [.int v5_3, .int ((-1 : Int32) - r_7)]) (rest := []) ⟨hx, hb, hml, hown, hts⟩ (c_X7_hasBit l dC dI cI  _ v5_3 ((-1 : Int32) - r_7) _ h) ⟨va_cnB 2 hts gX2_widen_X7_hasBit_n67 rfl rfl rfl (nk_get hN 15 rfl) (hts (.initialized RX7) (by decide +kernel)) (by decide +kernel) ⟨Nat.le_of_ble_eq_true rfl, Nat.le_of_ble_eq_true rfl⟩, (hts (.static yX7_hasBit) (by decide +kernel)), trivial⟩ (pb_S hPc hK hDc hN) rfl rfl hl.1 rfl (lv_room (Nat.le_of_ble_eq_true rfl)) dX2_widen_45 ⟨Nat.zero_le _, Nat.zero_le _⟩) hS (fun q _ h => hFc q h) hFc (fun r_14 u_13 t H locs ht hvm h hB hz1 hk1 hS => ?_)
          have hP := vaPk hP hk1
          obtain ⟨ht_, hf_⟩ := h
          refine lv_if_ne (tgt := 76) hx hb dX2_widen_48 (by decide) (fun c_15 => ?_) (fun c_15 => ?_)
          · have h := ht_ c_15
            refine lv_iload hx hb dX2_widen_76 (lv_at hl 4 rfl) ?_
            refine lv_iload hx hb dX2_widen_78 (lv_at hl 1 rfl) ?_
            have hPc := hP.sub (ws' := []) [] rfl
            have hDc := hD.sub (ws' := []) [] (by decide) rfl
            have hFc := fr0 hA hS
            refine va_calli (va_runSN (As := [.int v4_2, .int ((-1 : Int32) - r_7)]) (rest := []) ⟨hx, hb, hml, hown, hts⟩ (c_X7_cellOf l dC dI cI  _ v4_2 ((-1 : Int32) - r_7) _ h) ⟨va_cnB 2 hts gX2_widen_X7_cellOf_n74 rfl rfl rfl (nk_get hN 17 rfl) (hts (.initialized RX7) (by decide +kernel)) (by decide +kernel) ⟨Nat.le_of_ble_eq_true rfl, Nat.le_of_ble_eq_true rfl⟩, (hts (.static yX7_cellOf) (by decide +kernel)), trivial⟩ (pb_S hPc hK hDc hN) rfl rfl hl.1 rfl (lv_room (Nat.le_of_ble_eq_true rfl)) dX2_widen_80 ⟨Nat.zero_le _, Nat.zero_le _⟩) hS (fun q _ h => hFc q h) hFc (fun r_17 u_16 t H locs ht hvm h hB hz1 hk1 hS => ?_)
            have hP := vaPk hP hk1
            refine lv_iload hx hb dX2_widen_83 (lv_at hl 0 rfl) ?_
            obtain ⟨ht_, hf_⟩ := h
            refine lv_icmp_eq (tgt := 90) hx hb dX2_widen_85 (by decide) (fun c_18 => ?_) (fun c_18 => ?_)
            · have h := ht_ c_18
              refine lv_iinc (v := (v6_4 + (1 : Int32))) (lv' := [(6, .int (v6_4 + (1 : Int32))), (8, .int r_12), (7, .int ((-1 : Int32) - r_7)), (0, .ref h0), (3, .int v3), (4, .int v4_2), (5, .int v5_3)]) hx hb dX2_widen_90 hl (k := 6) rfl rfl (by decide) rfl (fun ls hl => ?_)
              refine lv_goto (tgt := 9) hx hb dX2_widen_93 (by decide) ?_
              have hl : lv_has ls 9 [(0, .ref h0), (3, .int v3), (4, .int v4_2), (5, .int v5_3), (6, .int (v6_4 + (1 : Int32)))] := lv_sub hl [3, 4, 5, 6, 0] rfl
              obtain ⟨k_19, hk_20, h⟩ := h
              exact ih_1 k_19 hk_20 v4_2 v5_3 (v6_4 + (1 : Int32)) h _ _ hP hD hS _ hl
            · have h := hf_ c_18
              refine lv_iconst (v := (-1 : Int32)) hx hb dX2_widen_88 (by decide) ?_
              exact W.iret (v := (-1 : Int32)) hx hb hr (fun t ht hW => ⟨⟨(-1 : Int32), (), rfl, h, trivial⟩, hS.F ht⟩) hS.2.2 dX2_widen_89
          · have h := hf_ c_15
            refine lv_iload hx hb dX2_widen_51 (lv_at hl 4 rfl) ?_
            refine lv_iload hx hb dX2_widen_53 (lv_at hl 0 rfl) ?_
            refine lv_iload hx hb dX2_widen_55 (lv_at hl 1 rfl) ?_
            have hPc := hP.sub (ws' := []) [] rfl
            have hDc := hD.sub (ws' := []) [] (by decide) rfl
            have hFc := fr0 hA hS
            refine va_calli (va_runSN (As := [.int ((-1 : Int32) - r_7)]) (rest := [.int r_12, .int v4_2]) ⟨hx, hb, hml, hown, hts⟩ (c_X7_cellShift l dC dI cI  _ ((-1 : Int32) - r_7) _ h) ⟨va_cnB 1 hts gX2_widen_X7_cellShift_n80 rfl rfl rfl (nk_get hN 19 rfl) (hts (.initialized RX7) (by decide +kernel)) (by decide +kernel) ⟨Nat.le_of_ble_eq_true rfl, Nat.le_of_ble_eq_true rfl⟩, (hts (.static yX7_cellShift) (by decide +kernel)), trivial⟩ (pb_S hPc hK hDc hN) rfl rfl hl.1 rfl (lv_room (Nat.le_of_ble_eq_true rfl)) dX2_widen_57 ⟨Nat.zero_le _, Nat.zero_le _⟩) hS (fun q _ h => hFc q h) hFc (fun r_22 u_21 t H locs ht hvm h hB hz1 hk1 hS => ?_)
            have hP := vaPk hP hk1
            refine lv_ishl hx hb dX2_widen_60 ?_
            refine lv_ior hx hb dX2_widen_61 ?_
            refine lv_istore (lv' := [(4, .int (v4_2 ||| (r_12 <<< (r_22 &&& 31)))), (8, .int r_12), (7, .int ((-1 : Int32) - r_7)), (0, .ref h0), (3, .int v3), (5, .int v5_3), (6, .int v6_4)]) hx hb dX2_widen_62 hl (by decide) rfl (fun ls hl => ?_)
            refine lv_iload hx hb dX2_widen_64 (lv_at hl 5 rfl) ?_
            refine lv_iconst (v := (1 : Int32)) hx hb dX2_widen_66 (by decide) ?_
            refine lv_iload hx hb dX2_widen_67 (lv_at hl 2 rfl) ?_
            refine lv_ishl hx hb dX2_widen_69 ?_
            refine lv_ior hx hb dX2_widen_70 ?_
            refine lv_istore (lv' := [(5, .int (v5_3 ||| ((1 : Int32) <<< (((-1 : Int32) - r_7) &&& 31)))), (4, .int (v4_2 ||| (r_12 <<< (r_22 &&& 31)))), (8, .int r_12), (7, .int ((-1 : Int32) - r_7)), (0, .ref h0), (3, .int v3), (6, .int v6_4)]) hx hb dX2_widen_71 hl (by decide) rfl (fun ls hl => ?_)
            refine lv_goto (tgt := 90) hx hb dX2_widen_73 (by decide) ?_
            refine lv_iinc (v := (v6_4 + (1 : Int32))) (lv' := [(6, .int (v6_4 + (1 : Int32))), (5, .int (v5_3 ||| ((1 : Int32) <<< (((-1 : Int32) - r_7) &&& 31)))), (4, .int (v4_2 ||| (r_12 <<< (r_22 &&& 31)))), (8, .int r_12), (7, .int ((-1 : Int32) - r_7)), (0, .ref h0), (3, .int v3)]) hx hb dX2_widen_90 hl (k := 6) rfl rfl (by decide) rfl (fun ls hl => ?_)
            refine lv_goto (tgt := 9) hx hb dX2_widen_93 (by decide) ?_
            have hl : lv_has ls 9 [(0, .ref h0), (3, .int v3), (4, .int (v4_2 ||| (r_12 <<< (r_22 &&& 31)))), (5, .int (v5_3 ||| ((1 : Int32) <<< (((-1 : Int32) - r_7) &&& 31)))), (6, .int (v6_4 + (1 : Int32)))] := lv_sub hl [5, 6, 2, 1, 0] rfl
            obtain ⟨k_23, hk_24, h⟩ := h
            exact ih_1 k_23 hk_24 (v4_2 ||| (r_12 <<< (r_22 &&& 31))) (v5_3 ||| ((1 : Int32) <<< (((-1 : Int32) - r_7) &&& 31))) (v6_4 + (1 : Int32)) h _ _ hP hD hS _ hl
  exact loop_1 n_1 v2 v1 (0 : Int32) h _ _ hP hD hS _ hl
abbrev Q_X2_look (dC : Nat → ClassId) (dI : Nat → Nat → Nat) (cI : ClassId) (h0 h0_1 h0_2 h1 h1_4 h1_5 h2 h2_7 h2_8 h2_9 h2_10 h2_11 h2_12 : Nat) (s0 : PatS) (s1 : DicS) (s2 : StoS) (A : Nat → Prop) (post : PatS → Prop) : Array Value → State → Outcome → State → Prop := va_Qv post (fun (u : PatS) (t : State) => va_P (dC, dI) vwCl [(h0, .inr (2, [.ref h0_1, .ref h0_2, .int u.variableBits, .int u.found])), (h0_1, .inl (cI, 3, .inl u.told)), (h0_2, .inl (cI, 3, .inl u.numbers)), (h1, .inr (0, [.ref h1_4, .ref h1_5, .int s1.size])), (h1_4, .inl (cI, 40, .inl s1.termByNumber)), (h1_5, .inl (cI, 100, .inl s1.nextNumberByTerm)), (h2, .inr (5, [.ref h2_7, .ref h2_9, .ref h2_11])), (h2_7, .inr (4, [.ref h2_8, .int s2.bySubject.size])), (h2_8, .inl (cI, 60, .inl s2.bySubject.keys)), (h2_9, .inr (4, [.ref h2_10, .int s2.byPredicate.size])), (h2_10, .inl (cI, 60, .inl s2.byPredicate.keys)), (h2_11, .inr (4, [.ref h2_12, .int s2.byObject.size])), (h2_12, .inl (cI, 60, .inl s2.byObject.keys))] t.heap ∧ va_D A [(h0, .inr (2, [.ref h0_1, .ref h0_2, .int u.variableBits, .int u.found])), (h0_1, .inl (cI, 3, .inl u.told)), (h0_2, .inl (cI, 3, .inl u.numbers)), (h1, .inr (0, [.ref h1_4, .ref h1_5, .int s1.size])), (h1_4, .inl (cI, 40, .inl s1.termByNumber)), (h1_5, .inl (cI, 100, .inl s1.nextNumberByTerm)), (h2, .inr (5, [.ref h2_7, .ref h2_9, .ref h2_11])), (h2_7, .inr (4, [.ref h2_8, .int s2.bySubject.size])), (h2_8, .inl (cI, 60, .inl s2.bySubject.keys)), (h2_9, .inr (4, [.ref h2_10, .int s2.byPredicate.size])), (h2_10, .inl (cI, 60, .inl s2.byPredicate.keys)), (h2_11, .inr (4, [.ref h2_12, .int s2.byObject.size])), (h2_12, .inl (cI, 60, .inl s2.byObject.keys))]) A
abbrev rm_X2_look : Room := { frames := 3, cells := 0, slots := 0, locals := 69 }
set_option maxHeartbeats 4000000 in
set_option maxRecDepth 100000 in
theorem c_X2_look (l : Launch) (dC : Nat → ClassId) (dI : Nat → Nat → Nat) (cI : ClassId) (h0 h0_1 h0_2 h1 h1_4 h1_5 h2 h2_7 h2_8 h2_9 h2_10 h2_11 h2_12 : Nat) (sz : Nat) (s0 : PatS) (s1 : DicS) (s2 : StoS) (post : PatS → Prop) (h : P_X2_look s0 s1 s2 post) : Met l yX2_look wsX2_look rm_X2_look (va_Pc [.ref h0, .ref h1, .ref h2] (cpre (dC, dI) [(cI, .int)] [(h0, .inr (2, [.ref h0_1, .ref h0_2, .int s0.variableBits, .int s0.found])), (h0_1, .inl (cI, 3, .inl s0.told)), (h0_2, .inl (cI, 3, .inl s0.numbers)), (h1, .inr (0, [.ref h1_4, .ref h1_5, .int s1.size])), (h1_4, .inl (cI, 40, .inl s1.termByNumber)), (h1_5, .inl (cI, 100, .inl s1.nextNumberByTerm)), (h2, .inr (5, [.ref h2_7, .ref h2_9, .ref h2_11])), (h2_7, .inr (4, [.ref h2_8, .int s2.bySubject.size])), (h2_8, .inl (cI, 60, .inl s2.bySubject.keys)), (h2_9, .inr (4, [.ref h2_10, .int s2.byPredicate.size])), (h2_10, .inl (cI, 60, .inl s2.byPredicate.keys)), (h2_11, .inr (4, [.ref h2_12, .int s2.byObject.size])), (h2_12, .inl (cI, 60, .inl s2.byObject.keys))] sz)) (Q_X2_look dC dI cI h0 h0_1 h0_2 h1 h1_4 h1_5 h2 h2_7 h2_8 h2_9 h2_10 h2_11 h2_12 s0 s1 s2 (va_A [(h0, .inr (2, [.ref h0_1, .ref h0_2, .int s0.variableBits, .int s0.found])), (h0_1, .inl (cI, 3, .inl s0.told)), (h0_2, .inl (cI, 3, .inl s0.numbers)), (h1, .inr (0, [.ref h1_4, .ref h1_5, .int s1.size])), (h1_4, .inl (cI, 40, .inl s1.termByNumber)), (h1_5, .inl (cI, 100, .inl s1.nextNumberByTerm)), (h2, .inr (5, [.ref h2_7, .ref h2_9, .ref h2_11])), (h2_7, .inr (4, [.ref h2_8, .int s2.bySubject.size])), (h2_8, .inl (cI, 60, .inl s2.bySubject.keys)), (h2_9, .inr (4, [.ref h2_10, .int s2.byPredicate.size])), (h2_10, .inl (cI, 60, .inl s2.byPredicate.keys)), (h2_11, .inr (4, [.ref h2_12, .int s2.byObject.size])), (h2_12, .inl (cI, 60, .inl s2.byObject.keys))] sz) post) 0 0 (va_A [(h0, .inr (2, [.ref h0_1, .ref h0_2, .int s0.variableBits, .int s0.found])), (h0_1, .inl (cI, 3, .inl s0.told)), (h0_2, .inl (cI, 3, .inl s0.numbers)), (h1, .inr (0, [.ref h1_4, .ref h1_5, .int s1.size])), (h1_4, .inl (cI, 40, .inl s1.termByNumber)), (h1_5, .inl (cI, 100, .inl s1.nextNumberByTerm)), (h2, .inr (5, [.ref h2_7, .ref h2_9, .ref h2_11])), (h2_7, .inr (4, [.ref h2_8, .int s2.bySubject.size])), (h2_8, .inl (cI, 60, .inl s2.bySubject.keys)), (h2_9, .inr (4, [.ref h2_10, .int s2.byPredicate.size])), (h2_10, .inl (cI, 60, .inl s2.byPredicate.keys)), (h2_11, .inr (4, [.ref h2_12, .int s2.byObject.size])), (h2_12, .inl (cI, 60, .inl s2.byObject.keys))] sz) := by
  refine Met.ofW (cc := cX2_look) (maxL := 8) (ret := none) (by decide) rfl ?_
  intro p e s m args below meth c s₁ B hml hv
  obtain ⟨rfl, hsz, hP, hK, hD0, hN⟩ := hv
  have hx := B.exec
  have hb := B.bytes
  have hr := B.returns
  have hts := atoms_spec (ws := wsX2_look) B.pre
  have hown : s.vm.findClass RX2 = some m.cls := findClass_of_methodNamed B.named
  have hlocks := B.notSynchronized
  subst hsz
  have hD := hD0.self (sz := s.heap.size)
  generalize hAe : va_A [(h0, .inr (2, [.ref h0_1, .ref h0_2, .int s0.variableBits, .int s0.found])), (h0_1, .inl (cI, 3, .inl s0.told)), (h0_2, .inl (cI, 3, .inl s0.numbers)), (h1, .inr (0, [.ref h1_4, .ref h1_5, .int s1.size])), (h1_4, .inl (cI, 40, .inl s1.termByNumber)), (h1_5, .inl (cI, 100, .inl s1.nextNumberByTerm)), (h2, .inr (5, [.ref h2_7, .ref h2_9, .ref h2_11])), (h2_7, .inr (4, [.ref h2_8, .int s2.bySubject.size])), (h2_8, .inl (cI, 60, .inl s2.bySubject.keys)), (h2_9, .inr (4, [.ref h2_10, .int s2.byPredicate.size])), (h2_10, .inl (cI, 60, .inl s2.byPredicate.keys)), (h2_11, .inr (4, [.ref h2_12, .int s2.byObject.size])), (h2_12, .inl (cI, 60, .inl s2.byObject.keys))] s.heap.size = A at hD ⊢
  have hA : ∀ q : Nat, s.heap.size ≤ q → A q := fun q h => by rw [← hAe]; exact Or.inr h
  clear hAe hD0
  obtain ⟨s0_told, s0_numbers, s0_variableBits, s0_found⟩ := s0
  obtain ⟨s1_termByNumber, s1_nextNumberByTerm, s1_size⟩ := s1
  obtain ⟨⟨s2_bySubject_keys, s2_bySubject_size⟩, ⟨s2_byPredicate_keys, s2_byPredicate_size⟩, ⟨s2_byObject_keys, s2_byObject_size⟩⟩ := s2
  have hS : va_S A s.heap s.heap [] := va_S.rf
  have hP : va_P (dC, dI) vwCl [(h0, .inr (2, [.ref h0_1, .ref h0_2, .int s0_variableBits, .int s0_found])), (h0_1, .inl (cI, 3, .inl s0_told)), (h0_2, .inl (cI, 3, .inl s0_numbers)), (h1, .inr (0, [.ref h1_4, .ref h1_5, .int s1_size])), (h1_4, .inl (cI, 40, .inl s1_termByNumber)), (h1_5, .inl (cI, 100, .inl s1_nextNumberByTerm)), (h2, .inr (5, [.ref h2_7, .ref h2_9, .ref h2_11])), (h2_7, .inr (4, [.ref h2_8, .int s2_bySubject_size])), (h2_8, .inl (cI, 60, .inl s2_bySubject_keys)), (h2_9, .inr (4, [.ref h2_10, .int s2_byPredicate_size])), (h2_10, .inl (cI, 60, .inl s2_byPredicate_keys)), (h2_11, .inr (4, [.ref h2_12, .int s2_byObject_size])), (h2_12, .inl (cI, 60, .inl s2_byObject_keys))] s.heap := hP
  have hD : va_D A [(h0, .inr (2, [.ref h0_1, .ref h0_2, .int s0_variableBits, .int s0_found])), (h0_1, .inl (cI, 3, .inl s0_told)), (h0_2, .inl (cI, 3, .inl s0_numbers)), (h1, .inr (0, [.ref h1_4, .ref h1_5, .int s1_size])), (h1_4, .inl (cI, 40, .inl s1_termByNumber)), (h1_5, .inl (cI, 100, .inl s1_nextNumberByTerm)), (h2, .inr (5, [.ref h2_7, .ref h2_9, .ref h2_11])), (h2_7, .inr (4, [.ref h2_8, .int s2_bySubject_size])), (h2_8, .inl (cI, 60, .inl s2_bySubject_keys)), (h2_9, .inr (4, [.ref h2_10, .int s2_byPredicate_size])), (h2_10, .inl (cI, 60, .inl s2_byPredicate_keys)), (h2_11, .inr (4, [.ref h2_12, .int s2_byObject_size])), (h2_12, .inl (cI, 60, .inl s2_byObject_keys))] := hD
  have hl := lv_entry ([.ref h0, .ref h1, .ref h2]) (n := 8) (Nat.le_of_ble_eq_true rfl)
  rw [lg_entry_eq]
  generalize (lg_sl ([.ref h0, .ref h1, .ref h2]) ++ List.replicate (8 - (lg_sl ([.ref h0, .ref h1, .ref h2])).length) Slot.unset).toArray = ls at hl ⊢
  have hl : lv_has ls 8 [(0, .ref h0), (1, .ref h1), (2, .ref h2)] := hl
  have hinX2 : ∀ w ∈ u_ws RX2 TX2 4, w ∈ wsX2_look := by decide +kernel
  refine lv_iconst (v := (0 : Int32)) hx hb dX2_look_0 (by decide) ?_
  refine lv_istore_n (lv' := [(3, .int (0 : Int32)), (0, .ref h0), (1, .ref h1), (2, .ref h2)]) hx hb dX2_look_1 rfl hl (by decide) rfl (fun ls hl => ?_)
  have hl : lv_has ls 8 [(0, .ref h0), (1, .ref h1), (2, .ref h2), (3, .int (0 : Int32))] := lv_sub hl [1, 2, 3, 0] rfl
  obtain ⟨I_1, hI_1, n_1, h⟩ := h
  have loop_1 : ∀ (n_1 : Nat) (v3_2 : Int32) (s0_3_told : Nat → Int32) (s0_3_numbers : Nat → Int32) (s0_3_variableBits : Int32) (s0_3_found : Int32) (h : I_1 n_1 (v3_2, (s0_3_told, s0_3_numbers, s0_3_variableBits, s0_3_found))) (H : Heap) (locs : List Loc) (hP : va_P (dC, dI) vwCl [(h0, .inr (2, [.ref h0_1, .ref h0_2, .int s0_3_variableBits, .int s0_3_found])), (h0_1, .inl (cI, 3, .inl s0_3_told)), (h0_2, .inl (cI, 3, .inl s0_3_numbers)), (h1, .inr (0, [.ref h1_4, .ref h1_5, .int s1_size])), (h1_4, .inl (cI, 40, .inl s1_termByNumber)), (h1_5, .inl (cI, 100, .inl s1_nextNumberByTerm)), (h2, .inr (5, [.ref h2_7, .ref h2_9, .ref h2_11])), (h2_7, .inr (4, [.ref h2_8, .int s2_bySubject_size])), (h2_8, .inl (cI, 60, .inl s2_bySubject_keys)), (h2_9, .inr (4, [.ref h2_10, .int s2_byPredicate_size])), (h2_10, .inl (cI, 60, .inl s2_byPredicate_keys)), (h2_11, .inr (4, [.ref h2_12, .int s2_byObject_size])), (h2_12, .inl (cI, 60, .inl s2_byObject_keys))] H) (hD : va_D A [(h0, .inr (2, [.ref h0_1, .ref h0_2, .int s0_3_variableBits, .int s0_3_found])), (h0_1, .inl (cI, 3, .inl s0_3_told)), (h0_2, .inl (cI, 3, .inl s0_3_numbers)), (h1, .inr (0, [.ref h1_4, .ref h1_5, .int s1_size])), (h1_4, .inl (cI, 40, .inl s1_termByNumber)), (h1_5, .inl (cI, 100, .inl s1_nextNumberByTerm)), (h2, .inr (5, [.ref h2_7, .ref h2_9, .ref h2_11])), (h2_7, .inr (4, [.ref h2_8, .int s2_bySubject_size])), (h2_8, .inl (cI, 60, .inl s2_bySubject_keys)), (h2_9, .inr (4, [.ref h2_10, .int s2_byPredicate_size])), (h2_10, .inl (cI, 60, .inl s2_byPredicate_keys)), (h2_11, .inr (4, [.ref h2_12, .int s2_byObject_size])), (h2_12, .inl (cI, 60, .inl s2_byObject_keys))]) (hS : va_S A s.heap H locs) (ls : Array Slot) (hl : lv_has ls 8 [(0, .ref h0), (1, .ref h1), (2, .ref h2), (3, .int v3_2)]), W p l e rm_X2_look s m ([.ref h0, .ref h1, .ref h2] : List Value).toArray below meth c H locs 0 0 (MQ below (Q_X2_look dC dI cI h0 h0_1 h0_2 h1 h1_4 h1_5 h2 h2_7 h2_8 h2_9 h2_10 h2_11 h2_12 (s0_told, s0_numbers, s0_variableBits, s0_found) (s1_termByNumber, s1_nextNumberByTerm, s1_size) ((s2_bySubject_keys, s2_bySubject_size), (s2_byPredicate_keys, s2_byPredicate_size), (s2_byObject_keys, s2_byObject_size)) A post) (([.ref h0, .ref h1, .ref h2] : List Value).toArray) s 0 0 A) (F0 m 2 ls []) := by
    intro n_1
    induction n_1 using Nat.strongRecOn with
    | ind n_1 ih_1 =>
      intro v3_2 s0_3_told s0_3_numbers s0_3_variableBits s0_3_found h H locs hP hD hS ls hl
      have h := hI_1 n_1 _ h
      have lab_39 : ∀ (s0_4_told : Nat → Int32) (s0_4_numbers : Nat → Int32) (s0_4_variableBits : Int32) (s0_4_found : Int32) (v3_5 : Int32) (x0_6 : Int32) (x1_7 : Int32) (h : P_X2_look_j39 (s0_4_told, s0_4_numbers, s0_4_variableBits, s0_4_found) (s1_termByNumber, s1_nextNumberByTerm, s1_size) ((s2_bySubject_keys, s2_bySubject_size), (s2_byPredicate_keys, s2_byPredicate_size), (s2_byObject_keys, s2_byObject_size)) v3_5 x0_6 x1_7 (fun w => ∃ k, k < n_1 ∧ I_1 k w) post) (H : Heap) (locs : List Loc) (hP : va_P (dC, dI) vwCl [(h0, .inr (2, [.ref h0_1, .ref h0_2, .int s0_4_variableBits, .int s0_4_found])), (h0_1, .inl (cI, 3, .inl s0_4_told)), (h0_2, .inl (cI, 3, .inl s0_4_numbers)), (h1, .inr (0, [.ref h1_4, .ref h1_5, .int s1_size])), (h1_4, .inl (cI, 40, .inl s1_termByNumber)), (h1_5, .inl (cI, 100, .inl s1_nextNumberByTerm)), (h2, .inr (5, [.ref h2_7, .ref h2_9, .ref h2_11])), (h2_7, .inr (4, [.ref h2_8, .int s2_bySubject_size])), (h2_8, .inl (cI, 60, .inl s2_bySubject_keys)), (h2_9, .inr (4, [.ref h2_10, .int s2_byPredicate_size])), (h2_10, .inl (cI, 60, .inl s2_byPredicate_keys)), (h2_11, .inr (4, [.ref h2_12, .int s2_byObject_size])), (h2_12, .inl (cI, 60, .inl s2_byObject_keys))] H) (hD : va_D A [(h0, .inr (2, [.ref h0_1, .ref h0_2, .int s0_4_variableBits, .int s0_4_found])), (h0_1, .inl (cI, 3, .inl s0_4_told)), (h0_2, .inl (cI, 3, .inl s0_4_numbers)), (h1, .inr (0, [.ref h1_4, .ref h1_5, .int s1_size])), (h1_4, .inl (cI, 40, .inl s1_termByNumber)), (h1_5, .inl (cI, 100, .inl s1_nextNumberByTerm)), (h2, .inr (5, [.ref h2_7, .ref h2_9, .ref h2_11])), (h2_7, .inr (4, [.ref h2_8, .int s2_bySubject_size])), (h2_8, .inl (cI, 60, .inl s2_bySubject_keys)), (h2_9, .inr (4, [.ref h2_10, .int s2_byPredicate_size])), (h2_10, .inl (cI, 60, .inl s2_byPredicate_keys)), (h2_11, .inr (4, [.ref h2_12, .int s2_byObject_size])), (h2_12, .inl (cI, 60, .inl s2_byObject_keys))]) (hS : va_S A s.heap H locs) (ls : Array Slot) (hl : lv_has ls 8 [(0, .ref h0), (1, .ref h1), (2, .ref h2), (3, .int v3_5)]), W p l e rm_X2_look s m ([.ref h0, .ref h1, .ref h2] : List Value).toArray below meth c H locs 0 0 (MQ below (Q_X2_look dC dI cI h0 h0_1 h0_2 h1 h1_4 h1_5 h2 h2_7 h2_8 h2_9 h2_10 h2_11 h2_12 (s0_told, s0_numbers, s0_variableBits, s0_found) (s1_termByNumber, s1_nextNumberByTerm, s1_size) ((s2_bySubject_keys, s2_bySubject_size), (s2_byPredicate_keys, s2_byPredicate_size), (s2_byObject_keys, s2_byObject_size)) A post) (([.ref h0, .ref h1, .ref h2] : List Value).toArray) s 0 0 A) (F0 m 39 ls [.int x0_6, .int x1_7, .ref h0_2]) := by
        intro s0_4_told s0_4_numbers s0_4_variableBits s0_4_found v3_5 x0_6 x1_7 h H locs hP hD hS ls hl
        have hPc := hP.sub (ws' := [(h0_2, .inl (cI, 3, .inl s0_4_numbers))]) [2] rfl
        have hDc := hD.sub (ws' := [(h0_2, .inl (cI, 3, .inl s0_4_numbers))]) [2] (by decide) rfl
        have hFc := va_free (wc := [(h0_2, .inl (cI, 3, .inl s0_4_numbers))]) hD hS hA [2] rfl
        refine va_callv (va_runSN (As := [.ref h0_2, .int x1_7, .int x0_6]) (rest := []) ⟨hx, hb, hml, hown, hts⟩ (c_X7_put l dC dI cI h0_2 _ 3 s0_4_numbers x1_7 x0_6 _ h) ⟨va_cnB 3 hts gX2_look_X7_put_n25 rfl rfl rfl (nk_get hN 13 rfl) (hts (.initialized RX7) (by decide +kernel)) (by decide +kernel) ⟨Nat.le_of_ble_eq_true rfl, Nat.le_of_ble_eq_true rfl⟩, (hts (.static yX7_put) (by decide +kernel)), trivial⟩ (pb_S hPc hK hDc hN) rfl rfl hl.1 rfl (lv_room (Nat.le_of_ble_eq_true rfl)) dX2_look_39 ⟨Nat.zero_le _, Nat.zero_le _⟩) hS (fun q _ h => hFc q h) hFc (fun u_8 t H locs ht hvm h hB hz1 hk1 hS => ?_)
        obtain ⟨hP1, hD1⟩ := hB
        rw [ht] at hP1
        obtain ⟨hP, hD⟩ := cl_join (wr := [(h0, .inr (2, [.ref h0_1, .ref h0_2, .int s0_4_variableBits, .int s0_4_found])), (h0_1, .inl (cI, 3, .inl s0_4_told)), (h1, .inr (0, [.ref h1_4, .ref h1_5, .int s1_size])), (h1_4, .inl (cI, 40, .inl s1_termByNumber)), (h1_5, .inl (cI, 100, .inl s1_nextNumberByTerm)), (h2, .inr (5, [.ref h2_7, .ref h2_9, .ref h2_11])), (h2_7, .inr (4, [.ref h2_8, .int s2_bySubject_size])), (h2_8, .inl (cI, 60, .inl s2_bySubject_keys)), (h2_9, .inr (4, [.ref h2_10, .int s2_byPredicate_size])), (h2_10, .inl (cI, 60, .inl s2_byPredicate_keys)), (h2_11, .inr (4, [.ref h2_12, .int s2_byObject_size])), (h2_12, .inl (cI, 60, .inl s2_byObject_keys))]) (w1 := [(h0_2, .inl (cI, 3, .inl u_8))]) (ws' := [(h0, .inr (2, [.ref h0_1, .ref h0_2, .int s0_4_variableBits, .int s0_4_found])), (h0_1, .inl (cI, 3, .inl s0_4_told)), (h0_2, .inl (cI, 3, .inl u_8)), (h1, .inr (0, [.ref h1_4, .ref h1_5, .int s1_size])), (h1_4, .inl (cI, 40, .inl s1_termByNumber)), (h1_5, .inl (cI, 100, .inl s1_nextNumberByTerm)), (h2, .inr (5, [.ref h2_7, .ref h2_9, .ref h2_11])), (h2_7, .inr (4, [.ref h2_8, .int s2_bySubject_size])), (h2_8, .inl (cI, 60, .inl s2_bySubject_keys)), (h2_9, .inr (4, [.ref h2_10, .int s2_byPredicate_size])), (h2_10, .inl (cI, 60, .inl s2_byPredicate_keys)), (h2_11, .inr (4, [.ref h2_12, .int s2_byObject_size])), (h2_12, .inl (cI, 60, .inl s2_byObject_keys))]) hP hD [2] [0, 1, 3, 4, 5, 6, 7, 8, 9, 10, 11, 12] [0, 1, 12, 2, 3, 4, 5, 6, 7, 8, 9, 10, 11] rfl rfl (by decide) (by decide) (by decide) rfl hk1 hFc hP1 hD1
        refine lv_iinc (v := (v3_5 + (1 : Int32))) (lv' := [(3, .int (v3_5 + (1 : Int32))), (0, .ref h0), (1, .ref h1), (2, .ref h2)]) hx hb dX2_look_42 hl (k := 3) rfl rfl (by decide) rfl (fun ls hl => ?_)
        refine lv_goto (tgt := 2) hx hb dX2_look_45 (by decide) ?_
        have hl : lv_has ls 8 [(0, .ref h0), (1, .ref h1), (2, .ref h2), (3, .int (v3_5 + (1 : Int32)))] := lv_sub hl [1, 2, 3, 0] rfl
        obtain ⟨k_10, hk_11, h⟩ := h
        exact ih_1 k_10 hk_11 (v3_5 + (1 : Int32)) s0_4_told u_8 s0_4_variableBits s0_4_found h _ _ hP hD hS _ hl
      refine lv_iload_n hx hb dX2_look_2 rfl (lv_at hl 3 rfl) ?_
      refine lv_iconst (v := (3 : Int32)) hx hb dX2_look_3 (by decide) ?_
      obtain ⟨ht_, hf_⟩ := h
      refine lv_icmp_ge (tgt := 48) hx hb dX2_look_4 (by decide) (fun c_12 => ?_) (fun c_12 => ?_)
      · have h := ht_ c_12
        refine lv_aload_n hx hb dX2_look_48 rfl (lv_at hl 0 rfl) ?_
        refine lv_iconst (v := (0 : Int32)) hx hb dX2_look_49 (by decide) ?_
        have hPc := hP.sub (ws' := [(h0, .inr (2, [.ref h0_1, .ref h0_2, .int s0_3_variableBits, .int s0_3_found])), (h0_1, .inl (cI, 3, .inl s0_3_told)), (h0_2, .inl (cI, 3, .inl s0_3_numbers))]) [0, 1, 2] rfl
        have hDc := hD.sub (ws' := [(h0, .inr (2, [.ref h0_1, .ref h0_2, .int s0_3_variableBits, .int s0_3_found])), (h0_1, .inl (cI, 3, .inl s0_3_told)), (h0_2, .inl (cI, 3, .inl s0_3_numbers))]) [0, 1, 2] (by decide) rfl
        have hFc := fr0 hA hS
        refine va_calli (va_runV (As := [.int (0 : Int32)]) (rest := []) ⟨hx, hb, hml, hown, hts⟩ (c_X2_maskWith l dC dI cI h0 h0_1 h0_2 _ (s0_3_told, s0_3_numbers, s0_3_variableBits, s0_3_found) (0 : Int32) _ h) (cwV 1 hts gX2_look_X2_maskWith rfl rfl rfl (by decide +kernel) ⟨Nat.le_of_ble_eq_true rfl, Nat.le_of_ble_eq_true rfl⟩) (pb_V hPc hK hDc hN (ci := 2) (q0 := 0) rfl rfl) rfl rfl hl.1 rfl (lv_room (Nat.le_of_ble_eq_true rfl)) dX2_look_50 ⟨Nat.zero_le _, Nat.zero_le _⟩) hS (fun q _ h => hFc q h) hFc (fun r_14 u_13 t H locs ht hvm h hB hz1 hk1 hS => ?_)
        have hP := vaPk hP hk1
        refine lv_istore_n (lv' := [(3, .int r_14), (0, .ref h0), (1, .ref h1), (2, .ref h2)]) hx hb dX2_look_53 rfl hl (by decide) rfl (fun ls hl => ?_)
        refine lv_aload_n hx hb dX2_look_54 rfl (lv_at hl 1 rfl) ?_
        refine lv_iconst (v := (0 : Int32)) hx hb dX2_look_55 (by decide) ?_
        refine lv_iconst (v := (0 : Int32)) hx hb dX2_look_56 (by decide) ?_
        have hPc := hP.sub (ws' := [(h0, .inr (2, [.ref h0_1, .ref h0_2, .int s0_3_variableBits, .int s0_3_found])), (h0_1, .inl (cI, 3, .inl s0_3_told)), (h0_2, .inl (cI, 3, .inl s0_3_numbers))]) [0, 1, 2] rfl
        have hDc := hD.sub (ws' := [(h0, .inr (2, [.ref h0_1, .ref h0_2, .int s0_3_variableBits, .int s0_3_found])), (h0_1, .inl (cI, 3, .inl s0_3_told)), (h0_2, .inl (cI, 3, .inl s0_3_numbers))]) [0, 1, 2] (by decide) rfl
        have hFc := fr0 hA hS
        refine va_calli (va_runV (As := [.int (0 : Int32), .int (0 : Int32)]) (rest := []) ⟨hx, hb, hml, hown, hts⟩ (c_X2_valueWith l dC dI cI h0 h0_1 h0_2 _ (s0_3_told, s0_3_numbers, s0_3_variableBits, s0_3_found) (0 : Int32) (0 : Int32) _ h) (cwV 2 hts gX2_look_X2_valueWith rfl rfl rfl (by decide +kernel) ⟨Nat.le_of_ble_eq_true rfl, Nat.le_of_ble_eq_true rfl⟩) (pb_V hPc hK hDc hN (ci := 2) (q0 := 0) rfl rfl) rfl rfl hl.1 rfl (lv_room (Nat.le_of_ble_eq_true rfl)) dX2_look_57 ⟨Nat.zero_le _, Nat.zero_le _⟩) hS (fun q _ h => hFc q h) hFc (fun r_16 u_15 t H locs ht hvm h hB hz1 hk1 hS => ?_)
        have hP := vaPk hP hk1
        refine lv_istore (lv' := [(4, .int r_16), (3, .int r_14), (0, .ref h0), (1, .ref h1), (2, .ref h2)]) hx hb dX2_look_60 hl (by decide) rfl (fun ls hl => ?_)
        refine lv_iload_n hx hb dX2_look_62 rfl (lv_at hl 1 rfl) ?_
        have hPc := hP.sub (ws' := []) [] rfl
        have hDc := hD.sub (ws' := []) [] (by decide) rfl
        have hFc := fr0 hA hS
        refine va_calli (va_runSN (As := [.int r_14]) (rest := []) ⟨hx, hb, hml, hown, hts⟩ (c_X7_orderOf l dC dI cI  _ r_14 _ h) ⟨va_cnB 1 hts gX2_look_X7_orderOf_n49 rfl rfl rfl (nk_get hN 20 rfl) (hts (.initialized RX7) (by decide +kernel)) (by decide +kernel) ⟨Nat.le_of_ble_eq_true rfl, Nat.le_of_ble_eq_true rfl⟩, (hts (.static yX7_orderOf) (by decide +kernel)), trivial⟩ (pb_S hPc hK hDc hN) rfl rfl hl.1 rfl (lv_room (Nat.le_of_ble_eq_true rfl)) dX2_look_63 ⟨Nat.zero_le _, Nat.zero_le _⟩) hS (fun q _ h => hFc q h) hFc (fun r_18 u_17 t H locs ht hvm h hB hz1 hk1 hS => ?_)
        have hP := vaPk hP hk1
        refine lv_istore (lv' := [(5, .int r_18), (4, .int r_16), (3, .int r_14), (0, .ref h0), (1, .ref h1), (2, .ref h2)]) hx hb dX2_look_66 hl (by decide) rfl (fun ls hl => ?_)
        refine lv_aload_n hx hb dX2_look_68 rfl (lv_at hl 5 rfl) ?_
        refine lv_iload hx hb dX2_look_69 (lv_at hl 0 rfl) ?_
        refine lv_iload_n hx hb dX2_look_71 rfl (lv_at hl 2 rfl) ?_
        refine lv_iload hx hb dX2_look_72 (lv_at hl 1 rfl) ?_
        have hPc := hP.sub (ws' := [(h2, .inr (5, [.ref h2_7, .ref h2_9, .ref h2_11])), (h2_7, .inr (4, [.ref h2_8, .int s2_bySubject_size])), (h2_8, .inl (cI, 60, .inl s2_bySubject_keys)), (h2_9, .inr (4, [.ref h2_10, .int s2_byPredicate_size])), (h2_10, .inl (cI, 60, .inl s2_byPredicate_keys)), (h2_11, .inr (4, [.ref h2_12, .int s2_byObject_size])), (h2_12, .inl (cI, 60, .inl s2_byObject_keys))]) [6, 7, 8, 9, 10, 11, 12] rfl
        have hDc := hD.sub (ws' := [(h2, .inr (5, [.ref h2_7, .ref h2_9, .ref h2_11])), (h2_7, .inr (4, [.ref h2_8, .int s2_bySubject_size])), (h2_8, .inl (cI, 60, .inl s2_bySubject_keys)), (h2_9, .inr (4, [.ref h2_10, .int s2_byPredicate_size])), (h2_10, .inl (cI, 60, .inl s2_byPredicate_keys)), (h2_11, .inr (4, [.ref h2_12, .int s2_byObject_size])), (h2_12, .inl (cI, 60, .inl s2_byObject_keys))]) [6, 7, 8, 9, 10, 11, 12] (by decide) rfl
        have hFc := fr0 hA hS
        refine va_calli (va_runV (As := [.int r_18, .int r_14, .int r_16]) (rest := []) ⟨hx, hb, hml, hown, hts⟩ (c_X5_end l dC dI cI h2 h2_7 h2_8 h2_9 h2_10 h2_11 h2_12 _ ((s2_bySubject_keys, s2_bySubject_size), (s2_byPredicate_keys, s2_byPredicate_size), (s2_byObject_keys, s2_byObject_size)) r_18 r_14 r_16 _ h) (cwV 3 hts gX2_look_X5_end rfl rfl rfl (by decide +kernel) ⟨Nat.le_of_ble_eq_true rfl, Nat.le_of_ble_eq_true rfl⟩) (pb_V hPc hK hDc hN (ci := 5) (q0 := 0) rfl rfl) rfl rfl hl.1 rfl (lv_room (Nat.le_of_ble_eq_true rfl)) dX2_look_74 ⟨Nat.zero_le _, Nat.zero_le _⟩) hS (fun q _ h => hFc q h) hFc (fun r_20 u_19 t H locs ht hvm h hB hz1 hk1 hS => ?_)
        have hP := vaPk hP hk1
        refine lv_istore (lv' := [(6, .int r_20), (5, .int r_18), (4, .int r_16), (3, .int r_14), (0, .ref h0), (1, .ref h1), (2, .ref h2)]) hx hb dX2_look_77 hl (by decide) rfl (fun ls hl => ?_)
        refine lv_aload_n hx hb dX2_look_79 rfl (lv_at hl 4 rfl) ?_
        refine lv_iconst (v := (0 : Int32)) hx hb dX2_look_80 (by decide) ?_
        refine va_put (D := (dC, dI)) (ci := 2) (v := .int (0 : Int32)) (ty := .int) (C := RX2) (T := TX2) (N := 4) hx hb hts (hinX2) tyX2 tyX2_ok nmX2 hown hK hP hD hS 0 rfl rfl 3 (by decide) (hts (.fieldLink RX2 22 "TripleJoins$Pattern" "found" "I") (by decide +kernel)) (fun _ h9 => h9) rfl (by decide +kernel) rfl rfl (Nat.le_of_ble_eq_true rfl) dX2_look_81 (fun H locs hP hD hS => ?_)
        have hP : va_P (dC, dI) vwCl [(h0, .inr (2, [.ref h0_1, .ref h0_2, .int s0_3_variableBits, .int (0 : Int32)])), (h0_1, .inl (cI, 3, .inl s0_3_told)), (h0_2, .inl (cI, 3, .inl s0_3_numbers)), (h1, .inr (0, [.ref h1_4, .ref h1_5, .int s1_size])), (h1_4, .inl (cI, 40, .inl s1_termByNumber)), (h1_5, .inl (cI, 100, .inl s1_nextNumberByTerm)), (h2, .inr (5, [.ref h2_7, .ref h2_9, .ref h2_11])), (h2_7, .inr (4, [.ref h2_8, .int s2_bySubject_size])), (h2_8, .inl (cI, 60, .inl s2_bySubject_keys)), (h2_9, .inr (4, [.ref h2_10, .int s2_byPredicate_size])), (h2_10, .inl (cI, 60, .inl s2_byPredicate_keys)), (h2_11, .inr (4, [.ref h2_12, .int s2_byObject_size])), (h2_12, .inl (cI, 60, .inl s2_byObject_keys))] _ := hP
        have hD : va_D A [(h0, .inr (2, [.ref h0_1, .ref h0_2, .int s0_3_variableBits, .int (0 : Int32)])), (h0_1, .inl (cI, 3, .inl s0_3_told)), (h0_2, .inl (cI, 3, .inl s0_3_numbers)), (h1, .inr (0, [.ref h1_4, .ref h1_5, .int s1_size])), (h1_4, .inl (cI, 40, .inl s1_termByNumber)), (h1_5, .inl (cI, 100, .inl s1_nextNumberByTerm)), (h2, .inr (5, [.ref h2_7, .ref h2_9, .ref h2_11])), (h2_7, .inr (4, [.ref h2_8, .int s2_bySubject_size])), (h2_8, .inl (cI, 60, .inl s2_bySubject_keys)), (h2_9, .inr (4, [.ref h2_10, .int s2_byPredicate_size])), (h2_10, .inl (cI, 60, .inl s2_byPredicate_keys)), (h2_11, .inr (4, [.ref h2_12, .int s2_byObject_size])), (h2_12, .inl (cI, 60, .inl s2_byObject_keys))] := hD
        refine lv_aload_n hx hb dX2_look_84 rfl (lv_at hl 6 rfl) ?_
        refine lv_iload hx hb dX2_look_85 (lv_at hl 1 rfl) ?_
        refine lv_iload hx hb dX2_look_87 (lv_at hl 2 rfl) ?_
        have hPc := hP.sub (ws' := [(h2, .inr (5, [.ref h2_7, .ref h2_9, .ref h2_11])), (h2_7, .inr (4, [.ref h2_8, .int s2_bySubject_size])), (h2_8, .inl (cI, 60, .inl s2_bySubject_keys)), (h2_9, .inr (4, [.ref h2_10, .int s2_byPredicate_size])), (h2_10, .inl (cI, 60, .inl s2_byPredicate_keys)), (h2_11, .inr (4, [.ref h2_12, .int s2_byObject_size])), (h2_12, .inl (cI, 60, .inl s2_byObject_keys))]) [6, 7, 8, 9, 10, 11, 12] rfl
        have hDc := hD.sub (ws' := [(h2, .inr (5, [.ref h2_7, .ref h2_9, .ref h2_11])), (h2_7, .inr (4, [.ref h2_8, .int s2_bySubject_size])), (h2_8, .inl (cI, 60, .inl s2_bySubject_keys)), (h2_9, .inr (4, [.ref h2_10, .int s2_byPredicate_size])), (h2_10, .inl (cI, 60, .inl s2_byPredicate_keys)), (h2_11, .inr (4, [.ref h2_12, .int s2_byObject_size])), (h2_12, .inl (cI, 60, .inl s2_byObject_keys))]) [6, 7, 8, 9, 10, 11, 12] (by decide) rfl
        have hFc := fr0 hA hS
        refine va_calli (va_runV (As := [.int r_18, .int r_16]) (rest := []) ⟨hx, hb, hml, hown, hts⟩ (c_X5_begin l dC dI cI h2 h2_7 h2_8 h2_9 h2_10 h2_11 h2_12 _ ((s2_bySubject_keys, s2_bySubject_size), (s2_byPredicate_keys, s2_byPredicate_size), (s2_byObject_keys, s2_byObject_size)) r_18 r_16 _ h) (cwV 2 hts gX2_look_X5_begin rfl rfl rfl (by decide +kernel) ⟨Nat.le_of_ble_eq_true rfl, Nat.le_of_ble_eq_true rfl⟩) (pb_V hPc hK hDc hN (ci := 5) (q0 := 0) rfl rfl) rfl rfl hl.1 rfl (lv_room (Nat.le_of_ble_eq_true rfl)) dX2_look_89 ⟨Nat.zero_le _, Nat.zero_le _⟩) hS (fun q _ h => hFc q h) hFc (fun r_22 u_21 t H locs ht hvm h hB hz1 hk1 hS => ?_)
        have hP := vaPk hP hk1
        refine lv_istore (lv' := [(7, .int r_22), (6, .int r_20), (5, .int r_18), (4, .int r_16), (3, .int r_14), (0, .ref h0), (1, .ref h1), (2, .ref h2)]) hx hb dX2_look_92 hl (by decide) rfl (fun ls hl => ?_)
        have hl : lv_has ls 8 [(0, .ref h0), (2, .ref h2), (5, .int r_18), (6, .int r_20), (7, .int r_22)] := lv_sub hl [5, 7, 2, 1, 0] rfl
        obtain ⟨I_23, hI_23, n_23, h⟩ := h
        have loop_23 : ∀ (n_23 : Nat) (v7_24 : Int32) (s0_25_told : Nat → Int32) (s0_25_numbers : Nat → Int32) (s0_25_variableBits : Int32) (s0_25_found : Int32) (h : I_23 n_23 (v7_24, (s0_25_told, s0_25_numbers, s0_25_variableBits, s0_25_found))) (H : Heap) (locs : List Loc) (hP : va_P (dC, dI) vwCl [(h0, .inr (2, [.ref h0_1, .ref h0_2, .int s0_25_variableBits, .int s0_25_found])), (h0_1, .inl (cI, 3, .inl s0_25_told)), (h0_2, .inl (cI, 3, .inl s0_25_numbers)), (h1, .inr (0, [.ref h1_4, .ref h1_5, .int s1_size])), (h1_4, .inl (cI, 40, .inl s1_termByNumber)), (h1_5, .inl (cI, 100, .inl s1_nextNumberByTerm)), (h2, .inr (5, [.ref h2_7, .ref h2_9, .ref h2_11])), (h2_7, .inr (4, [.ref h2_8, .int s2_bySubject_size])), (h2_8, .inl (cI, 60, .inl s2_bySubject_keys)), (h2_9, .inr (4, [.ref h2_10, .int s2_byPredicate_size])), (h2_10, .inl (cI, 60, .inl s2_byPredicate_keys)), (h2_11, .inr (4, [.ref h2_12, .int s2_byObject_size])), (h2_12, .inl (cI, 60, .inl s2_byObject_keys))] H) (hD : va_D A [(h0, .inr (2, [.ref h0_1, .ref h0_2, .int s0_25_variableBits, .int s0_25_found])), (h0_1, .inl (cI, 3, .inl s0_25_told)), (h0_2, .inl (cI, 3, .inl s0_25_numbers)), (h1, .inr (0, [.ref h1_4, .ref h1_5, .int s1_size])), (h1_4, .inl (cI, 40, .inl s1_termByNumber)), (h1_5, .inl (cI, 100, .inl s1_nextNumberByTerm)), (h2, .inr (5, [.ref h2_7, .ref h2_9, .ref h2_11])), (h2_7, .inr (4, [.ref h2_8, .int s2_bySubject_size])), (h2_8, .inl (cI, 60, .inl s2_bySubject_keys)), (h2_9, .inr (4, [.ref h2_10, .int s2_byPredicate_size])), (h2_10, .inl (cI, 60, .inl s2_byPredicate_keys)), (h2_11, .inr (4, [.ref h2_12, .int s2_byObject_size])), (h2_12, .inl (cI, 60, .inl s2_byObject_keys))]) (hS : va_S A s.heap H locs) (ls : Array Slot) (hl : lv_has ls 8 [(0, .ref h0), (2, .ref h2), (5, .int r_18), (6, .int r_20), (7, .int v7_24)]), W p l e rm_X2_look s m ([.ref h0, .ref h1, .ref h2] : List Value).toArray below meth c H locs 0 0 (MQ below (Q_X2_look dC dI cI h0 h0_1 h0_2 h1 h1_4 h1_5 h2 h2_7 h2_8 h2_9 h2_10 h2_11 h2_12 (s0_told, s0_numbers, s0_variableBits, s0_found) (s1_termByNumber, s1_nextNumberByTerm, s1_size) ((s2_bySubject_keys, s2_bySubject_size), (s2_byPredicate_keys, s2_byPredicate_size), (s2_byObject_keys, s2_byObject_size)) A post) (([.ref h0, .ref h1, .ref h2] : List Value).toArray) s 0 0 A) (F0 m 94 ls []) := by
          intro n_23
          induction n_23 using Nat.strongRecOn with
          | ind n_23 ih_23 =>
            intro v7_24 s0_25_told s0_25_numbers s0_25_variableBits s0_25_found h H locs hP hD hS ls hl
            have h := hI_23 n_23 _ h
            refine lv_iload hx hb dX2_look_94 (lv_at hl 4 rfl) ?_
            refine lv_iload hx hb dX2_look_96 (lv_at hl 3 rfl) ?_
            obtain ⟨ht_, hf_⟩ := h
            refine lv_icmp_ge (tgt := 135) hx hb dX2_look_98 (by decide) (fun c_26 => ?_) (fun c_26 => ?_)
            · have h := ht_ c_26
              exact W.vret hx hb hr (fun t ht hW => ⟨⟨(s0_25_told, s0_25_numbers, s0_25_variableBits, s0_25_found), rfl, h, ⟨by rw [ht]; exact hP, hD⟩⟩, hS.F ht⟩) hS.2.2 dX2_look_135
            · have h := hf_ c_26
              refine lv_aload_n hx hb dX2_look_101 rfl (lv_at hl 0 rfl) ?_
              refine lv_iconst (v := (0 : Int32)) hx hb dX2_look_102 (by decide) ?_
              refine lv_iconst (v := (0 : Int32)) hx hb dX2_look_103 (by decide) ?_
              refine lv_aload_n hx hb dX2_look_104 rfl (lv_at hl 1 rfl) ?_
              refine lv_iload hx hb dX2_look_105 (lv_at hl 2 rfl) ?_
              refine lv_iload hx hb dX2_look_107 (lv_at hl 4 rfl) ?_
              have hPc := hP.sub (ws' := [(h2, .inr (5, [.ref h2_7, .ref h2_9, .ref h2_11])), (h2_7, .inr (4, [.ref h2_8, .int s2_bySubject_size])), (h2_8, .inl (cI, 60, .inl s2_bySubject_keys)), (h2_9, .inr (4, [.ref h2_10, .int s2_byPredicate_size])), (h2_10, .inl (cI, 60, .inl s2_byPredicate_keys)), (h2_11, .inr (4, [.ref h2_12, .int s2_byObject_size])), (h2_12, .inl (cI, 60, .inl s2_byObject_keys))]) [6, 7, 8, 9, 10, 11, 12] rfl
              have hDc := hD.sub (ws' := [(h2, .inr (5, [.ref h2_7, .ref h2_9, .ref h2_11])), (h2_7, .inr (4, [.ref h2_8, .int s2_bySubject_size])), (h2_8, .inl (cI, 60, .inl s2_bySubject_keys)), (h2_9, .inr (4, [.ref h2_10, .int s2_byPredicate_size])), (h2_10, .inl (cI, 60, .inl s2_byPredicate_keys)), (h2_11, .inr (4, [.ref h2_12, .int s2_byObject_size])), (h2_12, .inl (cI, 60, .inl s2_byObject_keys))]) [6, 7, 8, 9, 10, 11, 12] (by decide) rfl
              have hFc := fr0 hA hS
              refine va_calli (va_runV (As := [.int r_18, .int v7_24]) (rest := [.int (0 : Int32), .int (0 : Int32), .ref h0]) ⟨hx, hb, hml, hown, hts⟩ (c_X5_triple l dC dI cI h2 h2_7 h2_8 h2_9 h2_10 h2_11 h2_12 _ ((s2_bySubject_keys, s2_bySubject_size), (s2_byPredicate_keys, s2_byPredicate_size), (s2_byObject_keys, s2_byObject_size)) r_18 v7_24 _ h) (cwV 2 hts gX2_look_X5_triple rfl rfl rfl (by decide +kernel) ⟨Nat.le_of_ble_eq_true rfl, Nat.le_of_ble_eq_true rfl⟩) (pb_V hPc hK hDc hN (ci := 5) (q0 := 0) rfl rfl) rfl rfl hl.1 rfl (lv_room (Nat.le_of_ble_eq_true rfl)) dX2_look_109 ⟨Nat.zero_le _, Nat.zero_le _⟩) hS (fun q _ h => hFc q h) hFc (fun r_28 u_27 t H locs ht hvm h hB hz1 hk1 hS => ?_)
              have hP := vaPk hP hk1
              have hPc := hP.sub (ws' := [(h0, .inr (2, [.ref h0_1, .ref h0_2, .int s0_25_variableBits, .int s0_25_found])), (h0_1, .inl (cI, 3, .inl s0_25_told)), (h0_2, .inl (cI, 3, .inl s0_25_numbers))]) [0, 1, 2] rfl
              have hDc := hD.sub (ws' := [(h0, .inr (2, [.ref h0_1, .ref h0_2, .int s0_25_variableBits, .int s0_25_found])), (h0_1, .inl (cI, 3, .inl s0_25_told)), (h0_2, .inl (cI, 3, .inl s0_25_numbers))]) [0, 1, 2] (by decide) rfl
              have hFc := fr0 hA hS
              refine va_calli (va_runV (As := [.int (0 : Int32), .int (0 : Int32), .int r_28]) (rest := []) ⟨hx, hb, hml, hown, hts⟩ (c_X2_widen l dC dI cI h0 h0_1 h0_2 _ (s0_25_told, s0_25_numbers, s0_25_variableBits, s0_25_found) (0 : Int32) (0 : Int32) r_28 _ h) (cwV 3 hts gX2_look_X2_widen rfl rfl rfl (by decide +kernel) ⟨Nat.le_of_ble_eq_true rfl, Nat.le_of_ble_eq_true rfl⟩) (pb_V hPc hK hDc hN (ci := 2) (q0 := 0) rfl rfl) rfl rfl hl.1 rfl (lv_room (Nat.le_of_ble_eq_true rfl)) dX2_look_112 ⟨Nat.zero_le _, Nat.zero_le _⟩) hS (fun q _ h => hFc q h) hFc (fun r_30 u_29 t H locs ht hvm h hB hz1 hk1 hS => ?_)
              have hP := vaPk hP hk1
              refine lv_iconst (v := (-1 : Int32)) hx hb dX2_look_115 (by decide) ?_
              obtain ⟨ht_, hf_⟩ := h
              refine lv_icmp_eq (tgt := 129) hx hb dX2_look_116 (by decide) (fun c_31 => ?_) (fun c_31 => ?_)
              · have h := ht_ c_31
                refine lv_iinc (v := (v7_24 + (1 : Int32))) (lv' := [(7, .int (v7_24 + (1 : Int32))), (0, .ref h0), (2, .ref h2), (5, .int r_18), (6, .int r_20)]) hx hb dX2_look_129 hl (k := 4) rfl rfl (by decide) rfl (fun ls hl => ?_)
                refine lv_goto (tgt := 94) hx hb dX2_look_132 (by decide) ?_
                have hl : lv_has ls 8 [(0, .ref h0), (2, .ref h2), (5, .int r_18), (6, .int r_20), (7, .int (v7_24 + (1 : Int32)))] := lv_sub hl [1, 2, 3, 4, 0] rfl
                obtain ⟨k_32, hk_33, h⟩ := h
                exact ih_23 k_32 hk_33 (v7_24 + (1 : Int32)) s0_25_told s0_25_numbers s0_25_variableBits s0_25_found h _ _ hP hD hS _ hl
              · have h := hf_ c_31
                refine lv_aload_n hx hb dX2_look_119 rfl (lv_at hl 0 rfl) ?_
                refine lv_dup hx hb dX2_look_120 rfl ?_
                refine va_get (D := (dC, dI)) (ci := 2) (v := .int s0_25_found) (C := RX2) (T := TX2) (N := 4) hx hb hts (hinX2) hown hK hP 0 rfl rfl 3 (by decide) (hts (.fieldLink RX2 22 "TripleJoins$Pattern" "found" "I") (by decide +kernel)) (fun _ h9 => h9) rfl dX2_look_121 ?_
                refine lv_iconst (v := (1 : Int32)) hx hb dX2_look_124 (by decide) ?_
                refine lv_iadd hx hb dX2_look_125 ?_
                refine va_put (D := (dC, dI)) (ci := 2) (v := .int (s0_25_found + (1 : Int32))) (ty := .int) (C := RX2) (T := TX2) (N := 4) hx hb hts (hinX2) tyX2 tyX2_ok nmX2 hown hK hP hD hS 0 rfl rfl 3 (by decide) (hts (.fieldLink RX2 22 "TripleJoins$Pattern" "found" "I") (by decide +kernel)) (fun _ h9 => h9) rfl (by decide +kernel) rfl rfl (Nat.le_of_ble_eq_true rfl) dX2_look_126 (fun H locs hP hD hS => ?_)
                have hP : va_P (dC, dI) vwCl [(h0, .inr (2, [.ref h0_1, .ref h0_2, .int s0_25_variableBits, .int (s0_25_found + (1 : Int32))])), (h0_1, .inl (cI, 3, .inl s0_25_told)), (h0_2, .inl (cI, 3, .inl s0_25_numbers)), (h1, .inr (0, [.ref h1_4, .ref h1_5, .int s1_size])), (h1_4, .inl (cI, 40, .inl s1_termByNumber)), (h1_5, .inl (cI, 100, .inl s1_nextNumberByTerm)), (h2, .inr (5, [.ref h2_7, .ref h2_9, .ref h2_11])), (h2_7, .inr (4, [.ref h2_8, .int s2_bySubject_size])), (h2_8, .inl (cI, 60, .inl s2_bySubject_keys)), (h2_9, .inr (4, [.ref h2_10, .int s2_byPredicate_size])), (h2_10, .inl (cI, 60, .inl s2_byPredicate_keys)), (h2_11, .inr (4, [.ref h2_12, .int s2_byObject_size])), (h2_12, .inl (cI, 60, .inl s2_byObject_keys))] _ := hP
                have hD : va_D A [(h0, .inr (2, [.ref h0_1, .ref h0_2, .int s0_25_variableBits, .int (s0_25_found + (1 : Int32))])), (h0_1, .inl (cI, 3, .inl s0_25_told)), (h0_2, .inl (cI, 3, .inl s0_25_numbers)), (h1, .inr (0, [.ref h1_4, .ref h1_5, .int s1_size])), (h1_4, .inl (cI, 40, .inl s1_termByNumber)), (h1_5, .inl (cI, 100, .inl s1_nextNumberByTerm)), (h2, .inr (5, [.ref h2_7, .ref h2_9, .ref h2_11])), (h2_7, .inr (4, [.ref h2_8, .int s2_bySubject_size])), (h2_8, .inl (cI, 60, .inl s2_bySubject_keys)), (h2_9, .inr (4, [.ref h2_10, .int s2_byPredicate_size])), (h2_10, .inl (cI, 60, .inl s2_byPredicate_keys)), (h2_11, .inr (4, [.ref h2_12, .int s2_byObject_size])), (h2_12, .inl (cI, 60, .inl s2_byObject_keys))] := hD
                refine lv_iinc (v := (v7_24 + (1 : Int32))) (lv' := [(7, .int (v7_24 + (1 : Int32))), (0, .ref h0), (2, .ref h2), (5, .int r_18), (6, .int r_20)]) hx hb dX2_look_129 hl (k := 4) rfl rfl (by decide) rfl (fun ls hl => ?_)
                refine lv_goto (tgt := 94) hx hb dX2_look_132 (by decide) ?_
                have hl : lv_has ls 8 [(0, .ref h0), (2, .ref h2), (5, .int r_18), (6, .int r_20), (7, .int (v7_24 + (1 : Int32)))] := lv_sub hl [1, 2, 3, 4, 0] rfl
                obtain ⟨k_34, hk_35, h⟩ := h
                exact ih_23 k_34 hk_35 (v7_24 + (1 : Int32)) s0_25_told s0_25_numbers s0_25_variableBits (s0_25_found + (1 : Int32)) h _ _ hP hD hS _ hl
        exact loop_23 n_23 r_22 s0_3_told s0_3_numbers s0_3_variableBits (0 : Int32) h _ _ hP hD hS _ hl
      · have h := hf_ c_12
        refine lv_aload_n hx hb dX2_look_7 rfl (lv_at hl 0 rfl) ?_
        refine va_get (D := (dC, dI)) (ci := 2) (v := .ref h0_2) (C := RX2) (T := TX2) (N := 4) hx hb hts (hinX2) hown hK hP 0 rfl rfl 1 (by decide) (hts (.fieldLink RX2 15 "TripleJoins$Pattern" "numbers" "[I") (by decide +kernel)) (fun _ h9 => h9) rfl dX2_look_8 ?_
        refine lv_iload_n hx hb dX2_look_11 rfl (lv_at hl 3 rfl) ?_
        refine lv_aload_n hx hb dX2_look_12 rfl (lv_at hl 0 rfl) ?_
        refine va_get (D := (dC, dI)) (ci := 2) (v := .ref h0_1) (C := RX2) (T := TX2) (N := 4) hx hb hts (hinX2) hown hK hP 0 rfl rfl 0 (by decide) (hts (.fieldLink RX2 9 "TripleJoins$Pattern" "told" "[I") (by decide +kernel)) (fun _ h9 => h9) rfl dX2_look_13 ?_
        refine lv_iload_n hx hb dX2_look_16 rfl (lv_at hl 3 rfl) ?_
        have hPc := hP.sub (ws' := [(h0_1, .inl (cI, 3, .inl s0_3_told))]) [1] rfl
        have hDc := hD.sub (ws' := [(h0_1, .inl (cI, 3, .inl s0_3_told))]) [1] (by decide) rfl
        have hFc := fr0 hA hS
        refine va_calli (va_runSN (As := [.ref h0_1, .int v3_2]) (rest := [.int v3_2, .ref h0_2]) ⟨hx, hb, hml, hown, hts⟩ (c_X7_at l dC dI cI h0_1 _ 3 s0_3_told v3_2 _ h) ⟨va_cnB 2 hts gX2_look_X7_at_n33 rfl rfl rfl (nk_get hN 14 rfl) (hts (.initialized RX7) (by decide +kernel)) (by decide +kernel) ⟨Nat.le_of_ble_eq_true rfl, Nat.le_of_ble_eq_true rfl⟩, (hts (.static yX7_at) (by decide +kernel)), trivial⟩ (pb_S hPc hK hDc hN) rfl rfl hl.1 rfl (lv_room (Nat.le_of_ble_eq_true rfl)) dX2_look_17 ⟨Nat.zero_le _, Nat.zero_le _⟩) hS (fun q _ h => hFc q h) hFc (fun r_37 u_36 t H locs ht hvm h hB hz1 hk1 hS => ?_)
        have hP := vaPk hP hk1
        obtain ⟨ht_, hf_⟩ := h
        refine lv_if_ge (tgt := 27) hx hb dX2_look_20 (by decide) (fun c_38 => ?_) (fun c_38 => ?_)
        · have h := ht_ c_38
          refine lv_aload_n hx hb dX2_look_27 rfl (lv_at hl 1 rfl) ?_
          refine lv_aload_n hx hb dX2_look_28 rfl (lv_at hl 0 rfl) ?_
          refine va_get (D := (dC, dI)) (ci := 2) (v := .ref h0_1) (C := RX2) (T := TX2) (N := 4) hx hb hts (hinX2) hown hK hP 0 rfl rfl 0 (by decide) (hts (.fieldLink RX2 9 "TripleJoins$Pattern" "told" "[I") (by decide +kernel)) (fun _ h9 => h9) rfl dX2_look_29 ?_
          refine lv_iload_n hx hb dX2_look_32 rfl (lv_at hl 3 rfl) ?_
          have hPc := hP.sub (ws' := [(h0_1, .inl (cI, 3, .inl s0_3_told))]) [1] rfl
          have hDc := hD.sub (ws' := [(h0_1, .inl (cI, 3, .inl s0_3_told))]) [1] (by decide) rfl
          have hFc := fr0 hA hS
          refine va_calli (va_runSN (As := [.ref h0_1, .int v3_2]) (rest := [.ref h1, .int v3_2, .ref h0_2]) ⟨hx, hb, hml, hown, hts⟩ (c_X7_at l dC dI cI h0_1 _ 3 s0_3_told v3_2 _ h) ⟨va_cnB 2 hts gX2_look_X7_at_n33 rfl rfl rfl (nk_get hN 14 rfl) (hts (.initialized RX7) (by decide +kernel)) (by decide +kernel) ⟨Nat.le_of_ble_eq_true rfl, Nat.le_of_ble_eq_true rfl⟩, (hts (.static yX7_at) (by decide +kernel)), trivial⟩ (pb_S hPc hK hDc hN) rfl rfl hl.1 rfl (lv_room (Nat.le_of_ble_eq_true rfl)) dX2_look_33 ⟨Nat.zero_le _, Nat.zero_le _⟩) hS (fun q _ h => hFc q h) hFc (fun r_40 u_39 t H locs ht hvm h hB hz1 hk1 hS => ?_)
          have hP := vaPk hP hk1
          have hPc := hP.sub (ws' := [(h1, .inr (0, [.ref h1_4, .ref h1_5, .int s1_size])), (h1_4, .inl (cI, 40, .inl s1_termByNumber)), (h1_5, .inl (cI, 100, .inl s1_nextNumberByTerm))]) [3, 4, 5] rfl
          have hDc := hD.sub (ws' := [(h1, .inr (0, [.ref h1_4, .ref h1_5, .int s1_size])), (h1_4, .inl (cI, 40, .inl s1_termByNumber)), (h1_5, .inl (cI, 100, .inl s1_nextNumberByTerm))]) [3, 4, 5] (by decide) rfl
          have hFc := fr0 hA hS
          refine va_calli (va_runV (As := [.int r_40]) (rest := [.int v3_2, .ref h0_2]) ⟨hx, hb, hml, hown, hts⟩ (c_X0_number l dC dI cI h1 h1_4 h1_5 _ (s1_termByNumber, s1_nextNumberByTerm, s1_size) r_40 _ h) (cwV 1 hts gX2_look_X0_number rfl rfl rfl (by decide +kernel) ⟨Nat.le_of_ble_eq_true rfl, Nat.le_of_ble_eq_true rfl⟩) (pb_V hPc hK hDc hN (ci := 0) (q0 := 0) rfl rfl) rfl rfl hl.1 rfl (lv_room (Nat.le_of_ble_eq_true rfl)) dX2_look_36 ⟨Nat.zero_le _, Nat.zero_le _⟩) hS (fun q _ h => hFc q h) hFc (fun r_42 u_41 t H locs ht hvm h hB hz1 hk1 hS => ?_)
          have hP := vaPk hP hk1
          exact lab_39 s0_3_told s0_3_numbers s0_3_variableBits s0_3_found v3_2 r_42 v3_2 h _ _ hP hD hS _ hl
        · have h := hf_ c_38
          refine lv_iconst (v := (0 : Int32)) hx hb dX2_look_23 (by decide) ?_
          refine lv_goto (tgt := 39) hx hb dX2_look_24 (by decide) ?_
          exact lab_39 s0_3_told s0_3_numbers s0_3_variableBits s0_3_found v3_2 (0 : Int32) v3_2 h _ _ hP hD hS _ hl
  exact loop_1 n_1 (0 : Int32) s0_told s0_numbers s0_variableBits s0_found h _ _ hP hD hS _ hl
abbrev Q_X2_found (dC : Nat → ClassId) (dI : Nat → Nat → Nat) (cI : ClassId) (h0 h0_1 h0_2 : Nat) (s0 : PatS) (A : Nat → Prop) (post : Int32 → Prop) : Array Value → State → Outcome → State → Prop := va_Qi (fun (r : Int32) (_ : Unit) => post r) (fun _ _ => True) A
abbrev rm_X2_found : Room := { frames := 0, cells := 0, slots := 0, locals := 0 }
set_option maxHeartbeats 4000000 in
set_option maxRecDepth 100000 in
theorem c_X2_found (l : Launch) (dC : Nat → ClassId) (dI : Nat → Nat → Nat) (cI : ClassId) (h0 h0_1 h0_2 : Nat) (sz : Nat) (s0 : PatS) (post : Int32 → Prop) (h : P_X2_found s0 post) : Met l yX2_found wsX2_found rm_X2_found (va_Pc [.ref h0] (cpre (dC, dI) [(cI, .int)] [(h0, .inr (2, [.ref h0_1, .ref h0_2, .int s0.variableBits, .int s0.found])), (h0_1, .inl (cI, 3, .inl s0.told)), (h0_2, .inl (cI, 3, .inl s0.numbers))] sz)) (Q_X2_found dC dI cI h0 h0_1 h0_2 s0 (va_A [] sz) post) 0 0 (va_A [] sz) := by
  refine Met.ofW (cc := cX2_found) (maxL := 1) (ret := (some .int)) (by decide) rfl ?_
  intro p e s m args below meth c s₁ B hml hv
  obtain ⟨rfl, hsz, hP, hK, hD0, hN⟩ := hv
  have hx := B.exec
  have hb := B.bytes
  have hr := B.returns
  have hts := atoms_spec (ws := wsX2_found) B.pre
  have hown : s.vm.findClass RX2 = some m.cls := findClass_of_methodNamed B.named
  have hlocks := B.notSynchronized
  subst hsz
  have hD := hD0
  generalize hAe : va_A [] s.heap.size = A
  have hA : ∀ q : Nat, s.heap.size ≤ q → A q := fun q h => by rw [← hAe]; exact Or.inr h
  clear hAe hD0
  obtain ⟨s0_told, s0_numbers, s0_variableBits, s0_found⟩ := s0
  have hS : va_S A s.heap s.heap [] := va_S.rf
  have hP : va_P (dC, dI) vwCl [(h0, .inr (2, [.ref h0_1, .ref h0_2, .int s0_variableBits, .int s0_found])), (h0_1, .inl (cI, 3, .inl s0_told)), (h0_2, .inl (cI, 3, .inl s0_numbers))] s.heap := hP
  have hD : va_D (fun _ : Nat => True) [(h0, .inr (2, [.ref h0_1, .ref h0_2, .int s0_variableBits, .int s0_found])), (h0_1, .inl (cI, 3, .inl s0_told)), (h0_2, .inl (cI, 3, .inl s0_numbers))] := hD
  have hl := lv_entry ([.ref h0]) (n := 1) (Nat.le_of_ble_eq_true rfl)
  rw [lg_entry_eq]
  generalize (lg_sl ([.ref h0]) ++ List.replicate (1 - (lg_sl ([.ref h0])).length) Slot.unset).toArray = ls at hl ⊢
  have hl : lv_has ls 1 [(0, .ref h0)] := hl
  have hinX2 : ∀ w ∈ u_ws RX2 TX2 4, w ∈ wsX2_found := by decide +kernel
  refine lv_aload_n hx hb dX2_found_0 rfl (lv_at hl 0 rfl) ?_
  refine va_get (D := (dC, dI)) (ci := 2) (v := .int s0_found) (C := RX2) (T := TX2) (N := 4) hx hb hts (hinX2) hown hK hP 0 rfl rfl 3 (by decide) (hts (.fieldLink RX2 22 "TripleJoins$Pattern" "found" "I") (by decide +kernel)) (fun _ h9 => h9) rfl dX2_found_1 ?_
  exact W.iret (v := s0_found) hx hb hr (fun t ht hW => ⟨⟨s0_found, (), rfl, h, trivial⟩, hS.F ht⟩) hS.2.2 dX2_found_4
abbrev Q_X2_variableBits (dC : Nat → ClassId) (dI : Nat → Nat → Nat) (cI : ClassId) (h0 h0_1 h0_2 : Nat) (s0 : PatS) (A : Nat → Prop) (post : Int32 → Prop) : Array Value → State → Outcome → State → Prop := va_Qi (fun (r : Int32) (_ : Unit) => post r) (fun _ _ => True) A
abbrev rm_X2_variableBits : Room := { frames := 0, cells := 0, slots := 0, locals := 0 }
set_option maxHeartbeats 4000000 in
set_option maxRecDepth 100000 in
theorem c_X2_variableBits (l : Launch) (dC : Nat → ClassId) (dI : Nat → Nat → Nat) (cI : ClassId) (h0 h0_1 h0_2 : Nat) (sz : Nat) (s0 : PatS) (post : Int32 → Prop) (h : P_X2_variableBits s0 post) : Met l yX2_variableBits wsX2_variableBits rm_X2_variableBits (va_Pc [.ref h0] (cpre (dC, dI) [(cI, .int)] [(h0, .inr (2, [.ref h0_1, .ref h0_2, .int s0.variableBits, .int s0.found])), (h0_1, .inl (cI, 3, .inl s0.told)), (h0_2, .inl (cI, 3, .inl s0.numbers))] sz)) (Q_X2_variableBits dC dI cI h0 h0_1 h0_2 s0 (va_A [] sz) post) 0 0 (va_A [] sz) := by
  refine Met.ofW (cc := cX2_variableBits) (maxL := 1) (ret := (some .int)) (by decide) rfl ?_
  intro p e s m args below meth c s₁ B hml hv
  obtain ⟨rfl, hsz, hP, hK, hD0, hN⟩ := hv
  have hx := B.exec
  have hb := B.bytes
  have hr := B.returns
  have hts := atoms_spec (ws := wsX2_variableBits) B.pre
  have hown : s.vm.findClass RX2 = some m.cls := findClass_of_methodNamed B.named
  have hlocks := B.notSynchronized
  subst hsz
  have hD := hD0
  generalize hAe : va_A [] s.heap.size = A
  have hA : ∀ q : Nat, s.heap.size ≤ q → A q := fun q h => by rw [← hAe]; exact Or.inr h
  clear hAe hD0
  obtain ⟨s0_told, s0_numbers, s0_variableBits, s0_found⟩ := s0
  have hS : va_S A s.heap s.heap [] := va_S.rf
  have hP : va_P (dC, dI) vwCl [(h0, .inr (2, [.ref h0_1, .ref h0_2, .int s0_variableBits, .int s0_found])), (h0_1, .inl (cI, 3, .inl s0_told)), (h0_2, .inl (cI, 3, .inl s0_numbers))] s.heap := hP
  have hD : va_D (fun _ : Nat => True) [(h0, .inr (2, [.ref h0_1, .ref h0_2, .int s0_variableBits, .int s0_found])), (h0_1, .inl (cI, 3, .inl s0_told)), (h0_2, .inl (cI, 3, .inl s0_numbers))] := hD
  have hl := lv_entry ([.ref h0]) (n := 1) (Nat.le_of_ble_eq_true rfl)
  rw [lg_entry_eq]
  generalize (lg_sl ([.ref h0]) ++ List.replicate (1 - (lg_sl ([.ref h0])).length) Slot.unset).toArray = ls at hl ⊢
  have hl : lv_has ls 1 [(0, .ref h0)] := hl
  have hinX2 : ∀ w ∈ u_ws RX2 TX2 4, w ∈ wsX2_variableBits := by decide +kernel
  refine lv_aload_n hx hb dX2_variableBits_0 rfl (lv_at hl 0 rfl) ?_
  refine va_get (D := (dC, dI)) (ci := 2) (v := .int s0_variableBits) (C := RX2) (T := TX2) (N := 4) hx hb hts (hinX2) hown hK hP 0 rfl rfl 2 (by decide) (hts (.fieldLink RX2 18 "TripleJoins$Pattern" "variableBits" "I") (by decide +kernel)) (fun _ h9 => h9) rfl dX2_variableBits_1 ?_
  exact W.iret (v := s0_variableBits) hx hb hr (fun t ht hW => ⟨⟨s0_variableBits, (), rfl, h, trivial⟩, hS.F ht⟩) hS.2.2 dX2_variableBits_4
abbrev Q_X2_part (dC : Nat → ClassId) (dI : Nat → Nat → Nat) (cI : ClassId) (h0 h0_1 h0_2 : Nat) (s0 : PatS) (A : Nat → Prop) (post : Int32 → Prop) : Array Value → State → Outcome → State → Prop := va_Qi (fun (r : Int32) (_ : Unit) => post r) (fun _ _ => True) A
abbrev rm_X2_part : Room := { frames := 1, cells := 0, slots := 0, locals := 21 }
set_option maxHeartbeats 4000000 in
set_option maxRecDepth 100000 in
theorem c_X2_part (l : Launch) (dC : Nat → ClassId) (dI : Nat → Nat → Nat) (cI : ClassId) (h0 h0_1 h0_2 : Nat) (sz : Nat) (s0 : PatS) (v1 : Int32) (post : Int32 → Prop) (h : P_X2_part s0 v1 post) : Met l yX2_part wsX2_part rm_X2_part (va_Pc [.ref h0, .int v1] (cpre (dC, dI) [(cI, .int)] [(h0, .inr (2, [.ref h0_1, .ref h0_2, .int s0.variableBits, .int s0.found])), (h0_1, .inl (cI, 3, .inl s0.told)), (h0_2, .inl (cI, 3, .inl s0.numbers))] sz)) (Q_X2_part dC dI cI h0 h0_1 h0_2 s0 (va_A [] sz) post) 0 0 (va_A [] sz) := by
  refine Met.ofW (cc := cX2_part) (maxL := 2) (ret := (some .int)) (by decide) rfl ?_
  intro p e s m args below meth c s₁ B hml hv
  obtain ⟨rfl, hsz, hP, hK, hD0, hN⟩ := hv
  have hx := B.exec
  have hb := B.bytes
  have hr := B.returns
  have hts := atoms_spec (ws := wsX2_part) B.pre
  have hown : s.vm.findClass RX2 = some m.cls := findClass_of_methodNamed B.named
  have hlocks := B.notSynchronized
  subst hsz
  have hD := hD0
  generalize hAe : va_A [] s.heap.size = A
  have hA : ∀ q : Nat, s.heap.size ≤ q → A q := fun q h => by rw [← hAe]; exact Or.inr h
  clear hAe hD0
  obtain ⟨s0_told, s0_numbers, s0_variableBits, s0_found⟩ := s0
  have hS : va_S A s.heap s.heap [] := va_S.rf
  have hP : va_P (dC, dI) vwCl [(h0, .inr (2, [.ref h0_1, .ref h0_2, .int s0_variableBits, .int s0_found])), (h0_1, .inl (cI, 3, .inl s0_told)), (h0_2, .inl (cI, 3, .inl s0_numbers))] s.heap := hP
  have hD : va_D (fun _ : Nat => True) [(h0, .inr (2, [.ref h0_1, .ref h0_2, .int s0_variableBits, .int s0_found])), (h0_1, .inl (cI, 3, .inl s0_told)), (h0_2, .inl (cI, 3, .inl s0_numbers))] := hD
  have hl := lv_entry ([.ref h0, .int v1]) (n := 2) (Nat.le_of_ble_eq_true rfl)
  rw [lg_entry_eq]
  generalize (lg_sl ([.ref h0, .int v1]) ++ List.replicate (2 - (lg_sl ([.ref h0, .int v1])).length) Slot.unset).toArray = ls at hl ⊢
  have hl : lv_has ls 2 [(0, .ref h0), (1, .int v1)] := hl
  have hinX2 : ∀ w ∈ u_ws RX2 TX2 4, w ∈ wsX2_part := by decide +kernel
  refine lv_aload_n hx hb dX2_part_0 rfl (lv_at hl 0 rfl) ?_
  refine va_get (D := (dC, dI)) (ci := 2) (v := .ref h0_1) (C := RX2) (T := TX2) (N := 4) hx hb hts (hinX2) hown hK hP 0 rfl rfl 0 (by decide) (hts (.fieldLink RX2 9 "TripleJoins$Pattern" "told" "[I") (by decide +kernel)) (fun _ h9 => h9) rfl dX2_part_1 ?_
  refine lv_iload_n hx hb dX2_part_4 rfl (lv_at hl 1 rfl) ?_
  have hPc := hP.sub (ws' := [(h0_1, .inl (cI, 3, .inl s0_told))]) [1] rfl
  have hDc := hD.sub (ws' := [(h0_1, .inl (cI, 3, .inl s0_told))]) [1] (by decide) rfl
  have hFc := fr0 hA hS
  refine va_calli (va_runSN (As := [.ref h0_1, .int v1]) (rest := []) ⟨hx, hb, hml, hown, hts⟩ (c_X7_at l dC dI cI h0_1 _ 3 s0_told v1 _ h) ⟨va_cnB 2 hts gX2_part_X7_at_n33 rfl rfl rfl (nk_get hN 14 rfl) (hts (.initialized RX7) (by decide +kernel)) (by decide +kernel) ⟨Nat.le_of_ble_eq_true rfl, Nat.le_of_ble_eq_true rfl⟩, (hts (.static yX7_at) (by decide +kernel)), trivial⟩ (pb_S hPc hK hDc hN) rfl rfl hl.1 rfl (lv_room (Nat.le_of_ble_eq_true rfl)) dX2_part_5 ⟨Nat.zero_le _, Nat.zero_le _⟩) hS (fun q _ h => hFc q h) hFc (fun r_2 u_1 t H locs ht hvm h hB hz1 hk1 hS => ?_)
  have hP := vaPk hP hk1
  exact W.iret (v := r_2) hx hb hr (fun t ht hW => ⟨⟨r_2, (), rfl, h, trivial⟩, hS.F ht⟩) hS.2.2 dX2_part_8
