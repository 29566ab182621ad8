abbrev Q_X8_init (dC : Nat → ClassId) (dI : Nat → Nat → Nat) (cI : ClassId) (h0 : Nat) (A : Nat → Prop) (post : ModS → Prop) : Array Value → State → Outcome → State → Prop := va_Qv post (fun (u : ModS) (t : State) => ∃ q_1 q_2 q_3 q_4 q_5 q_6 q_7 : Nat, va_P (dC, dI) vwCl [(h0, .inr (8, [.int u.terms, .ref q_1, .ref q_2, .int u.triples, .ref q_3, .int u.patterns, .ref q_4, .ref q_5, .int u.found, .ref q_6, .int u.kept, .int u.keptVariables, .ref q_7, .int u.thrown])), (q_1, .inl (cI, 100, .inl u.number)), (q_2, .inl (cI, 40, .inl u.term)), (q_3, .inl (cI, 180, .inl u.store)), (q_4, .inl (cI, 9, .inl u.query)), (q_5, .inl (cI, 16, .inl u.bound)), (q_6, .inl (cI, 2000, .inl u.work)), (q_7, .inl (cI, 2000, .inl u.answers))] t.heap ∧ va_D A [(h0, .inr (8, [.int u.terms, .ref q_1, .ref q_2, .int u.triples, .ref q_3, .int u.patterns, .ref q_4, .ref q_5, .int u.found, .ref q_6, .int u.kept, .int u.keptVariables, .ref q_7, .int u.thrown])), (q_1, .inl (cI, 100, .inl u.number)), (q_2, .inl (cI, 40, .inl u.term)), (q_3, .inl (cI, 180, .inl u.store)), (q_4, .inl (cI, 9, .inl u.query)), (q_5, .inl (cI, 16, .inl u.bound)), (q_6, .inl (cI, 2000, .inl u.work)), (q_7, .inl (cI, 2000, .inl u.answers))]) A
abbrev rm_X8_init : Room := { frames := 1, cells := 7, slots := 4345, locals := 12 }
set_option maxHeartbeats 4000000 in
set_option maxRecDepth 100000 in
theorem c_X8_init (l : Launch) (dC : Nat → ClassId) (dI : Nat → Nat → Nat) (cI : ClassId) (h0 : Nat) (sz : Nat) (post : ModS → Prop) (h : P_X8_init post) : Met l yX8_init wsX8_init rm_X8_init (va_Pc [.ref h0] (cpre (dC, dI) [(cI, .int)] [(h0, .inr (8, [.int (0 : Int32), .null, .null, .int (0 : Int32), .null, .int (0 : Int32), .null, .null, .int (0 : Int32), .null, .int (0 : Int32), .int (0 : Int32), .null, .int (0 : Int32)]))] sz)) (Q_X8_init dC dI cI h0 (va_A [(h0, .inr (8, [.int (0 : Int32), .null, .null, .int (0 : Int32), .null, .int (0 : Int32), .null, .null, .int (0 : Int32), .null, .int (0 : Int32), .int (0 : Int32), .null, .int (0 : Int32)]))] sz) post) 7 (4345) (va_A [(h0, .inr (8, [.int (0 : Int32), .null, .null, .int (0 : Int32), .null, .int (0 : Int32), .null, .null, .int (0 : Int32), .null, .int (0 : Int32), .int (0 : Int32), .null, .int (0 : Int32)]))] sz) := by
  refine Met.ofW (cc := cX8_init) (maxL := 2) (ret := none) (by decide) rfl ?_
  intro p e s m args below meth c s₁ B hml hv
  obtain ⟨rfl, hsz, hP, hK, hD0, hN⟩ := hv
  have hx := B.exec
  have hb := B.bytes
  have hr := B.returns
  have hts := atoms_spec (ws := wsX8_init) B.pre
  have hown : s.vm.findClass RX8 = some m.cls := findClass_of_methodNamed B.named
  have hlocks := B.notSynchronized
  have hmn : meth.name = "<init>" := (name_of_methodNamed B.named B.method).1
  subst hsz
  have hD := hD0.self (sz := s.heap.size)
  generalize hAe : va_A [(h0, .inr (8, [.int (0 : Int32), .null, .null, .int (0 : Int32), .null, .int (0 : Int32), .null, .null, .int (0 : Int32), .null, .int (0 : Int32), .int (0 : Int32), .null, .int (0 : Int32)]))] s.heap.size = A at hD ⊢
  have hA : ∀ q : Nat, s.heap.size ≤ q → A q := fun q h => by rw [← hAe]; exact Or.inr h
  clear hAe hD0
  have hS : va_S A s.heap s.heap [] := va_S.rf
  have hl := lv_entry ([.ref h0]) (n := 2) (Nat.le_of_ble_eq_true rfl)
  rw [lg_entry_eq]
  generalize (lg_sl ([.ref h0]) ++ List.replicate (2 - (lg_sl ([.ref h0])).length) Slot.unset).toArray = ls at hl ⊢
  have hl : lv_has ls 2 [(0, .ref h0)] := hl
  have hinX8 : ∀ w ∈ u_ws RX8 TX8 14, w ∈ wsX8_init := by decide +kernel
  refine lv_aload_n hx hb dX8_init_0 rfl (lv_at hl 0 rfl) ?_
  refine W.objInit hx hb hown (hts (.methodLink RX8 1 objectInit) (by decide +kernel)) (hts (.instanceMethod objectInit) (by decide +kernel)) (hts _ (List.mem_of_getElem? (i := 3) rfl)) rfl (by rw [hml]; exact hl.1) rfl dX8_init_1 (Nat.le_of_ble_eq_true rfl) (Nat.le_of_ble_eq_true rfl) ?_
  refine W.eq (g2 := F0 m 4 ls []) rfl ?_
  refine lv_aload_n hx hb dX8_init_4 rfl (lv_at hl 0 rfl) ?_
  refine lv_bipush (v := (100 : Int32)) hx hb dX8_init_5 (by decide) ?_
  refine va_newa (atype := .int) (ty := .int) (a0 := (100, .inl (fun _ => 0))) hx hb (hts (.arrayClass .int) (by decide +kernel)) rfl hK hP hD hS hA (fun _ => rfl) (by decide) (by decide +kernel) (by decide +kernel) (by decide +kernel) (by decide +kernel) dX8_init_7 (fun q_1 cA H hK9 hP hD hS => ?_)
  obtain rfl := arr_eq hK9
  refine W.widen (k := 1) (n := 100) (by omega) (by omega) ?_
  have hP : va_P (dC, dI) vwCl [(h0, .inr (8, [.int (0 : Int32), .null, .null, .int (0 : Int32), .null, .int (0 : Int32), .null, .null, .int (0 : Int32), .null, .int (0 : Int32), .int (0 : Int32), .null, .int (0 : Int32)])), (q_1, .inl (cI, 100, .inl (fun _ => 0)))] _ := hP
  have hD : va_D A [(h0, .inr (8, [.int (0 : Int32), .null, .null, .int (0 : Int32), .null, .int (0 : Int32), .null, .null, .int (0 : Int32), .null, .int (0 : Int32), .int (0 : Int32), .null, .int (0 : Int32)])), (q_1, .inl (cI, 100, .inl (fun _ => 0)))] := hD
  refine va_putF (D := (dC, dI)) (ci := 8) (v := .ref q_1) (ty := .array .int) (C := RX8) (T := TX8) (N := 14) hx hb hts (hinX8) tyX8 tyX8_ok nmX8 hown hK hP hD hS 0 rfl rfl 1 (by decide) (hts (.fieldLink RX8 7 "TripleJoinsModel" "number" "[I") (by decide +kernel)) (fun _ h9 => h9) rfl hmn rfl (by decide +kernel) rfl rfl (Nat.le_of_ble_eq_true rfl) dX8_init_9 (fun H locs hP hD hS => ?_)
  have hP : va_P (dC, dI) vwCl [(h0, .inr (8, [.int (0 : Int32), .ref q_1, .null, .int (0 : Int32), .null, .int (0 : Int32), .null, .null, .int (0 : Int32), .null, .int (0 : Int32), .int (0 : Int32), .null, .int (0 : Int32)])), (q_1, .inl (cI, 100, .inl (fun _ => 0)))] _ := hP
  have hD : va_D A [(h0, .inr (8, [.int (0 : Int32), .ref q_1, .null, .int (0 : Int32), .null, .int (0 : Int32), .null, .null, .int (0 : Int32), .null, .int (0 : Int32), .int (0 : Int32), .null, .int (0 : Int32)])), (q_1, .inl (cI, 100, .inl (fun _ => 0)))] := hD
  refine lv_aload_n hx hb dX8_init_12 rfl (lv_at hl 0 rfl) ?_
  refine lv_bipush (v := (40 : Int32)) hx hb dX8_init_13 (by decide) ?_
  refine va_newa (atype := .int) (ty := .int) (a0 := (40, .inl (fun _ => 0))) hx hb (hts (.arrayClass .int) (by decide +kernel)) rfl hK hP hD hS hA (fun _ => rfl) (by decide) (by decide +kernel) (by decide +kernel) (by decide +kernel) (by decide +kernel) dX8_init_15 (fun q_2 cA H hK9 hP hD hS => ?_)
  obtain rfl := arr_eq hK9
  refine W.widen (k := 2) (n := 140) (by omega) (by omega) ?_
  have hP : va_P (dC, dI) vwCl [(h0, .inr (8, [.int (0 : Int32), .ref q_1, .null, .int (0 : Int32), .null, .int (0 : Int32), .null, .null, .int (0 : Int32), .null, .int (0 : Int32), .int (0 : Int32), .null, .int (0 : Int32)])), (q_1, .inl (cI, 100, .inl (fun _ => 0))), (q_2, .inl (cI, 40, .inl (fun _ => 0)))] _ := hP
  have hD : va_D A [(h0, .inr (8, [.int (0 : Int32), .ref q_1, .null, .int (0 : Int32), .null, .int (0 : Int32), .null, .null, .int (0 : Int32), .null, .int (0 : Int32), .int (0 : Int32), .null, .int (0 : Int32)])), (q_1, .inl (cI, 100, .inl (fun _ => 0))), (q_2, .inl (cI, 40, .inl (fun _ => 0)))] := hD
  refine va_putF (D := (dC, dI)) (ci := 8) (v := .ref q_2) (ty := .array .int) (C := RX8) (T := TX8) (N := 14) hx hb hts (hinX8) tyX8 tyX8_ok nmX8 hown hK hP hD hS 0 rfl rfl 2 (by decide) (hts (.fieldLink RX8 13 "TripleJoinsModel" "term" "[I") (by decide +kernel)) (fun _ h9 => h9) rfl hmn rfl (by decide +kernel) rfl rfl (Nat.le_of_ble_eq_true rfl) dX8_init_17 (fun H locs hP hD hS => ?_)
  have hP : va_P (dC, dI) vwCl [(h0, .inr (8, [.int (0 : Int32), .ref q_1, .ref q_2, .int (0 : Int32), .null, .int (0 : Int32), .null, .null, .int (0 : Int32), .null, .int (0 : Int32), .int (0 : Int32), .null, .int (0 : Int32)])), (q_1, .inl (cI, 100, .inl (fun _ => 0))), (q_2, .inl (cI, 40, .inl (fun _ => 0)))] _ := hP
  have hD : va_D A [(h0, .inr (8, [.int (0 : Int32), .ref q_1, .ref q_2, .int (0 : Int32), .null, .int (0 : Int32), .null, .null, .int (0 : Int32), .null, .int (0 : Int32), .int (0 : Int32), .null, .int (0 : Int32)])), (q_1, .inl (cI, 100, .inl (fun _ => 0))), (q_2, .inl (cI, 40, .inl (fun _ => 0)))] := hD
  refine lv_aload_n hx hb dX8_init_20 rfl (lv_at hl 0 rfl) ?_
  refine lv_sipush (v := (180 : Int32)) hx hb dX8_init_21 (by decide) ?_
  refine va_newa (atype := .int) (ty := .int) (a0 := (180, .inl (fun _ => 0))) hx hb (hts (.arrayClass .int) (by decide +kernel)) rfl hK hP hD hS hA (fun _ => rfl) (by decide) (by decide +kernel) (by decide +kernel) (by decide +kernel) (by decide +kernel) dX8_init_24 (fun q_3 cA H hK9 hP hD hS => ?_)
  obtain rfl := arr_eq hK9
  refine W.widen (k := 3) (n := 320) (by omega) (by omega) ?_
  have hP : va_P (dC, dI) vwCl [(h0, .inr (8, [.int (0 : Int32), .ref q_1, .ref q_2, .int (0 : Int32), .null, .int (0 : Int32), .null, .null, .int (0 : Int32), .null, .int (0 : Int32), .int (0 : Int32), .null, .int (0 : Int32)])), (q_1, .inl (cI, 100, .inl (fun _ => 0))), (q_2, .inl (cI, 40, .inl (fun _ => 0))), (q_3, .inl (cI, 180, .inl (fun _ => 0)))] _ := hP
  have hD : va_D A [(h0, .inr (8, [.int (0 : Int32), .ref q_1, .ref q_2, .int (0 : Int32), .null, .int (0 : Int32), .null, .null, .int (0 : Int32), .null, .int (0 : Int32), .int (0 : Int32), .null, .int (0 : Int32)])), (q_1, .inl (cI, 100, .inl (fun _ => 0))), (q_2, .inl (cI, 40, .inl (fun _ => 0))), (q_3, .inl (cI, 180, .inl (fun _ => 0)))] := hD
  refine va_putF (D := (dC, dI)) (ci := 8) (v := .ref q_3) (ty := .array .int) (C := RX8) (T := TX8) (N := 14) hx hb hts (hinX8) tyX8 tyX8_ok nmX8 hown hK hP hD hS 0 rfl rfl 4 (by decide) (hts (.fieldLink RX8 16 "TripleJoinsModel" "store" "[I") (by decide +kernel)) (fun _ h9 => h9) rfl hmn rfl (by decide +kernel) rfl rfl (Nat.le_of_ble_eq_true rfl) dX8_init_26 (fun H locs hP hD hS => ?_)
  have hP : va_P (dC, dI) vwCl [(h0, .inr (8, [.int (0 : Int32), .ref q_1, .ref q_2, .int (0 : Int32), .ref q_3, .int (0 : Int32), .null, .null, .int (0 : Int32), .null, .int (0 : Int32), .int (0 : Int32), .null, .int (0 : Int32)])), (q_1, .inl (cI, 100, .inl (fun _ => 0))), (q_2, .inl (cI, 40, .inl (fun _ => 0))), (q_3, .inl (cI, 180, .inl (fun _ => 0)))] _ := hP
  have hD : va_D A [(h0, .inr (8, [.int (0 : Int32), .ref q_1, .ref q_2, .int (0 : Int32), .ref q_3, .int (0 : Int32), .null, .null, .int (0 : Int32), .null, .int (0 : Int32), .int (0 : Int32), .null, .int (0 : Int32)])), (q_1, .inl (cI, 100, .inl (fun _ => 0))), (q_2, .inl (cI, 40, .inl (fun _ => 0))), (q_3, .inl (cI, 180, .inl (fun _ => 0)))] := hD
  refine lv_aload_n hx hb dX8_init_29 rfl (lv_at hl 0 rfl) ?_
  refine lv_bipush (v := (9 : Int32)) hx hb dX8_init_30 (by decide) ?_
  refine va_newa (atype := .int) (ty := .int) (a0 := (9, .inl (fun _ => 0))) hx hb (hts (.arrayClass .int) (by decide +kernel)) rfl hK hP hD hS hA (fun _ => rfl) (by decide) (by decide +kernel) (by decide +kernel) (by decide +kernel) (by decide +kernel) dX8_init_32 (fun q_4 cA H hK9 hP hD hS => ?_)
  obtain rfl := arr_eq hK9
  refine W.widen (k := 4) (n := 329) (by omega) (by omega) ?_
  have hP : va_P (dC, dI) vwCl [(h0, .inr (8, [.int (0 : Int32), .ref q_1, .ref q_2, .int (0 : Int32), .ref q_3, .int (0 : Int32), .null, .null, .int (0 : Int32), .null, .int (0 : Int32), .int (0 : Int32), .null, .int (0 : Int32)])), (q_1, .inl (cI, 100, .inl (fun _ => 0))), (q_2, .inl (cI, 40, .inl (fun _ => 0))), (q_3, .inl (cI, 180, .inl (fun _ => 0))), (q_4, .inl (cI, 9, .inl (fun _ => 0)))] _ := hP
  have hD : va_D A [(h0, .inr (8, [.int (0 : Int32), .ref q_1, .ref q_2, .int (0 : Int32), .ref q_3, .int (0 : Int32), .null, .null, .int (0 : Int32), .null, .int (0 : Int32), .int (0 : Int32), .null, .int (0 : Int32)])), (q_1, .inl (cI, 100, .inl (fun _ => 0))), (q_2, .inl (cI, 40, .inl (fun _ => 0))), (q_3, .inl (cI, 180, .inl (fun _ => 0))), (q_4, .inl (cI, 9, .inl (fun _ => 0)))] := hD
  refine va_putF (D := (dC, dI)) (ci := 8) (v := .ref q_4) (ty := .array .int) (C := RX8) (T := TX8) (N := 14) hx hb hts (hinX8) tyX8 tyX8_ok nmX8 hown hK hP hD hS 0 rfl rfl 6 (by decide) (hts (.fieldLink RX8 19 "TripleJoinsModel" "query" "[I") (by decide +kernel)) (fun _ h9 => h9) rfl hmn rfl (by decide +kernel) rfl rfl (Nat.le_of_ble_eq_true rfl) dX8_init_34 (fun H locs hP hD hS => ?_)
  have hP : va_P (dC, dI) vwCl [(h0, .inr (8, [.int (0 : Int32), .ref q_1, .ref q_2, .int (0 : Int32), .ref q_3, .int (0 : Int32), .ref q_4, .null, .int (0 : Int32), .null, .int (0 : Int32), .int (0 : Int32), .null, .int (0 : Int32)])), (q_1, .inl (cI, 100, .inl (fun _ => 0))), (q_2, .inl (cI, 40, .inl (fun _ => 0))), (q_3, .inl (cI, 180, .inl (fun _ => 0))), (q_4, .inl (cI, 9, .inl (fun _ => 0)))] _ := hP
  have hD : va_D A [(h0, .inr (8, [.int (0 : Int32), .ref q_1, .ref q_2, .int (0 : Int32), .ref q_3, .int (0 : Int32), .ref q_4, .null, .int (0 : Int32), .null, .int (0 : Int32), .int (0 : Int32), .null, .int (0 : Int32)])), (q_1, .inl (cI, 100, .inl (fun _ => 0))), (q_2, .inl (cI, 40, .inl (fun _ => 0))), (q_3, .inl (cI, 180, .inl (fun _ => 0))), (q_4, .inl (cI, 9, .inl (fun _ => 0)))] := hD
  refine lv_aload_n hx hb dX8_init_37 rfl (lv_at hl 0 rfl) ?_
  refine lv_bipush (v := (16 : Int32)) hx hb dX8_init_38 (by decide) ?_
  refine va_newa (atype := .int) (ty := .int) (a0 := (16, .inl (fun _ => 0))) hx hb (hts (.arrayClass .int) (by decide +kernel)) rfl hK hP hD hS hA (fun _ => rfl) (by decide) (by decide +kernel) (by decide +kernel) (by decide +kernel) (by decide +kernel) dX8_init_40 (fun q_5 cA H hK9 hP hD hS => ?_)
  obtain rfl := arr_eq hK9
  refine W.widen (k := 5) (n := 345) (by omega) (by omega) ?_
  have hP : va_P (dC, dI) vwCl [(h0, .inr (8, [.int (0 : Int32), .ref q_1, .ref q_2, .int (0 : Int32), .ref q_3, .int (0 : Int32), .ref q_4, .null, .int (0 : Int32), .null, .int (0 : Int32), .int (0 : Int32), .null, .int (0 : Int32)])), (q_1, .inl (cI, 100, .inl (fun _ => 0))), (q_2, .inl (cI, 40, .inl (fun _ => 0))), (q_3, .inl (cI, 180, .inl (fun _ => 0))), (q_4, .inl (cI, 9, .inl (fun _ => 0))), (q_5, .inl (cI, 16, .inl (fun _ => 0)))] _ := hP
  have hD : va_D A [(h0, .inr (8, [.int (0 : Int32), .ref q_1, .ref q_2, .int (0 : Int32), .ref q_3, .int (0 : Int32), .ref q_4, .null, .int (0 : Int32), .null, .int (0 : Int32), .int (0 : Int32), .null, .int (0 : Int32)])), (q_1, .inl (cI, 100, .inl (fun _ => 0))), (q_2, .inl (cI, 40, .inl (fun _ => 0))), (q_3, .inl (cI, 180, .inl (fun _ => 0))), (q_4, .inl (cI, 9, .inl (fun _ => 0))), (q_5, .inl (cI, 16, .inl (fun _ => 0)))] := hD
  refine va_putF (D := (dC, dI)) (ci := 8) (v := .ref q_5) (ty := .array .int) (C := RX8) (T := TX8) (N := 14) hx hb hts (hinX8) tyX8 tyX8_ok nmX8 hown hK hP hD hS 0 rfl rfl 7 (by decide) (hts (.fieldLink RX8 22 "TripleJoinsModel" "bound" "[I") (by decide +kernel)) (fun _ h9 => h9) rfl hmn rfl (by decide +kernel) rfl rfl (Nat.le_of_ble_eq_true rfl) dX8_init_42 (fun H locs hP hD hS => ?_)
  have hP : va_P (dC, dI) vwCl [(h0, .inr (8, [.int (0 : Int32), .ref q_1, .ref q_2, .int (0 : Int32), .ref q_3, .int (0 : Int32), .ref q_4, .ref q_5, .int (0 : Int32), .null, .int (0 : Int32), .int (0 : Int32), .null, .int (0 : Int32)])), (q_1, .inl (cI, 100, .inl (fun _ => 0))), (q_2, .inl (cI, 40, .inl (fun _ => 0))), (q_3, .inl (cI, 180, .inl (fun _ => 0))), (q_4, .inl (cI, 9, .inl (fun _ => 0))), (q_5, .inl (cI, 16, .inl (fun _ => 0)))] _ := hP
  have hD : va_D A [(h0, .inr (8, [.int (0 : Int32), .ref q_1, .ref q_2, .int (0 : Int32), .ref q_3, .int (0 : Int32), .ref q_4, .ref q_5, .int (0 : Int32), .null, .int (0 : Int32), .int (0 : Int32), .null, .int (0 : Int32)])), (q_1, .inl (cI, 100, .inl (fun _ => 0))), (q_2, .inl (cI, 40, .inl (fun _ => 0))), (q_3, .inl (cI, 180, .inl (fun _ => 0))), (q_4, .inl (cI, 9, .inl (fun _ => 0))), (q_5, .inl (cI, 16, .inl (fun _ => 0)))] := hD
  refine lv_aload_n hx hb dX8_init_45 rfl (lv_at hl 0 rfl) ?_
  refine lv_sipush (v := (2000 : Int32)) hx hb dX8_init_46 (by decide) ?_
  refine va_newa (atype := .int) (ty := .int) (a0 := (2000, .inl (fun _ => 0))) hx hb (hts (.arrayClass .int) (by decide +kernel)) rfl hK hP hD hS hA (fun _ => rfl) (by decide) (by decide +kernel) (by decide +kernel) (by decide +kernel) (by decide +kernel) dX8_init_49 (fun q_6 cA H hK9 hP hD hS => ?_)
  obtain rfl := arr_eq hK9
  refine W.widen (k := 6) (n := 2345) (by omega) (by omega) ?_
  have hP : va_P (dC, dI) vwCl [(h0, .inr (8, [.int (0 : Int32), .ref q_1, .ref q_2, .int (0 : Int32), .ref q_3, .int (0 : Int32), .ref q_4, .ref q_5, .int (0 : Int32), .null, .int (0 : Int32), .int (0 : Int32), .null, .int (0 : Int32)])), (q_1, .inl (cI, 100, .inl (fun _ => 0))), (q_2, .inl (cI, 40, .inl (fun _ => 0))), (q_3, .inl (cI, 180, .inl (fun _ => 0))), (q_4, .inl (cI, 9, .inl (fun _ => 0))), (q_5, .inl (cI, 16, .inl (fun _ => 0))), (q_6, .inl (cI, 2000, .inl (fun _ => 0)))] _ := hP
  have hD : va_D A [(h0, .inr (8, [.int (0 : Int32), .ref q_1, .ref q_2, .int (0 : Int32), .ref q_3, .int (0 : Int32), .ref q_4, .ref q_5, .int (0 : Int32), .null, .int (0 : Int32), .int (0 : Int32), .null, .int (0 : Int32)])), (q_1, .inl (cI, 100, .inl (fun _ => 0))), (q_2, .inl (cI, 40, .inl (fun _ => 0))), (q_3, .inl (cI, 180, .inl (fun _ => 0))), (q_4, .inl (cI, 9, .inl (fun _ => 0))), (q_5, .inl (cI, 16, .inl (fun _ => 0))), (q_6, .inl (cI, 2000, .inl (fun _ => 0)))] := hD
  refine va_putF (D := (dC, dI)) (ci := 8) (v := .ref q_6) (ty := .array .int) (C := RX8) (T := TX8) (N := 14) hx hb hts (hinX8) tyX8 tyX8_ok nmX8 hown hK hP hD hS 0 rfl rfl 9 (by decide) (hts (.fieldLink RX8 25 "TripleJoinsModel" "work" "[I") (by decide +kernel)) (fun _ h9 => h9) rfl hmn rfl (by decide +kernel) rfl rfl (Nat.le_of_ble_eq_true rfl) dX8_init_51 (fun H locs hP hD hS => ?_)
  have hP : va_P (dC, dI) vwCl [(h0, .inr (8, [.int (0 : Int32), .ref q_1, .ref q_2, .int (0 : Int32), .ref q_3, .int (0 : Int32), .ref q_4, .ref q_5, .int (0 : Int32), .ref q_6, .int (0 : Int32), .int (0 : Int32), .null, .int (0 : Int32)])), (q_1, .inl (cI, 100, .inl (fun _ => 0))), (q_2, .inl (cI, 40, .inl (fun _ => 0))), (q_3, .inl (cI, 180, .inl (fun _ => 0))), (q_4, .inl (cI, 9, .inl (fun _ => 0))), (q_5, .inl (cI, 16, .inl (fun _ => 0))), (q_6, .inl (cI, 2000, .inl (fun _ => 0)))] _ := hP
  have hD : va_D A [(h0, .inr (8, [.int (0 : Int32), .ref q_1, .ref q_2, .int (0 : Int32), .ref q_3, .int (0 : Int32), .ref q_4, .ref q_5, .int (0 : Int32), .ref q_6, .int (0 : Int32), .int (0 : Int32), .null, .int (0 : Int32)])), (q_1, .inl (cI, 100, .inl (fun _ => 0))), (q_2, .inl (cI, 40, .inl (fun _ => 0))), (q_3, .inl (cI, 180, .inl (fun _ => 0))), (q_4, .inl (cI, 9, .inl (fun _ => 0))), (q_5, .inl (cI, 16, .inl (fun _ => 0))), (q_6, .inl (cI, 2000, .inl (fun _ => 0)))] := hD
  refine lv_aload_n hx hb dX8_init_54 rfl (lv_at hl 0 rfl) ?_
  refine lv_sipush (v := (2000 : Int32)) hx hb dX8_init_55 (by decide) ?_
  refine va_newa (atype := .int) (ty := .int) (a0 := (2000, .inl (fun _ => 0))) hx hb (hts (.arrayClass .int) (by decide +kernel)) rfl hK hP hD hS hA (fun _ => rfl) (by decide) (by decide +kernel) (by decide +kernel) (by decide +kernel) (by decide +kernel) dX8_init_58 (fun q_7 cA H hK9 hP hD hS => ?_)
  obtain rfl := arr_eq hK9
  refine W.widen (k := 7) (n := 4345) (by omega) (by omega) ?_
  have hP : va_P (dC, dI) vwCl [(h0, .inr (8, [.int (0 : Int32), .ref q_1, .ref q_2, .int (0 : Int32), .ref q_3, .int (0 : Int32), .ref q_4, .ref q_5, .int (0 : Int32), .ref q_6, .int (0 : Int32), .int (0 : Int32), .null, .int (0 : Int32)])), (q_1, .inl (cI, 100, .inl (fun _ => 0))), (q_2, .inl (cI, 40, .inl (fun _ => 0))), (q_3, .inl (cI, 180, .inl (fun _ => 0))), (q_4, .inl (cI, 9, .inl (fun _ => 0))), (q_5, .inl (cI, 16, .inl (fun _ => 0))), (q_6, .inl (cI, 2000, .inl (fun _ => 0))), (q_7, .inl (cI, 2000, .inl (fun _ => 0)))] _ := hP
  have hD : va_D A [(h0, .inr (8, [.int (0 : Int32), .ref q_1, .ref q_2, .int (0 : Int32), .ref q_3, .int (0 : Int32), .ref q_4, .ref q_5, .int (0 : Int32), .ref q_6, .int (0 : Int32), .int (0 : Int32), .null, .int (0 : Int32)])), (q_1, .inl (cI, 100, .inl (fun _ => 0))), (q_2, .inl (cI, 40, .inl (fun _ => 0))), (q_3, .inl (cI, 180, .inl (fun _ => 0))), (q_4, .inl (cI, 9, .inl (fun _ => 0))), (q_5, .inl (cI, 16, .inl (fun _ => 0))), (q_6, .inl (cI, 2000, .inl (fun _ => 0))), (q_7, .inl (cI, 2000, .inl (fun _ => 0)))] := hD
  refine va_putF (D := (dC, dI)) (ci := 8) (v := .ref q_7) (ty := .array .int) (C := RX8) (T := TX8) (N := 14) hx hb hts (hinX8) tyX8 tyX8_ok nmX8 hown hK hP hD hS 0 rfl rfl 12 (by decide) (hts (.fieldLink RX8 28 "TripleJoinsModel" "answers" "[I") (by decide +kernel)) (fun _ h9 => h9) rfl hmn rfl (by decide +kernel) rfl rfl (Nat.le_of_ble_eq_true rfl) dX8_init_60 (fun H locs hP hD hS => ?_)
  have hP : va_P (dC, dI) vwCl [(h0, .inr (8, [.int (0 : Int32), .ref q_1, .ref q_2, .int (0 : Int32), .ref q_3, .int (0 : Int32), .ref q_4, .ref q_5, .int (0 : Int32), .ref q_6, .int (0 : Int32), .int (0 : Int32), .ref q_7, .int (0 : Int32)])), (q_1, .inl (cI, 100, .inl (fun _ => 0))), (q_2, .inl (cI, 40, .inl (fun _ => 0))), (q_3, .inl (cI, 180, .inl (fun _ => 0))), (q_4, .inl (cI, 9, .inl (fun _ => 0))), (q_5, .inl (cI, 16, .inl (fun _ => 0))), (q_6, .inl (cI, 2000, .inl (fun _ => 0))), (q_7, .inl (cI, 2000, .inl (fun _ => 0)))] _ := hP
  have hD : va_D A [(h0, .inr (8, [.int (0 : Int32), .ref q_1, .ref q_2, .int (0 : Int32), .ref q_3, .int (0 : Int32), .ref q_4, .ref q_5, .int (0 : Int32), .ref q_6, .int (0 : Int32), .int (0 : Int32), .ref q_7, .int (0 : Int32)])), (q_1, .inl (cI, 100, .inl (fun _ => 0))), (q_2, .inl (cI, 40, .inl (fun _ => 0))), (q_3, .inl (cI, 180, .inl (fun _ => 0))), (q_4, .inl (cI, 9, .inl (fun _ => 0))), (q_5, .inl (cI, 16, .inl (fun _ => 0))), (q_6, .inl (cI, 2000, .inl (fun _ => 0))), (q_7, .inl (cI, 2000, .inl (fun _ => 0)))] := hD
  refine lv_iconst (v := (0 : Int32)) hx hb dX8_init_63 (by decide) ?_
  refine lv_istore_n (lv' := [(1, .int (0 : Int32)), (0, .ref h0)]) hx hb dX8_init_64 rfl hl (by decide) rfl (fun ls hl => ?_)
  have hl : lv_has ls 2 [(0, .ref h0), (1, .int (0 : Int32))] := lv_sub hl [1, 0] rfl
  refine W.widen (k := 7) (n := 4345) (by omega) (by omega) ?_
  obtain ⟨I_8, hI_8, n_8, h⟩ := h
  have loop_8 : ∀ (n_8 : Nat) (v1_9 : Int32) (s0_10_terms : Int32) (s0_10_number : Nat → Int32) (s0_10_term : Nat → Int32) (s0_10_triples : Int32) (s0_10_store : Nat → Int32) (s0_10_patterns : Int32) (s0_10_query : Nat → Int32) (s0_10_bound : Nat → Int32) (s0_10_found : Int32) (s0_10_work : Nat → Int32) (s0_10_kept : Int32) (s0_10_keptVariables : Int32) (s0_10_answers : Nat → Int32) (s0_10_thrown : Int32) (h : I_8 n_8 (v1_9, (s0_10_terms, s0_10_number, s0_10_term, s0_10_triples, s0_10_store, s0_10_patterns, s0_10_query, s0_10_bound, s0_10_found, s0_10_work, s0_10_kept, s0_10_keptVariables, s0_10_answers, s0_10_thrown))) (H : Heap) (locs : List Loc) (hP : va_P (dC, dI) vwCl [(h0, .inr (8, [.int s0_10_terms, .ref q_1, .ref q_2, .int s0_10_triples, .ref q_3, .int s0_10_patterns, .ref q_4, .ref q_5, .int s0_10_found, .ref q_6, .int s0_10_kept, .int s0_10_keptVariables, .ref q_7, .int s0_10_thrown])), (q_1, .inl (cI, 100, .inl s0_10_number)), (q_2, .inl (cI, 40, .inl s0_10_term)), (q_3, .inl (cI, 180, .inl s0_10_store)), (q_4, .inl (cI, 9, .inl s0_10_query)), (q_5, .inl (cI, 16, .inl s0_10_bound)), (q_6, .inl (cI, 2000, .inl s0_10_work)), (q_7, .inl (cI, 2000, .inl s0_10_answers))] H) (hD : va_D A [(h0, .inr (8, [.int s0_10_terms, .ref q_1, .ref q_2, .int s0_10_triples, .ref q_3, .int s0_10_patterns, .ref q_4, .ref q_5, .int s0_10_found, .ref q_6, .int s0_10_kept, .int s0_10_keptVariables, .ref q_7, .int s0_10_thrown])), (q_1, .inl (cI, 100, .inl s0_10_number)), (q_2, .inl (cI, 40, .inl s0_10_term)), (q_3, .inl (cI, 180, .inl s0_10_store)), (q_4, .inl (cI, 9, .inl s0_10_query)), (q_5, .inl (cI, 16, .inl s0_10_bound)), (q_6, .inl (cI, 2000, .inl s0_10_work)), (q_7, .inl (cI, 2000, .inl s0_10_answers))]) (hS : va_S A s.heap H locs) (ls : Array Slot) (hl : lv_has ls 2 [(0, .ref h0), (1, .int v1_9)]), W p l e rm_X8_init s m ([.ref h0] : List Value).toArray below meth c H locs 7 4345 (MQ below (Q_X8_init dC dI cI h0 A post) (([.ref h0] : List Value).toArray) s 7 (4345) A) (F0 m 65 ls []) := by
    intro n_8
    induction n_8 using Nat.strongRecOn with
    | ind n_8 ih_8 =>
      intro v1_9 s0_10_terms s0_10_number s0_10_term s0_10_triples s0_10_store s0_10_patterns s0_10_query s0_10_bound s0_10_found s0_10_work s0_10_kept s0_10_keptVariables s0_10_answers s0_10_thrown h H locs hP hD hS ls hl
      have h := hI_8 n_8 _ h
      refine lv_iload_n hx hb dX8_init_65 rfl (lv_at hl 1 rfl) ?_
      refine lv_bipush (v := (100 : Int32)) hx hb dX8_init_66 (by decide) ?_
      obtain ⟨ht_, hf_⟩ := h
      refine lv_icmp_ge (tgt := 84) hx hb dX8_init_68 (by decide) (fun c_11 => ?_) (fun c_11 => ?_)
      · have h := ht_ c_11
        have hP := hP.sub (ws' := [(h0, .inr (8, [.int s0_10_terms, .ref q_1, .ref q_2, .int s0_10_triples, .ref q_3, .int s0_10_patterns, .ref q_4, .ref q_5, .int s0_10_found, .ref q_6, .int s0_10_kept, .int s0_10_keptVariables, .ref q_7, .int s0_10_thrown])), (q_1, .inl (cI, 100, .inl s0_10_number)), (q_2, .inl (cI, 40, .inl s0_10_term)), (q_3, .inl (cI, 180, .inl s0_10_store)), (q_4, .inl (cI, 9, .inl s0_10_query)), (q_5, .inl (cI, 16, .inl s0_10_bound)), (q_6, .inl (cI, 2000, .inl s0_10_work)), (q_7, .inl (cI, 2000, .inl s0_10_answers))]) [0, 1, 2, 3, 4, 5, 6, 7] rfl
        have hD := hD.sub (ws' := [(h0, .inr (8, [.int s0_10_terms, .ref q_1, .ref q_2, .int s0_10_triples, .ref q_3, .int s0_10_patterns, .ref q_4, .ref q_5, .int s0_10_found, .ref q_6, .int s0_10_kept, .int s0_10_keptVariables, .ref q_7, .int s0_10_thrown])), (q_1, .inl (cI, 100, .inl s0_10_number)), (q_2, .inl (cI, 40, .inl s0_10_term)), (q_3, .inl (cI, 180, .inl s0_10_store)), (q_4, .inl (cI, 9, .inl s0_10_query)), (q_5, .inl (cI, 16, .inl s0_10_bound)), (q_6, .inl (cI, 2000, .inl s0_10_work)), (q_7, .inl (cI, 2000, .inl s0_10_answers))]) [0, 1, 2, 3, 4, 5, 6, 7] (by decide) rfl
        refine W.widen (k := 7) (n := 4345) (by omega) (by omega) ?_
        exact W.vret hx hb hr (fun t ht hW => ⟨⟨(s0_10_terms, s0_10_number, s0_10_term, s0_10_triples, s0_10_store, s0_10_patterns, s0_10_query, s0_10_bound, s0_10_found, s0_10_work, s0_10_kept, s0_10_keptVariables, s0_10_answers, s0_10_thrown), rfl, h, q_1, q_2, q_3, q_4, q_5, q_6, q_7, by rw [ht]; exact hP, hD⟩, hS.F ht⟩) hS.2.2 dX8_init_84
      · have h := hf_ c_11
        refine lv_aload_n hx hb dX8_init_71 rfl (lv_at hl 0 rfl) ?_
        refine va_get (D := (dC, dI)) (ci := 8) (v := .ref q_1) (C := RX8) (T := TX8) (N := 14) hx hb hts (hinX8) hown hK hP 0 rfl rfl 1 (by decide) (hts (.fieldLink RX8 7 "TripleJoinsModel" "number" "[I") (by decide +kernel)) (fun _ h9 => h9) rfl dX8_init_72 ?_
        refine lv_iload_n hx hb dX8_init_75 rfl (lv_at hl 1 rfl) ?_
        refine lv_iconst (v := (-1 : Int32)) hx hb dX8_init_76 (by decide) ?_
        obtain ⟨hin, h⟩ := h
        refine va_iast (n := 100) hx hb hK hP hD hS 1 0 rfl rfl hin dX8_init_77 (fun H locs hP hD hS => ?_)
        have hP : va_P (dC, dI) vwCl [(h0, .inr (8, [.int s0_10_terms, .ref q_1, .ref q_2, .int s0_10_triples, .ref q_3, .int s0_10_patterns, .ref q_4, .ref q_5, .int s0_10_found, .ref q_6, .int s0_10_kept, .int s0_10_keptVariables, .ref q_7, .int s0_10_thrown])), (q_1, .inl (cI, 100, .inl (upd s0_10_number (v1_9).toNatClampNeg (-1 : Int32)))), (q_2, .inl (cI, 40, .inl s0_10_term)), (q_3, .inl (cI, 180, .inl s0_10_store)), (q_4, .inl (cI, 9, .inl s0_10_query)), (q_5, .inl (cI, 16, .inl s0_10_bound)), (q_6, .inl (cI, 2000, .inl s0_10_work)), (q_7, .inl (cI, 2000, .inl s0_10_answers))] _ := hP
        have hD : va_D A [(h0, .inr (8, [.int s0_10_terms, .ref q_1, .ref q_2, .int s0_10_triples, .ref q_3, .int s0_10_patterns, .ref q_4, .ref q_5, .int s0_10_found, .ref q_6, .int s0_10_kept, .int s0_10_keptVariables, .ref q_7, .int s0_10_thrown])), (q_1, .inl (cI, 100, .inl (upd s0_10_number (v1_9).toNatClampNeg (-1 : Int32)))), (q_2, .inl (cI, 40, .inl s0_10_term)), (q_3, .inl (cI, 180, .inl s0_10_store)), (q_4, .inl (cI, 9, .inl s0_10_query)), (q_5, .inl (cI, 16, .inl s0_10_bound)), (q_6, .inl (cI, 2000, .inl s0_10_work)), (q_7, .inl (cI, 2000, .inl s0_10_answers))] := hD
        refine lv_iinc (v := (v1_9 + (1 : Int32))) (lv' := [(1, .int (v1_9 + (1 : Int32))), (0, .ref h0)]) hx hb dX8_init_78 hl (k := 1) rfl rfl (by decide) rfl (fun ls hl => ?_)
        refine lv_goto (tgt := 65) hx hb dX8_init_81 (by decide) ?_
        have hl : lv_has ls 2 [(0, .ref h0), (1, .int (v1_9 + (1 : Int32)))] := lv_sub hl [1, 0] rfl
        obtain ⟨k_12, hk_13, h⟩ := h
        exact ih_8 k_12 hk_13 (v1_9 + (1 : Int32)) s0_10_terms (upd s0_10_number (v1_9).toNatClampNeg (-1 : Int32)) s0_10_term s0_10_triples s0_10_store s0_10_patterns s0_10_query s0_10_bound s0_10_found s0_10_work s0_10_kept s0_10_keptVariables s0_10_answers s0_10_thrown h _ _ hP hD hS _ hl
  exact loop_8 n_8 (0 : Int32) (0 : Int32) (fun _ => 0) (fun _ => 0) (0 : Int32) (fun _ => 0) (0 : Int32) (fun _ => 0) (fun _ => 0) (0 : Int32) (fun _ => 0) (0 : Int32) (0 : Int32) (fun _ => 0) (0 : Int32) h _ _ hP hD hS _ hl
abbrev Q_X8_thrown (dC : Nat → ClassId) (dI : Nat → Nat → Nat) (cI : ClassId) (h0 h0_1 h0_2 h0_3 h0_4 h0_5 h0_6 h0_7 : Nat) (s0 : ModS) (A : Nat → Prop) (post : Int32 → Prop) : Array Value → State → Outcome → State → Prop := va_Qi (fun (r : Int32) (_ : Unit) => post r) (fun _ _ => True) A
abbrev rm_X8_thrown : Room := { frames := 0, cells := 0, slots := 0, locals := 0 }
set_option maxHeartbeats 4000000 in
set_option maxRecDepth 100000 in
theorem c_X8_thrown (l : Launch) (dC : Nat → ClassId) (dI : Nat → Nat → Nat) (cI : ClassId) (h0 h0_1 h0_2 h0_3 h0_4 h0_5 h0_6 h0_7 : Nat) (sz : Nat) (s0 : ModS) (post : Int32 → Prop) (h : P_X8_thrown s0 post) : Met l yX8_thrown wsX8_thrown rm_X8_thrown (va_Pc [.ref h0] (cpre (dC, dI) [(cI, .int)] [(h0, .inr (8, [.int s0.terms, .ref h0_1, .ref h0_2, .int s0.triples, .ref h0_3, .int s0.patterns, .ref h0_4, .ref h0_5, .int s0.found, .ref h0_6, .int s0.kept, .int s0.keptVariables, .ref h0_7, .int s0.thrown])), (h0_1, .inl (cI, 100, .inl s0.number)), (h0_2, .inl (cI, 40, .inl s0.term)), (h0_3, .inl (cI, 180, .inl s0.store)), (h0_4, .inl (cI, 9, .inl s0.query)), (h0_5, .inl (cI, 16, .inl s0.bound)), (h0_6, .inl (cI, 2000, .inl s0.work)), (h0_7, .inl (cI, 2000, .inl s0.answers))] sz)) (Q_X8_thrown dC dI cI h0 h0_1 h0_2 h0_3 h0_4 h0_5 h0_6 h0_7 s0 (va_A [] sz) post) 0 0 (va_A [] sz) := by
  refine Met.ofW (cc := cX8_thrown) (maxL := 1) (ret := (some .int)) (by decide) rfl ?_
  intro p e s m args below meth c s₁ B hml hv
  obtain ⟨rfl, hsz, hP, hK, hD0, hN⟩ := hv
  have hx := B.exec
  have hb := B.bytes
  have hr := B.returns
  have hts := atoms_spec (ws := wsX8_thrown) B.pre
  have hown : s.vm.findClass RX8 = some m.cls := findClass_of_methodNamed B.named
  have hlocks := B.notSynchronized
  subst hsz
  have hD := hD0
  generalize hAe : va_A [] s.heap.size = A
  have hA : ∀ q : Nat, s.heap.size ≤ q → A q := fun q h => by rw [← hAe]; exact Or.inr h
  clear hAe hD0
  obtain ⟨s0_terms, s0_number, s0_term, s0_triples, s0_store, s0_patterns, s0_query, s0_bound, s0_found, s0_work, s0_kept, s0_keptVariables, s0_answers, s0_thrown⟩ := s0
  have hS : va_S A s.heap s.heap [] := va_S.rf
  have hP : va_P (dC, dI) vwCl [(h0, .inr (8, [.int s0_terms, .ref h0_1, .ref h0_2, .int s0_triples, .ref h0_3, .int s0_patterns, .ref h0_4, .ref h0_5, .int s0_found, .ref h0_6, .int s0_kept, .int s0_keptVariables, .ref h0_7, .int s0_thrown])), (h0_1, .inl (cI, 100, .inl s0_number)), (h0_2, .inl (cI, 40, .inl s0_term)), (h0_3, .inl (cI, 180, .inl s0_store)), (h0_4, .inl (cI, 9, .inl s0_query)), (h0_5, .inl (cI, 16, .inl s0_bound)), (h0_6, .inl (cI, 2000, .inl s0_work)), (h0_7, .inl (cI, 2000, .inl s0_answers))] s.heap := hP
  have hD : va_D (fun _ : Nat => True) [(h0, .inr (8, [.int s0_terms, .ref h0_1, .ref h0_2, .int s0_triples, .ref h0_3, .int s0_patterns, .ref h0_4, .ref h0_5, .int s0_found, .ref h0_6, .int s0_kept, .int s0_keptVariables, .ref h0_7, .int s0_thrown])), (h0_1, .inl (cI, 100, .inl s0_number)), (h0_2, .inl (cI, 40, .inl s0_term)), (h0_3, .inl (cI, 180, .inl s0_store)), (h0_4, .inl (cI, 9, .inl s0_query)), (h0_5, .inl (cI, 16, .inl s0_bound)), (h0_6, .inl (cI, 2000, .inl s0_work)), (h0_7, .inl (cI, 2000, .inl s0_answers))] := hD
  have hl := lv_entry ([.ref h0]) (n := 1) (Nat.le_of_ble_eq_true rfl)
  rw [lg_entry_eq]
  generalize (lg_sl ([.ref h0]) ++ List.replicate (1 - (lg_sl ([.ref h0])).length) Slot.unset).toArray = ls at hl ⊢
  have hl : lv_has ls 1 [(0, .ref h0)] := hl
  have hinX8 : ∀ w ∈ u_ws RX8 TX8 14, w ∈ wsX8_thrown := by decide +kernel
  refine lv_aload_n hx hb dX8_thrown_0 rfl (lv_at hl 0 rfl) ?_
  refine va_get (D := (dC, dI)) (ci := 8) (v := .int s0_thrown) (C := RX8) (T := TX8) (N := 14) hx hb hts (hinX8) hown hK hP 0 rfl rfl 13 (by decide) (hts (.fieldLink RX8 31 "TripleJoinsModel" "thrown" "I") (by decide +kernel)) (fun _ h9 => h9) rfl dX8_thrown_1 ?_
  exact W.iret (v := s0_thrown) hx hb hr (fun t ht hW => ⟨⟨s0_thrown, (), rfl, h, trivial⟩, hS.F ht⟩) hS.2.2 dX8_thrown_4
abbrev Q_X8_isIn (dC : Nat → ClassId) (dI : Nat → Nat → Nat) (cI : ClassId)   (A : Nat → Prop) (post : Int32 → Prop) : Array Value → State → Outcome → State → Prop := va_Qi (fun (r : Int32) (_ : Unit) => post r) (fun _ _ => True) A
abbrev rm_X8_isIn : Room := { frames := 0, cells := 0, slots := 0, locals := 0 }
set_option maxHeartbeats 4000000 in
set_option maxRecDepth 100000 in
theorem c_X8_isIn (l : Launch) (dC : Nat → ClassId) (dI : Nat → Nat → Nat) (cI : ClassId)  (sz : Nat) (v0 : Int32) (v1 : Int32) (v2 : Int32) (post : Int32 → Prop) (h : P_X8_isIn v0 v1 v2 post) : Met l yX8_isIn wsX8_isIn rm_X8_isIn (va_Pc [.int v0, .int v1, .int v2] (cpre (dC, dI) [(cI, .int)] [] sz)) (Q_X8_isIn dC dI cI (va_A [] sz) post) 0 0 (va_A [] sz) := by
  refine Met.ofW (cc := cX8_isIn) (maxL := 3) (ret := (some .boolean)) (by decide) rfl ?_
  intro p e s m args below meth c s₁ B hml hv
  obtain ⟨rfl, hsz, hP, hK, hD0, hN⟩ := hv
  have hx := B.exec
  have hb := B.bytes
  have hr := B.returns
  have hts := atoms_spec (ws := wsX8_isIn) B.pre
  have hown : s.vm.findClass RX8 = some m.cls := findClass_of_methodNamed B.named
  have hlocks := B.notSynchronized
  subst hsz
  have hD := hD0
  generalize hAe : va_A [] s.heap.size = A
  have hA : ∀ q : Nat, s.heap.size ≤ q → A q := fun q h => by rw [← hAe]; exact Or.inr h
  clear hAe hD0
  have hS : va_S A s.heap s.heap [] := va_S.rf
  have hP : va_P (dC, dI) vwCl [] s.heap := hP
  have hD : va_D (fun _ : Nat => True) [] := hD
  have hl := lv_entry ([.int v0, .int v1, .int v2]) (n := 3) (Nat.le_of_ble_eq_true rfl)
  rw [lg_entry_eq]
  generalize (lg_sl ([.int v0, .int v1, .int v2]) ++ List.replicate (3 - (lg_sl ([.int v0, .int v1, .int v2])).length) Slot.unset).toArray = ls at hl ⊢
  have hl : lv_has ls 3 [(0, .int v0), (1, .int v1), (2, .int v2)] := hl
  refine lv_iload_n hx hb dX8_isIn_0 rfl (lv_at hl 0 rfl) ?_
  refine lv_iload_n hx hb dX8_isIn_1 rfl (lv_at hl 1 rfl) ?_
  obtain ⟨ht_, hf_⟩ := h
  refine lv_icmp_lt (tgt := 14) hx hb dX8_isIn_2 (by decide) (fun c_1 => ?_) (fun c_1 => ?_)
  · have h := ht_ c_1
    refine lv_iconst (v := (0 : Int32)) hx hb dX8_isIn_14 (by decide) ?_
    exact W.zret (v := (0 : Int32)) hx hb hr (by decide +kernel) (fun t ht hW => ⟨⟨(0 : Int32), (), rfl, h, trivial⟩, hS.F ht⟩) hS.2.2 dX8_isIn_15
  · have h := hf_ c_1
    refine lv_iload_n hx hb dX8_isIn_5 rfl (lv_at hl 0 rfl) ?_
    refine lv_iload_n hx hb dX8_isIn_6 rfl (lv_at hl 2 rfl) ?_
    obtain ⟨ht_, hf_⟩ := h
    refine lv_icmp_gt (tgt := 14) hx hb dX8_isIn_7 (by decide) (fun c_2 => ?_) (fun c_2 => ?_)
    · have h := ht_ c_2
      refine lv_iconst (v := (0 : Int32)) hx hb dX8_isIn_14 (by decide) ?_
      exact W.zret (v := (0 : Int32)) hx hb hr (by decide +kernel) (fun t ht hW => ⟨⟨(0 : Int32), (), rfl, h, trivial⟩, hS.F ht⟩) hS.2.2 dX8_isIn_15
    · have h := hf_ c_2
      refine lv_iconst (v := (1 : Int32)) hx hb dX8_isIn_10 (by decide) ?_
      refine lv_goto (tgt := 15) hx hb dX8_isIn_11 (by decide) ?_
      exact W.zret (v := (1 : Int32)) hx hb hr (by decide +kernel) (fun t ht hW => ⟨⟨(1 : Int32), (), rfl, h, trivial⟩, hS.F ht⟩) hS.2.2 dX8_isIn_15
abbrev Q_X8_areTerms (dC : Nat → ClassId) (dI : Nat → Nat → Nat) (cI : ClassId)   (A : Nat → Prop) (post : Int32 → Prop) : Array Value → State → Outcome → State → Prop := va_Qi (fun (r : Int32) (_ : Unit) => post r) (fun _ _ => True) A
abbrev rm_X8_areTerms : Room := { frames := 1, cells := 0, slots := 0, locals := 22 }
set_option maxHeartbeats 4000000 in
set_option maxRecDepth 100000 in
theorem c_X8_areTerms (l : Launch) (dC : Nat → ClassId) (dI : Nat → Nat → Nat) (cI : ClassId)  (sz : Nat) (v0 : Int32) (v1 : Int32) (v2 : Int32) (v3 : Int32) (post : Int32 → Prop) (h : P_X8_areTerms v0 v1 v2 v3 post) : Met l yX8_areTerms wsX8_areTerms rm_X8_areTerms (va_Pc [.int v0, .int v1, .int v2, .int v3] (cpre (dC, dI) [(cI, .int)] [] sz)) (Q_X8_areTerms dC dI cI (va_A [] sz) post) 0 0 (va_A [] sz) := by
  refine Met.ofW (cc := cX8_areTerms) (maxL := 4) (ret := (some .boolean)) (by decide) rfl ?_
  intro p e s m args below meth c s₁ B hml hv
  obtain ⟨rfl, hsz, hP, hK, hD0, hN⟩ := hv
  have hx := B.exec
  have hb := B.bytes
  have hr := B.returns
  have hts := atoms_spec (ws := wsX8_areTerms) B.pre
  have hown : s.vm.findClass RX8 = some m.cls := findClass_of_methodNamed B.named
  have hlocks := B.notSynchronized
  subst hsz
  have hD := hD0
  generalize hAe : va_A [] s.heap.size = A
  have hA : ∀ q : Nat, s.heap.size ≤ q → A q := fun q h => by rw [← hAe]; exact Or.inr h
  clear hAe hD0
  have hS : va_S A s.heap s.heap [] := va_S.rf
  have hP : va_P (dC, dI) vwCl [] s.heap := hP
  have hD : va_D (fun _ : Nat => True) [] := hD
  have hl := lv_entry ([.int v0, .int v1, .int v2, .int v3]) (n := 4) (Nat.le_of_ble_eq_true rfl)
  rw [lg_entry_eq]
  generalize (lg_sl ([.int v0, .int v1, .int v2, .int v3]) ++ List.replicate (4 - (lg_sl ([.int v0, .int v1, .int v2, .int v3])).length) Slot.unset).toArray = ls at hl ⊢
  have hl : lv_has ls 4 [(0, .int v0), (1, .int v1), (2, .int v2), (3, .int v3)] := hl
  refine lv_iload_n hx hb dX8_areTerms_0 rfl (lv_at hl 0 rfl) ?_
  refine lv_iload_n hx hb dX8_areTerms_1 rfl (lv_at hl 3 rfl) ?_
  refine lv_bipush (v := (99 : Int32)) hx hb dX8_areTerms_2 (by decide) ?_
  have hPc := hP.sub (ws' := []) [] rfl
  have hDc := hD.sub (ws' := []) [] (by decide) rfl
  have hFc := fr0 hA hS
  refine va_calli (va_runS (As := [.int v0, .int v3, .int (99 : Int32)]) (rest := []) ⟨hx, hb, hml, hown, hts⟩ (c_X8_isIn l dC dI cI  _ v0 v3 (99 : Int32) _ h) (va_cwS 3 hts gX8_areTerms_X8_isIn rfl rfl rfl (by decide +kernel) ⟨Nat.le_of_ble_eq_true rfl, Nat.le_of_ble_eq_true rfl⟩) (pb_S hPc hK hDc hN) rfl rfl hl.1 rfl (lv_room (Nat.le_of_ble_eq_true rfl)) dX8_areTerms_4 ⟨Nat.zero_le _, Nat.zero_le _⟩) hS (fun q _ h => hFc q h) hFc (fun r_2 u_1 t H locs ht hvm h hB hz1 hk1 hS => ?_)
  have hP := vaPk hP hk1
  obtain ⟨ht_, hf_⟩ := h
  refine lv_if_eq (tgt := 34) hx hb dX8_areTerms_7 (by decide) (fun c_3 => ?_) (fun c_3 => ?_)
  · have h := ht_ c_3
    refine lv_iconst (v := (0 : Int32)) hx hb dX8_areTerms_34 (by decide) ?_
    exact W.zret (v := (0 : Int32)) hx hb hr (by decide +kernel) (fun t ht hW => ⟨⟨(0 : Int32), (), rfl, h, trivial⟩, hS.F ht⟩) hS.2.2 dX8_areTerms_35
  · have h := hf_ c_3
    refine lv_iload_n hx hb dX8_areTerms_10 rfl (lv_at hl 1 rfl) ?_
    refine lv_iload_n hx hb dX8_areTerms_11 rfl (lv_at hl 3 rfl) ?_
    refine lv_bipush (v := (99 : Int32)) hx hb dX8_areTerms_12 (by decide) ?_
    have hPc := hP.sub (ws' := []) [] rfl
    have hDc := hD.sub (ws' := []) [] (by decide) rfl
    have hFc := fr0 hA hS
    refine va_calli (va_runS (As := [.int v1, .int v3, .int (99 : Int32)]) (rest := []) ⟨hx, hb, hml, hown, hts⟩ (c_X8_isIn l dC dI cI  _ v1 v3 (99 : Int32) _ h) (va_cwS 3 hts gX8_areTerms_X8_isIn rfl rfl rfl (by decide +kernel) ⟨Nat.le_of_ble_eq_true rfl, Nat.le_of_ble_eq_true rfl⟩) (pb_S hPc hK hDc hN) rfl rfl hl.1 rfl (lv_room (Nat.le_of_ble_eq_true rfl)) dX8_areTerms_14 ⟨Nat.zero_le _, Nat.zero_le _⟩) hS (fun q _ h => hFc q h) hFc (fun r_5 u_4 t H locs ht hvm h hB hz1 hk1 hS => ?_)
    have hP := vaPk hP hk1
    obtain ⟨ht_, hf_⟩ := h
    refine lv_if_eq (tgt := 34) hx hb dX8_areTerms_17 (by decide) (fun c_6 => ?_) (fun c_6 => ?_)
    · have h := ht_ c_6
      refine lv_iconst (v := (0 : Int32)) hx hb dX8_areTerms_34 (by decide) ?_
      exact W.zret (v := (0 : Int32)) hx hb hr (by decide +kernel) (fun t ht hW => ⟨⟨(0 : Int32), (), rfl, h, trivial⟩, hS.F ht⟩) hS.2.2 dX8_areTerms_35
    · have h := hf_ c_6
      refine lv_iload_n hx hb dX8_areTerms_20 rfl (lv_at hl 2 rfl) ?_
      refine lv_iload_n hx hb dX8_areTerms_21 rfl (lv_at hl 3 rfl) ?_
      refine lv_bipush (v := (99 : Int32)) hx hb dX8_areTerms_22 (by decide) ?_
      have hPc := hP.sub (ws' := []) [] rfl
      have hDc := hD.sub (ws' := []) [] (by decide) rfl
      have hFc := fr0 hA hS
      refine va_calli (va_runS (As := [.int v2, .int v3, .int (99 : Int32)]) (rest := []) ⟨hx, hb, hml, hown, hts⟩ (c_X8_isIn l dC dI cI  _ v2 v3 (99 : Int32) _ h) (va_cwS 3 hts gX8_areTerms_X8_isIn rfl rfl rfl (by decide +kernel) ⟨Nat.le_of_ble_eq_true rfl, Nat.le_of_ble_eq_true rfl⟩) (pb_S hPc hK hDc hN) rfl rfl hl.1 rfl (lv_room (Nat.le_of_ble_eq_true rfl)) dX8_areTerms_24 ⟨Nat.zero_le _, Nat.zero_le _⟩) hS (fun q _ h => hFc q h) hFc (fun r_8 u_7 t H locs ht hvm h hB hz1 hk1 hS => ?_)
      have hP := vaPk hP hk1
      obtain ⟨ht_, hf_⟩ := h
      refine lv_if_eq (tgt := 34) hx hb dX8_areTerms_27 (by decide) (fun c_9 => ?_) (fun c_9 => ?_)
      · have h := ht_ c_9
        refine lv_iconst (v := (0 : Int32)) hx hb dX8_areTerms_34 (by decide) ?_
        exact W.zret (v := (0 : Int32)) hx hb hr (by decide +kernel) (fun t ht hW => ⟨⟨(0 : Int32), (), rfl, h, trivial⟩, hS.F ht⟩) hS.2.2 dX8_areTerms_35
      · have h := hf_ c_9
        refine lv_iconst (v := (1 : Int32)) hx hb dX8_areTerms_30 (by decide) ?_
        refine lv_goto (tgt := 35) hx hb dX8_areTerms_31 (by decide) ?_
        exact W.zret (v := (1 : Int32)) hx hb hr (by decide +kernel) (fun t ht hW => ⟨⟨(1 : Int32), (), rfl, h, trivial⟩, hS.F ht⟩) hS.2.2 dX8_areTerms_35
abbrev Q_X8_find (dC : Nat → ClassId) (dI : Nat → Nat → Nat) (cI : ClassId) (h0 h0_1 h0_2 h0_3 h0_4 h0_5 h0_6 h0_7 : Nat) (s0 : ModS) (A : Nat → Prop) (post : Int32 → Prop) : Array Value → State → Outcome → State → Prop := va_Qi (fun (r : Int32) (_ : Unit) => post r) (fun _ _ => True) A
abbrev rm_X8_find : Room := { frames := 0, cells := 0, slots := 0, locals := 0 }
set_option maxHeartbeats 4000000 in
set_option maxRecDepth 100000 in
theorem c_X8_find (l : Launch) (dC : Nat → ClassId) (dI : Nat → Nat → Nat) (cI : ClassId) (h0 h0_1 h0_2 h0_3 h0_4 h0_5 h0_6 h0_7 : Nat) (sz : Nat) (s0 : ModS) (v1 : Int32) (v2 : Int32) (v3 : Int32) (post : Int32 → Prop) (h : P_X8_find s0 v1 v2 v3 post) : Met l yX8_find wsX8_find rm_X8_find (va_Pc [.ref h0, .int v1, .int v2, .int v3] (cpre (dC, dI) [(cI, .int)] [(h0, .inr (8, [.int s0.terms, .ref h0_1, .ref h0_2, .int s0.triples, .ref h0_3, .int s0.patterns, .ref h0_4, .ref h0_5, .int s0.found, .ref h0_6, .int s0.kept, .int s0.keptVariables, .ref h0_7, .int s0.thrown])), (h0_1, .inl (cI, 100, .inl s0.number)), (h0_2, .inl (cI, 40, .inl s0.term)), (h0_3, .inl (cI, 180, .inl s0.store)), (h0_4, .inl (cI, 9, .inl s0.query)), (h0_5, .inl (cI, 16, .inl s0.bound)), (h0_6, .inl (cI, 2000, .inl s0.work)), (h0_7, .inl (cI, 2000, .inl s0.answers))] sz)) (Q_X8_find dC dI cI h0 h0_1 h0_2 h0_3 h0_4 h0_5 h0_6 h0_7 s0 (va_A [] sz) post) 0 0 (va_A [] sz) := by
  refine Met.ofW (cc := cX8_find) (maxL := 6) (ret := (some .int)) (by decide) rfl ?_
  intro p e s m args below meth c s₁ B hml hv
  obtain ⟨rfl, hsz, hP, hK, hD0, hN⟩ := hv
  have hx := B.exec
  have hb := B.bytes
  have hr := B.returns
  have hts := atoms_spec (ws := wsX8_find) B.pre
  have hown : s.vm.findClass RX8 = some m.cls := findClass_of_methodNamed B.named
  have hlocks := B.notSynchronized
  subst hsz
  have hD := hD0
  generalize hAe : va_A [] s.heap.size = A
  have hA : ∀ q : Nat, s.heap.size ≤ q → A q := fun q h => by rw [← hAe]; exact Or.inr h
  clear hAe hD0
  obtain ⟨s0_terms, s0_number, s0_term, s0_triples, s0_store, s0_patterns, s0_query, s0_bound, s0_found, s0_work, s0_kept, s0_keptVariables, s0_answers, s0_thrown⟩ := s0
  have hS : va_S A s.heap s.heap [] := va_S.rf
  have hP : va_P (dC, dI) vwCl [(h0, .inr (8, [.int s0_terms, .ref h0_1, .ref h0_2, .int s0_triples, .ref h0_3, .int s0_patterns, .ref h0_4, .ref h0_5, .int s0_found, .ref h0_6, .int s0_kept, .int s0_keptVariables, .ref h0_7, .int s0_thrown])), (h0_1, .inl (cI, 100, .inl s0_number)), (h0_2, .inl (cI, 40, .inl s0_term)), (h0_3, .inl (cI, 180, .inl s0_store)), (h0_4, .inl (cI, 9, .inl s0_query)), (h0_5, .inl (cI, 16, .inl s0_bound)), (h0_6, .inl (cI, 2000, .inl s0_work)), (h0_7, .inl (cI, 2000, .inl s0_answers))] s.heap := hP
  have hD : va_D (fun _ : Nat => True) [(h0, .inr (8, [.int s0_terms, .ref h0_1, .ref h0_2, .int s0_triples, .ref h0_3, .int s0_patterns, .ref h0_4, .ref h0_5, .int s0_found, .ref h0_6, .int s0_kept, .int s0_keptVariables, .ref h0_7, .int s0_thrown])), (h0_1, .inl (cI, 100, .inl s0_number)), (h0_2, .inl (cI, 40, .inl s0_term)), (h0_3, .inl (cI, 180, .inl s0_store)), (h0_4, .inl (cI, 9, .inl s0_query)), (h0_5, .inl (cI, 16, .inl s0_bound)), (h0_6, .inl (cI, 2000, .inl s0_work)), (h0_7, .inl (cI, 2000, .inl s0_answers))] := hD
  have hl := lv_entry ([.ref h0, .int v1, .int v2, .int v3]) (n := 6) (Nat.le_of_ble_eq_true rfl)
  rw [lg_entry_eq]
  generalize (lg_sl ([.ref h0, .int v1, .int v2, .int v3]) ++ List.replicate (6 - (lg_sl ([.ref h0, .int v1, .int v2, .int v3])).length) Slot.unset).toArray = ls at hl ⊢
  have hl : lv_has ls 6 [(0, .ref h0), (1, .int v1), (2, .int v2), (3, .int v3)] := hl
  have hinX8 : ∀ w ∈ u_ws RX8 TX8 14, w ∈ wsX8_find := by decide +kernel
  refine lv_iconst (v := (-1 : Int32)) hx hb dX8_find_0 (by decide) ?_
  refine lv_istore (lv' := [(4, .int (-1 : Int32)), (0, .ref h0), (1, .int v1), (2, .int v2), (3, .int v3)]) hx hb dX8_find_1 hl (by decide) rfl (fun ls hl => ?_)
  refine lv_iconst (v := (0 : Int32)) hx hb dX8_find_3 (by decide) ?_
  refine lv_istore (lv' := [(5, .int (0 : Int32)), (4, .int (-1 : Int32)), (0, .ref h0), (1, .int v1), (2, .int v2), (3, .int v3)]) hx hb dX8_find_4 hl (by decide) rfl (fun ls hl => ?_)
  have hl : lv_has ls 6 [(0, .ref h0), (1, .int v1), (2, .int v2), (3, .int v3), (4, .int (-1 : Int32)), (5, .int (0 : Int32))] := lv_sub hl [2, 3, 4, 5, 1, 0] rfl
  obtain ⟨I_1, hI_1, n_1, h⟩ := h
  have loop_1 : ∀ (n_1 : Nat) (v4_2 : Int32) (v5_3 : Int32) (h : I_1 n_1 (v4_2, v5_3)) (H : Heap) (locs : List Loc) (hP : va_P (dC, dI) vwCl [(h0, .inr (8, [.int s0_terms, .ref h0_1, .ref h0_2, .int s0_triples, .ref h0_3, .int s0_patterns, .ref h0_4, .ref h0_5, .int s0_found, .ref h0_6, .int s0_kept, .int s0_keptVariables, .ref h0_7, .int s0_thrown])), (h0_1, .inl (cI, 100, .inl s0_number)), (h0_2, .inl (cI, 40, .inl s0_term)), (h0_3, .inl (cI, 180, .inl s0_store)), (h0_4, .inl (cI, 9, .inl s0_query)), (h0_5, .inl (cI, 16, .inl s0_bound)), (h0_6, .inl (cI, 2000, .inl s0_work)), (h0_7, .inl (cI, 2000, .inl s0_answers))] H) (hD : va_D (fun _ : Nat => True) [(h0, .inr (8, [.int s0_terms, .ref h0_1, .ref h0_2, .int s0_triples, .ref h0_3, .int s0_patterns, .ref h0_4, .ref h0_5, .int s0_found, .ref h0_6, .int s0_kept, .int s0_keptVariables, .ref h0_7, .int s0_thrown])), (h0_1, .inl (cI, 100, .inl s0_number)), (h0_2, .inl (cI, 40, .inl s0_term)), (h0_3, .inl (cI, 180, .inl s0_store)), (h0_4, .inl (cI, 9, .inl s0_query)), (h0_5, .inl (cI, 16, .inl s0_bound)), (h0_6, .inl (cI, 2000, .inl s0_work)), (h0_7, .inl (cI, 2000, .inl s0_answers))]) (hS : va_S A s.heap H locs) (ls : Array Slot) (hl : lv_has ls 6 [(0, .ref h0), (1, .int v1), (2, .int v2), (3, .int v3), (4, .int v4_2), (5, .int v5_3)]), W p l e rm_X8_find s m ([.ref h0, .int v1, .int v2, .int v3] : List Value).toArray below meth c H locs 0 0 (MQ below (Q_X8_find dC dI cI h0 h0_1 h0_2 h0_3 h0_4 h0_5 h0_6 h0_7 (s0_terms, s0_number, s0_term, s0_triples, s0_store, s0_patterns, s0_query, s0_bound, s0_found, s0_work, s0_kept, s0_keptVariables, s0_answers, s0_thrown) A post) (([.ref h0, .int v1, .int v2, .int v3] : List Value).toArray) s 0 0 A) (F0 m 6 ls []) := by
    intro n_1
    induction n_1 using Nat.strongRecOn with
    | ind n_1 ih_1 =>
      intro v4_2 v5_3 h H locs hP hD hS ls hl
      have h := hI_1 n_1 _ h
      refine lv_iload hx hb dX8_find_6 (lv_at hl 5 rfl) ?_
      refine lv_aload_n hx hb dX8_find_8 rfl (lv_at hl 0 rfl) ?_
      refine va_get (D := (dC, dI)) (ci := 8) (v := .int s0_triples) (C := RX8) (T := TX8) (N := 14) hx hb hts (hinX8) hown hK hP 0 rfl rfl 3 (by decide) (hts (.fieldLink RX8 39 "TripleJoinsModel" "triples" "I") (by decide +kernel)) (fun _ h9 => h9) rfl dX8_find_9 ?_
      obtain ⟨ht_, hf_⟩ := h
      refine lv_icmp_ge (tgt := 88) hx hb dX8_find_12 (by decide) (fun c_4 => ?_) (fun c_4 => ?_)
      · have h := ht_ c_4
        refine lv_iload hx hb dX8_find_88 (lv_at hl 4 rfl) ?_
        exact W.iret (v := v4_2) hx hb hr (fun t ht hW => ⟨⟨v4_2, (), rfl, h, trivial⟩, hS.F ht⟩) hS.2.2 dX8_find_90
      · have h := hf_ c_4
        refine lv_aload_n hx hb dX8_find_15 rfl (lv_at hl 0 rfl) ?_
        refine va_get (D := (dC, dI)) (ci := 8) (v := .ref h0_2) (C := RX8) (T := TX8) (N := 14) hx hb hts (hinX8) hown hK hP 0 rfl rfl 2 (by decide) (hts (.fieldLink RX8 13 "TripleJoinsModel" "term" "[I") (by decide +kernel)) (fun _ h9 => h9) rfl dX8_find_16 ?_
        refine lv_aload_n hx hb dX8_find_19 rfl (lv_at hl 0 rfl) ?_
        refine va_get (D := (dC, dI)) (ci := 8) (v := .ref h0_3) (C := RX8) (T := TX8) (N := 14) hx hb hts (hinX8) hown hK hP 0 rfl rfl 4 (by decide) (hts (.fieldLink RX8 16 "TripleJoinsModel" "store" "[I") (by decide +kernel)) (fun _ h9 => h9) rfl dX8_find_20 ?_
        refine lv_iconst (v := (3 : Int32)) hx hb dX8_find_23 (by decide) ?_
        refine lv_iload hx hb dX8_find_24 (lv_at hl 5 rfl) ?_
        refine lv_imul hx hb dX8_find_26 ?_
        obtain ⟨hin, h⟩ := h
        refine va_iald (n := 180) hx hb hK hP 3 0 rfl rfl hin dX8_find_27 ?_
        obtain ⟨hin, h⟩ := h
        refine va_iald (n := 40) hx hb hK hP 2 0 rfl rfl hin dX8_find_28 ?_
        refine lv_iload_n hx hb dX8_find_29 rfl (lv_at hl 1 rfl) ?_
        obtain ⟨ht_, hf_⟩ := h
        refine lv_icmp_ne (tgt := 78) hx hb dX8_find_30 (by decide) (fun c_5 => ?_) (fun c_5 => ?_)
        · have h := ht_ c_5
          refine lv_iload hx hb dX8_find_78 (lv_at hl 4 rfl) ?_
          refine lv_istore (lv' := [(4, .int v4_2), (0, .ref h0), (1, .int v1), (2, .int v2), (3, .int v3), (5, .int v5_3)]) hx hb dX8_find_80 hl (by decide) rfl (fun ls hl => ?_)
          refine lv_iinc (v := (v5_3 + (1 : Int32))) (lv' := [(5, .int (v5_3 + (1 : Int32))), (4, .int v4_2), (0, .ref h0), (1, .int v1), (2, .int v2), (3, .int v3)]) hx hb dX8_find_82 hl (k := 5) rfl rfl (by decide) rfl (fun ls hl => ?_)
          refine lv_goto (tgt := 6) hx hb dX8_find_85 (by decide) ?_
          have hl : lv_has ls 6 [(0, .ref h0), (1, .int v1), (2, .int v2), (3, .int v3), (4, .int v4_2), (5, .int (v5_3 + (1 : Int32)))] := lv_sub hl [2, 3, 4, 5, 1, 0] rfl
          obtain ⟨k_6, hk_7, h⟩ := h
          exact ih_1 k_6 hk_7 v4_2 (v5_3 + (1 : Int32)) h _ _ hP hD hS _ hl
        · have h := hf_ c_5
          refine lv_aload_n hx hb dX8_find_33 rfl (lv_at hl 0 rfl) ?_
          refine va_get (D := (dC, dI)) (ci := 8) (v := .ref h0_2) (C := RX8) (T := TX8) (N := 14) hx hb hts (hinX8) hown hK hP 0 rfl rfl 2 (by decide) (hts (.fieldLink RX8 13 "TripleJoinsModel" "term" "[I") (by decide +kernel)) (fun _ h9 => h9) rfl dX8_find_34 ?_
          refine lv_aload_n hx hb dX8_find_37 rfl (lv_at hl 0 rfl) ?_
          refine va_get (D := (dC, dI)) (ci := 8) (v := .ref h0_3) (C := RX8) (T := TX8) (N := 14) hx hb hts (hinX8) hown hK hP 0 rfl rfl 4 (by decide) (hts (.fieldLink RX8 16 "TripleJoinsModel" "store" "[I") (by decide +kernel)) (fun _ h9 => h9) rfl dX8_find_38 ?_
          refine lv_iconst (v := (3 : Int32)) hx hb dX8_find_41 (by decide) ?_
          refine lv_iload hx hb dX8_find_42 (lv_at hl 5 rfl) ?_
          refine lv_imul hx hb dX8_find_44 ?_
          refine lv_iconst (v := (1 : Int32)) hx hb dX8_find_45 (by decide) ?_
          refine lv_iadd hx hb dX8_find_46 ?_
          obtain ⟨hin, h⟩ := h
          refine va_iald (n := 180) hx hb hK hP 3 0 rfl rfl hin dX8_find_47 ?_
          obtain ⟨hin, h⟩ := h
          refine va_iald (n := 40) hx hb hK hP 2 0 rfl rfl hin dX8_find_48 ?_
          refine lv_iload_n hx hb dX8_find_49 rfl (lv_at hl 2 rfl) ?_
          obtain ⟨ht_, hf_⟩ := h
          refine lv_icmp_ne (tgt := 78) hx hb dX8_find_50 (by decide) (fun c_8 => ?_) (fun c_8 => ?_)
          · have h := ht_ c_8
            refine lv_iload hx hb dX8_find_78 (lv_at hl 4 rfl) ?_
            refine lv_istore (lv' := [(4, .int v4_2), (0, .ref h0), (1, .int v1), (2, .int v2), (3, .int v3), (5, .int v5_3)]) hx hb dX8_find_80 hl (by decide) rfl (fun ls hl => ?_)
            refine lv_iinc (v := (v5_3 + (1 : Int32))) (lv' := [(5, .int (v5_3 + (1 : Int32))), (4, .int v4_2), (0, .ref h0), (1, .int v1), (2, .int v2), (3, .int v3)]) hx hb dX8_find_82 hl (k := 5) rfl rfl (by decide) rfl (fun ls hl => ?_)
            refine lv_goto (tgt := 6) hx hb dX8_find_85 (by decide) ?_
            have hl : lv_has ls 6 [(0, .ref h0), (1, .int v1), (2, .int v2), (3, .int v3), (4, .int v4_2), (5, .int (v5_3 + (1 : Int32)))] := lv_sub hl [2, 3, 4, 5, 1, 0] rfl
            obtain ⟨k_9, hk_10, h⟩ := h
            exact ih_1 k_9 hk_10 v4_2 (v5_3 + (1 : Int32)) h _ _ hP hD hS _ hl
          · have h := hf_ c_8
            refine lv_aload_n hx hb dX8_find_53 rfl (lv_at hl 0 rfl) ?_
            refine va_get (D := (dC, dI)) (ci := 8) (v := .ref h0_2) (C := RX8) (T := TX8) (N := 14) hx hb hts (hinX8) hown hK hP 0 rfl rfl 2 (by decide) (hts (.fieldLink RX8 13 "TripleJoinsModel" "term" "[I") (by decide +kernel)) (fun _ h9 => h9) rfl dX8_find_54 ?_
            refine lv_aload_n hx hb dX8_find_57 rfl (lv_at hl 0 rfl) ?_
            refine va_get (D := (dC, dI)) (ci := 8) (v := .ref h0_3) (C := RX8) (T := TX8) (N := 14) hx hb hts (hinX8) hown hK hP 0 rfl rfl 4 (by decide) (hts (.fieldLink RX8 16 "TripleJoinsModel" "store" "[I") (by decide +kernel)) (fun _ h9 => h9) rfl dX8_find_58 ?_
            refine lv_iconst (v := (3 : Int32)) hx hb dX8_find_61 (by decide) ?_
            refine lv_iload hx hb dX8_find_62 (lv_at hl 5 rfl) ?_
            refine lv_imul hx hb dX8_find_64 ?_
            refine lv_iconst (v := (2 : Int32)) hx hb dX8_find_65 (by decide) ?_
            refine lv_iadd hx hb dX8_find_66 ?_
            obtain ⟨hin, h⟩ := h
            refine va_iald (n := 180) hx hb hK hP 3 0 rfl rfl hin dX8_find_67 ?_
            obtain ⟨hin, h⟩ := h
            refine va_iald (n := 40) hx hb hK hP 2 0 rfl rfl hin dX8_find_68 ?_
            refine lv_iload_n hx hb dX8_find_69 rfl (lv_at hl 3 rfl) ?_
            obtain ⟨ht_, hf_⟩ := h
            refine lv_icmp_ne (tgt := 78) hx hb dX8_find_70 (by decide) (fun c_11 => ?_) (fun c_11 => ?_)
            · have h := ht_ c_11
              refine lv_iload hx hb dX8_find_78 (lv_at hl 4 rfl) ?_
              refine lv_istore (lv' := [(4, .int v4_2), (0, .ref h0), (1, .int v1), (2, .int v2), (3, .int v3), (5, .int v5_3)]) hx hb dX8_find_80 hl (by decide) rfl (fun ls hl => ?_)
              refine lv_iinc (v := (v5_3 + (1 : Int32))) (lv' := [(5, .int (v5_3 + (1 : Int32))), (4, .int v4_2), (0, .ref h0), (1, .int v1), (2, .int v2), (3, .int v3)]) hx hb dX8_find_82 hl (k := 5) rfl rfl (by decide) rfl (fun ls hl => ?_)
              refine lv_goto (tgt := 6) hx hb dX8_find_85 (by decide) ?_
              have hl : lv_has ls 6 [(0, .ref h0), (1, .int v1), (2, .int v2), (3, .int v3), (4, .int v4_2), (5, .int (v5_3 + (1 : Int32)))] := lv_sub hl [2, 3, 4, 5, 1, 0] rfl
              obtain ⟨k_12, hk_13, h⟩ := h
              exact ih_1 k_12 hk_13 v4_2 (v5_3 + (1 : Int32)) h _ _ hP hD hS _ hl
            · have h := hf_ c_11
              refine lv_iload hx hb dX8_find_73 (lv_at hl 5 rfl) ?_
              refine lv_goto (tgt := 80) hx hb dX8_find_75 (by decide) ?_
              refine lv_istore (lv' := [(4, .int v5_3), (0, .ref h0), (1, .int v1), (2, .int v2), (3, .int v3), (5, .int v5_3)]) hx hb dX8_find_80 hl (by decide) rfl (fun ls hl => ?_)
              refine lv_iinc (v := (v5_3 + (1 : Int32))) (lv' := [(5, .int (v5_3 + (1 : Int32))), (4, .int v5_3), (0, .ref h0), (1, .int v1), (2, .int v2), (3, .int v3)]) hx hb dX8_find_82 hl (k := 5) rfl rfl (by decide) rfl (fun ls hl => ?_)
              refine lv_goto (tgt := 6) hx hb dX8_find_85 (by decide) ?_
              have hl : lv_has ls 6 [(0, .ref h0), (1, .int v1), (2, .int v2), (3, .int v3), (4, .int v5_3), (5, .int (v5_3 + (1 : Int32)))] := lv_sub hl [2, 3, 4, 5, 1, 0] rfl
              obtain ⟨k_14, hk_15, h⟩ := h
              exact ih_1 k_14 hk_15 v5_3 (v5_3 + (1 : Int32)) h _ _ hP hD hS _ hl
  exact loop_1 n_1 (-1 : Int32) (0 : Int32) h _ _ hP hD hS _ hl
abbrev Q_X8_numbered (dC : Nat → ClassId) (dI : Nat → Nat → Nat) (cI : ClassId) (h0 h0_1 h0_2 h0_3 h0_4 h0_5 h0_6 h0_7 : Nat) (s0 : ModS) (A : Nat → Prop) (post : Int32 → ModS → Prop) : Array Value → State → Outcome → State → Prop := va_Qi post (fun (u : ModS) (t : State) => va_P (dC, dI) vwCl [(h0, .inr (8, [.int u.terms, .ref h0_1, .ref h0_2, .int u.triples, .ref h0_3, .int u.patterns, .ref h0_4, .ref h0_5, .int u.found, .ref h0_6, .int u.kept, .int u.keptVariables, .ref h0_7, .int u.thrown])), (h0_1, .inl (cI, 100, .inl u.number)), (h0_2, .inl (cI, 40, .inl u.term)), (h0_3, .inl (cI, 180, .inl u.store)), (h0_4, .inl (cI, 9, .inl u.query)), (h0_5, .inl (cI, 16, .inl u.bound)), (h0_6, .inl (cI, 2000, .inl u.work)), (h0_7, .inl (cI, 2000, .inl u.answers))] t.heap ∧ va_D A [(h0, .inr (8, [.int u.terms, .ref h0_1, .ref h0_2, .int u.triples, .ref h0_3, .int u.patterns, .ref h0_4, .ref h0_5, .int u.found, .ref h0_6, .int u.kept, .int u.keptVariables, .ref h0_7, .int u.thrown])), (h0_1, .inl (cI, 100, .inl u.number)), (h0_2, .inl (cI, 40, .inl u.term)), (h0_3, .inl (cI, 180, .inl u.store)), (h0_4, .inl (cI, 9, .inl u.query)), (h0_5, .inl (cI, 16, .inl u.bound)), (h0_6, .inl (cI, 2000, .inl u.work)), (h0_7, .inl (cI, 2000, .inl u.answers))]) A
abbrev rm_X8_numbered : Room := { frames := 0, cells := 0, slots := 0, locals := 0 }
set_option maxHeartbeats 4000000 in
set_option maxRecDepth 100000 in
theorem c_X8_numbered (l : Launch) (dC : Nat → ClassId) (dI : Nat → Nat → Nat) (cI : ClassId) (h0 h0_1 h0_2 h0_3 h0_4 h0_5 h0_6 h0_7 : Nat) (sz : Nat) (s0 : ModS) (v1 : Int32) (post : Int32 → ModS → Prop) (h : P_X8_numbered s0 v1 post) : Met l yX8_numbered wsX8_numbered rm_X8_numbered (va_Pc [.ref h0, .int v1] (cpre (dC, dI) [(cI, .int)] [(h0, .inr (8, [.int s0.terms, .ref h0_1, .ref h0_2, .int s0.triples, .ref h0_3, .int s0.patterns, .ref h0_4, .ref h0_5, .int s0.found, .ref h0_6, .int s0.kept, .int s0.keptVariables, .ref h0_7, .int s0.thrown])), (h0_1, .inl (cI, 100, .inl s0.number)), (h0_2, .inl (cI, 40, .inl s0.term)), (h0_3, .inl (cI, 180, .inl s0.store)), (h0_4, .inl (cI, 9, .inl s0.query)), (h0_5, .inl (cI, 16, .inl s0.bound)), (h0_6, .inl (cI, 2000, .inl s0.work)), (h0_7, .inl (cI, 2000, .inl s0.answers))] sz)) (Q_X8_numbered dC dI cI h0 h0_1 h0_2 h0_3 h0_4 h0_5 h0_6 h0_7 s0 (va_A [(h0, .inr (8, [.int s0.terms, .ref h0_1, .ref h0_2, .int s0.triples, .ref h0_3, .int s0.patterns, .ref h0_4, .ref h0_5, .int s0.found, .ref h0_6, .int s0.kept, .int s0.keptVariables, .ref h0_7, .int s0.thrown])), (h0_1, .inl (cI, 100, .inl s0.number)), (h0_2, .inl (cI, 40, .inl s0.term)), (h0_3, .inl (cI, 180, .inl s0.store)), (h0_4, .inl (cI, 9, .inl s0.query)), (h0_5, .inl (cI, 16, .inl s0.bound)), (h0_6, .inl (cI, 2000, .inl s0.work)), (h0_7, .inl (cI, 2000, .inl s0.answers))] sz) post) 0 0 (va_A [(h0, .inr (8, [.int s0.terms, .ref h0_1, .ref h0_2, .int s0.triples, .ref h0_3, .int s0.patterns, .ref h0_4, .ref h0_5, .int s0.found, .ref h0_6, .int s0.kept, .int s0.keptVariables, .ref h0_7, .int s0.thrown])), (h0_1, .inl (cI, 100, .inl s0.number)), (h0_2, .inl (cI, 40, .inl s0.term)), (h0_3, .inl (cI, 180, .inl s0.store)), (h0_4, .inl (cI, 9, .inl s0.query)), (h0_5, .inl (cI, 16, .inl s0.bound)), (h0_6, .inl (cI, 2000, .inl s0.work)), (h0_7, .inl (cI, 2000, .inl s0.answers))] sz) := by
  refine Met.ofW (cc := cX8_numbered) (maxL := 2) (ret := (some .int)) (by decide) rfl ?_
  intro p e s m args below meth c s₁ B hml hv
  obtain ⟨rfl, hsz, hP, hK, hD0, hN⟩ := hv
  have hx := B.exec
  have hb := B.bytes
  have hr := B.returns
  have hts := atoms_spec (ws := wsX8_numbered) B.pre
  have hown : s.vm.findClass RX8 = some m.cls := findClass_of_methodNamed B.named
  have hlocks := B.notSynchronized
  subst hsz
  have hD := hD0.self (sz := s.heap.size)
  generalize hAe : va_A [(h0, .inr (8, [.int s0.terms, .ref h0_1, .ref h0_2, .int s0.triples, .ref h0_3, .int s0.patterns, .ref h0_4, .ref h0_5, .int s0.found, .ref h0_6, .int s0.kept, .int s0.keptVariables, .ref h0_7, .int s0.thrown])), (h0_1, .inl (cI, 100, .inl s0.number)), (h0_2, .inl (cI, 40, .inl s0.term)), (h0_3, .inl (cI, 180, .inl s0.store)), (h0_4, .inl (cI, 9, .inl s0.query)), (h0_5, .inl (cI, 16, .inl s0.bound)), (h0_6, .inl (cI, 2000, .inl s0.work)), (h0_7, .inl (cI, 2000, .inl s0.answers))] s.heap.size = A at hD ⊢
  have hA : ∀ q : Nat, s.heap.size ≤ q → A q := fun q h => by rw [← hAe]; exact Or.inr h
  clear hAe hD0
  obtain ⟨s0_terms, s0_number, s0_term, s0_triples, s0_store, s0_patterns, s0_query, s0_bound, s0_found, s0_work, s0_kept, s0_keptVariables, s0_answers, s0_thrown⟩ := s0
  have hS : va_S A s.heap s.heap [] := va_S.rf
  have hP : va_P (dC, dI) vwCl [(h0, .inr (8, [.int s0_terms, .ref h0_1, .ref h0_2, .int s0_triples, .ref h0_3, .int s0_patterns, .ref h0_4, .ref h0_5, .int s0_found, .ref h0_6, .int s0_kept, .int s0_keptVariables, .ref h0_7, .int s0_thrown])), (h0_1, .inl (cI, 100, .inl s0_number)), (h0_2, .inl (cI, 40, .inl s0_term)), (h0_3, .inl (cI, 180, .inl s0_store)), (h0_4, .inl (cI, 9, .inl s0_query)), (h0_5, .inl (cI, 16, .inl s0_bound)), (h0_6, .inl (cI, 2000, .inl s0_work)), (h0_7, .inl (cI, 2000, .inl s0_answers))] s.heap := hP
  have hD : va_D A [(h0, .inr (8, [.int s0_terms, .ref h0_1, .ref h0_2, .int s0_triples, .ref h0_3, .int s0_patterns, .ref h0_4, .ref h0_5, .int s0_found, .ref h0_6, .int s0_kept, .int s0_keptVariables, .ref h0_7, .int s0_thrown])), (h0_1, .inl (cI, 100, .inl s0_number)), (h0_2, .inl (cI, 40, .inl s0_term)), (h0_3, .inl (cI, 180, .inl s0_store)), (h0_4, .inl (cI, 9, .inl s0_query)), (h0_5, .inl (cI, 16, .inl s0_bound)), (h0_6, .inl (cI, 2000, .inl s0_work)), (h0_7, .inl (cI, 2000, .inl s0_answers))] := hD
  have hl := lv_entry ([.ref h0, .int v1]) (n := 2) (Nat.le_of_ble_eq_true rfl)
  rw [lg_entry_eq]
  generalize (lg_sl ([.ref h0, .int v1]) ++ List.replicate (2 - (lg_sl ([.ref h0, .int v1])).length) Slot.unset).toArray = ls at hl ⊢
  have hl : lv_has ls 2 [(0, .ref h0), (1, .int v1)] := hl
  have hinX8 : ∀ w ∈ u_ws RX8 TX8 14, w ∈ wsX8_numbered := by decide +kernel
  refine lv_aload_n hx hb dX8_numbered_0 rfl (lv_at hl 0 rfl) ?_
  refine va_get (D := (dC, dI)) (ci := 8) (v := .ref h0_1) (C := RX8) (T := TX8) (N := 14) hx hb hts (hinX8) hown hK hP 0 rfl rfl 1 (by decide) (hts (.fieldLink RX8 7 "TripleJoinsModel" "number" "[I") (by decide +kernel)) (fun _ h9 => h9) rfl dX8_numbered_1 ?_
  refine lv_iload_n hx hb dX8_numbered_4 rfl (lv_at hl 1 rfl) ?_
  obtain ⟨hin, h⟩ := h
  refine va_iald (n := 100) hx hb hK hP 1 0 rfl rfl hin dX8_numbered_5 ?_
  obtain ⟨ht_, hf_⟩ := h
  refine lv_if_ge (tgt := 39) hx hb dX8_numbered_6 (by decide) (fun c_1 => ?_) (fun c_1 => ?_)
  · have h := ht_ c_1
    refine lv_aload_n hx hb dX8_numbered_39 rfl (lv_at hl 0 rfl) ?_
    refine va_get (D := (dC, dI)) (ci := 8) (v := .ref h0_1) (C := RX8) (T := TX8) (N := 14) hx hb hts (hinX8) hown hK hP 0 rfl rfl 1 (by decide) (hts (.fieldLink RX8 7 "TripleJoinsModel" "number" "[I") (by decide +kernel)) (fun _ h9 => h9) rfl dX8_numbered_40 ?_
    refine lv_iload_n hx hb dX8_numbered_43 rfl (lv_at hl 1 rfl) ?_
    obtain ⟨hin, h⟩ := h
    refine va_iald (n := 100) hx hb hK hP 1 0 rfl rfl hin dX8_numbered_44 ?_
    exact W.iret (v := (s0_number (v1).toNatClampNeg)) hx hb hr (fun t ht hW => ⟨⟨(s0_number (v1).toNatClampNeg), (s0_terms, s0_number, s0_term, s0_triples, s0_store, s0_patterns, s0_query, s0_bound, s0_found, s0_work, s0_kept, s0_keptVariables, s0_answers, s0_thrown), rfl, h, ⟨by rw [ht]; exact hP, hD⟩⟩, hS.F ht⟩) hS.2.2 dX8_numbered_45
  · have h := hf_ c_1
    refine lv_aload_n hx hb dX8_numbered_9 rfl (lv_at hl 0 rfl) ?_
    refine va_get (D := (dC, dI)) (ci := 8) (v := .ref h0_1) (C := RX8) (T := TX8) (N := 14) hx hb hts (hinX8) hown hK hP 0 rfl rfl 1 (by decide) (hts (.fieldLink RX8 7 "TripleJoinsModel" "number" "[I") (by decide +kernel)) (fun _ h9 => h9) rfl dX8_numbered_10 ?_
    refine lv_iload_n hx hb dX8_numbered_13 rfl (lv_at hl 1 rfl) ?_
    refine lv_aload_n hx hb dX8_numbered_14 rfl (lv_at hl 0 rfl) ?_
    refine va_get (D := (dC, dI)) (ci := 8) (v := .int s0_terms) (C := RX8) (T := TX8) (N := 14) hx hb hts (hinX8) hown hK hP 0 rfl rfl 0 (by decide) (hts (.fieldLink RX8 42 "TripleJoinsModel" "terms" "I") (by decide +kernel)) (fun _ h9 => h9) rfl dX8_numbered_15 ?_
    obtain ⟨hin, h⟩ := h
    refine va_iast (n := 100) hx hb hK hP hD hS 1 0 rfl rfl hin dX8_numbered_18 (fun H locs hP hD hS => ?_)
    have hP : va_P (dC, dI) vwCl [(h0, .inr (8, [.int s0_terms, .ref h0_1, .ref h0_2, .int s0_triples, .ref h0_3, .int s0_patterns, .ref h0_4, .ref h0_5, .int s0_found, .ref h0_6, .int s0_kept, .int s0_keptVariables, .ref h0_7, .int s0_thrown])), (h0_1, .inl (cI, 100, .inl (upd s0_number (v1).toNatClampNeg s0_terms))), (h0_2, .inl (cI, 40, .inl s0_term)), (h0_3, .inl (cI, 180, .inl s0_store)), (h0_4, .inl (cI, 9, .inl s0_query)), (h0_5, .inl (cI, 16, .inl s0_bound)), (h0_6, .inl (cI, 2000, .inl s0_work)), (h0_7, .inl (cI, 2000, .inl s0_answers))] _ := hP
    have hD : va_D A [(h0, .inr (8, [.int s0_terms, .ref h0_1, .ref h0_2, .int s0_triples, .ref h0_3, .int s0_patterns, .ref h0_4, .ref h0_5, .int s0_found, .ref h0_6, .int s0_kept, .int s0_keptVariables, .ref h0_7, .int s0_thrown])), (h0_1, .inl (cI, 100, .inl (upd s0_number (v1).toNatClampNeg s0_terms))), (h0_2, .inl (cI, 40, .inl s0_term)), (h0_3, .inl (cI, 180, .inl s0_store)), (h0_4, .inl (cI, 9, .inl s0_query)), (h0_5, .inl (cI, 16, .inl s0_bound)), (h0_6, .inl (cI, 2000, .inl s0_work)), (h0_7, .inl (cI, 2000, .inl s0_answers))] := hD
    refine lv_aload_n hx hb dX8_numbered_19 rfl (lv_at hl 0 rfl) ?_
    refine va_get (D := (dC, dI)) (ci := 8) (v := .ref h0_2) (C := RX8) (T := TX8) (N := 14) hx hb hts (hinX8) hown hK hP 0 rfl rfl 2 (by decide) (hts (.fieldLink RX8 13 "TripleJoinsModel" "term" "[I") (by decide +kernel)) (fun _ h9 => h9) rfl dX8_numbered_20 ?_
    refine lv_aload_n hx hb dX8_numbered_23 rfl (lv_at hl 0 rfl) ?_
    refine va_get (D := (dC, dI)) (ci := 8) (v := .int s0_terms) (C := RX8) (T := TX8) (N := 14) hx hb hts (hinX8) hown hK hP 0 rfl rfl 0 (by decide) (hts (.fieldLink RX8 42 "TripleJoinsModel" "terms" "I") (by decide +kernel)) (fun _ h9 => h9) rfl dX8_numbered_24 ?_
    refine lv_iload_n hx hb dX8_numbered_27 rfl (lv_at hl 1 rfl) ?_
    obtain ⟨hin, h⟩ := h
    refine va_iast (n := 40) hx hb hK hP hD hS 2 0 rfl rfl hin dX8_numbered_28 (fun H locs hP hD hS => ?_)
    have hP : va_P (dC, dI) vwCl [(h0, .inr (8, [.int s0_terms, .ref h0_1, .ref h0_2, .int s0_triples, .ref h0_3, .int s0_patterns, .ref h0_4, .ref h0_5, .int s0_found, .ref h0_6, .int s0_kept, .int s0_keptVariables, .ref h0_7, .int s0_thrown])), (h0_1, .inl (cI, 100, .inl (upd s0_number (v1).toNatClampNeg s0_terms))), (h0_2, .inl (cI, 40, .inl (upd s0_term (s0_terms).toNatClampNeg v1))), (h0_3, .inl (cI, 180, .inl s0_store)), (h0_4, .inl (cI, 9, .inl s0_query)), (h0_5, .inl (cI, 16, .inl s0_bound)), (h0_6, .inl (cI, 2000, .inl s0_work)), (h0_7, .inl (cI, 2000, .inl s0_answers))] _ := hP
    have hD : va_D A [(h0, .inr (8, [.int s0_terms, .ref h0_1, .ref h0_2, .int s0_triples, .ref h0_3, .int s0_patterns, .ref h0_4, .ref h0_5, .int s0_found, .ref h0_6, .int s0_kept, .int s0_keptVariables, .ref h0_7, .int s0_thrown])), (h0_1, .inl (cI, 100, .inl (upd s0_number (v1).toNatClampNeg s0_terms))), (h0_2, .inl (cI, 40, .inl (upd s0_term (s0_terms).toNatClampNeg v1))), (h0_3, .inl (cI, 180, .inl s0_store)), (h0_4, .inl (cI, 9, .inl s0_query)), (h0_5, .inl (cI, 16, .inl s0_bound)), (h0_6, .inl (cI, 2000, .inl s0_work)), (h0_7, .inl (cI, 2000, .inl s0_answers))] := hD
    refine lv_aload_n hx hb dX8_numbered_29 rfl (lv_at hl 0 rfl) ?_
    refine lv_dup hx hb dX8_numbered_30 rfl ?_
    refine va_get (D := (dC, dI)) (ci := 8) (v := .int s0_terms) (C := RX8) (T := TX8) (N := 14) hx hb hts (hinX8) hown hK hP 0 rfl rfl 0 (by decide) (hts (.fieldLink RX8 42 "TripleJoinsModel" "terms" "I") (by decide +kernel)) (fun _ h9 => h9) rfl dX8_numbered_31 ?_
    refine lv_iconst (v := (1 : Int32)) hx hb dX8_numbered_34 (by decide) ?_
    refine lv_iadd hx hb dX8_numbered_35 ?_
    refine va_put (D := (dC, dI)) (ci := 8) (v := .int (s0_terms + (1 : Int32))) (ty := .int) (C := RX8) (T := TX8) (N := 14) hx hb hts (hinX8) tyX8 tyX8_ok nmX8 hown hK hP hD hS 0 rfl rfl 0 (by decide) (hts (.fieldLink RX8 42 "TripleJoinsModel" "terms" "I") (by decide +kernel)) (fun _ h9 => h9) rfl (by decide +kernel) rfl rfl (Nat.le_of_ble_eq_true rfl) dX8_numbered_36 (fun H locs hP hD hS => ?_)
    have hP : va_P (dC, dI) vwCl [(h0, .inr (8, [.int (s0_terms + (1 : Int32)), .ref h0_1, .ref h0_2, .int s0_triples, .ref h0_3, .int s0_patterns, .ref h0_4, .ref h0_5, .int s0_found, .ref h0_6, .int s0_kept, .int s0_keptVariables, .ref h0_7, .int s0_thrown])), (h0_1, .inl (cI, 100, .inl (upd s0_number (v1).toNatClampNeg s0_terms))), (h0_2, .inl (cI, 40, .inl (upd s0_term (s0_terms).toNatClampNeg v1))), (h0_3, .inl (cI, 180, .inl s0_store)), (h0_4, .inl (cI, 9, .inl s0_query)), (h0_5, .inl (cI, 16, .inl s0_bound)), (h0_6, .inl (cI, 2000, .inl s0_work)), (h0_7, .inl (cI, 2000, .inl s0_answers))] _ := hP
    have hD : va_D A [(h0, .inr (8, [.int (s0_terms + (1 : Int32)), .ref h0_1, .ref h0_2, .int s0_triples, .ref h0_3, .int s0_patterns, .ref h0_4, .ref h0_5, .int s0_found, .ref h0_6, .int s0_kept, .int s0_keptVariables, .ref h0_7, .int s0_thrown])), (h0_1, .inl (cI, 100, .inl (upd s0_number (v1).toNatClampNeg s0_terms))), (h0_2, .inl (cI, 40, .inl (upd s0_term (s0_terms).toNatClampNeg v1))), (h0_3, .inl (cI, 180, .inl s0_store)), (h0_4, .inl (cI, 9, .inl s0_query)), (h0_5, .inl (cI, 16, .inl s0_bound)), (h0_6, .inl (cI, 2000, .inl s0_work)), (h0_7, .inl (cI, 2000, .inl s0_answers))] := hD
    refine lv_aload_n hx hb dX8_numbered_39 rfl (lv_at hl 0 rfl) ?_
    refine va_get (D := (dC, dI)) (ci := 8) (v := .ref h0_1) (C := RX8) (T := TX8) (N := 14) hx hb hts (hinX8) hown hK hP 0 rfl rfl 1 (by decide) (hts (.fieldLink RX8 7 "TripleJoinsModel" "number" "[I") (by decide +kernel)) (fun _ h9 => h9) rfl dX8_numbered_40 ?_
    refine lv_iload_n hx hb dX8_numbered_43 rfl (lv_at hl 1 rfl) ?_
    obtain ⟨hin, h⟩ := h
    refine va_iald (n := 100) hx hb hK hP 1 0 rfl rfl hin dX8_numbered_44 ?_
    exact W.iret (v := ((upd s0_number (v1).toNatClampNeg s0_terms) (v1).toNatClampNeg)) hx hb hr (fun t ht hW => ⟨⟨((upd s0_number (v1).toNatClampNeg s0_terms) (v1).toNatClampNeg), ((s0_terms + (1 : Int32)), (upd s0_number (v1).toNatClampNeg s0_terms), (upd s0_term (s0_terms).toNatClampNeg v1), s0_triples, s0_store, s0_patterns, s0_query, s0_bound, s0_found, s0_work, s0_kept, s0_keptVariables, s0_answers, s0_thrown), rfl, h, ⟨by rw [ht]; exact hP, hD⟩⟩, hS.F ht⟩) hS.2.2 dX8_numbered_45
abbrev Q_X8_unknown (dC : Nat → ClassId) (dI : Nat → Nat → Nat) (cI : ClassId) (h0 h0_1 h0_2 h0_3 h0_4 h0_5 h0_6 h0_7 : Nat) (s0 : ModS) (A : Nat → Prop) (post : Int32 → Prop) : Array Value → State → Outcome → State → Prop := va_Qi (fun (r : Int32) (_ : Unit) => post r) (fun _ _ => True) A
abbrev rm_X8_unknown : Room := { frames := 0, cells := 0, slots := 0, locals := 0 }
set_option maxHeartbeats 4000000 in
set_option maxRecDepth 100000 in
theorem c_X8_unknown (l : Launch) (dC : Nat → ClassId) (dI : Nat → Nat → Nat) (cI : ClassId) (h0 h0_1 h0_2 h0_3 h0_4 h0_5 h0_6 h0_7 : Nat) (sz : Nat) (s0 : ModS) (v1 : Int32) (v2 : Int32) (v3 : Int32) (post : Int32 → Prop) (h : P_X8_unknown s0 v1 v2 v3 post) : Met l yX8_unknown wsX8_unknown rm_X8_unknown (va_Pc [.ref h0, .int v1, .int v2, .int v3] (cpre (dC, dI) [(cI, .int)] [(h0, .inr (8, [.int s0.terms, .ref h0_1, .ref h0_2, .int s0.triples, .ref h0_3, .int s0.patterns, .ref h0_4, .ref h0_5, .int s0.found, .ref h0_6, .int s0.kept, .int s0.keptVariables, .ref h0_7, .int s0.thrown])), (h0_1, .inl (cI, 100, .inl s0.number)), (h0_2, .inl (cI, 40, .inl s0.term)), (h0_3, .inl (cI, 180, .inl s0.store)), (h0_4, .inl (cI, 9, .inl s0.query)), (h0_5, .inl (cI, 16, .inl s0.bound)), (h0_6, .inl (cI, 2000, .inl s0.work)), (h0_7, .inl (cI, 2000, .inl s0.answers))] sz)) (Q_X8_unknown dC dI cI h0 h0_1 h0_2 h0_3 h0_4 h0_5 h0_6 h0_7 s0 (va_A [] sz) post) 0 0 (va_A [] sz) := by
  refine Met.ofW (cc := cX8_unknown) (maxL := 5) (ret := (some .int)) (by decide) rfl ?_
  intro p e s m args below meth c s₁ B hml hv
  obtain ⟨rfl, hsz, hP, hK, hD0, hN⟩ := hv
  have hx := B.exec
  have hb := B.bytes
  have hr := B.returns
  have hts := atoms_spec (ws := wsX8_unknown) B.pre
  have hown : s.vm.findClass RX8 = some m.cls := findClass_of_methodNamed B.named
  have hlocks := B.notSynchronized
  subst hsz
  have hD := hD0
  generalize hAe : va_A [] s.heap.size = A
  have hA : ∀ q : Nat, s.heap.size ≤ q → A q := fun q h => by rw [← hAe]; exact Or.inr h
  clear hAe hD0
  obtain ⟨s0_terms, s0_number, s0_term, s0_triples, s0_store, s0_patterns, s0_query, s0_bound, s0_found, s0_work, s0_kept, s0_keptVariables, s0_answers, s0_thrown⟩ := s0
  have hS : va_S A s.heap s.heap [] := va_S.rf
  have hP : va_P (dC, dI) vwCl [(h0, .inr (8, [.int s0_terms, .ref h0_1, .ref h0_2, .int s0_triples, .ref h0_3, .int s0_patterns, .ref h0_4, .ref h0_5, .int s0_found, .ref h0_6, .int s0_kept, .int s0_keptVariables, .ref h0_7, .int s0_thrown])), (h0_1, .inl (cI, 100, .inl s0_number)), (h0_2, .inl (cI, 40, .inl s0_term)), (h0_3, .inl (cI, 180, .inl s0_store)), (h0_4, .inl (cI, 9, .inl s0_query)), (h0_5, .inl (cI, 16, .inl s0_bound)), (h0_6, .inl (cI, 2000, .inl s0_work)), (h0_7, .inl (cI, 2000, .inl s0_answers))] s.heap := hP
  have hD : va_D (fun _ : Nat => True) [(h0, .inr (8, [.int s0_terms, .ref h0_1, .ref h0_2, .int s0_triples, .ref h0_3, .int s0_patterns, .ref h0_4, .ref h0_5, .int s0_found, .ref h0_6, .int s0_kept, .int s0_keptVariables, .ref h0_7, .int s0_thrown])), (h0_1, .inl (cI, 100, .inl s0_number)), (h0_2, .inl (cI, 40, .inl s0_term)), (h0_3, .inl (cI, 180, .inl s0_store)), (h0_4, .inl (cI, 9, .inl s0_query)), (h0_5, .inl (cI, 16, .inl s0_bound)), (h0_6, .inl (cI, 2000, .inl s0_work)), (h0_7, .inl (cI, 2000, .inl s0_answers))] := hD
  have hl := lv_entry ([.ref h0, .int v1, .int v2, .int v3]) (n := 5) (Nat.le_of_ble_eq_true rfl)
  rw [lg_entry_eq]
  generalize (lg_sl ([.ref h0, .int v1, .int v2, .int v3]) ++ List.replicate (5 - (lg_sl ([.ref h0, .int v1, .int v2, .int v3])).length) Slot.unset).toArray = ls at hl ⊢
  have hl : lv_has ls 5 [(0, .ref h0), (1, .int v1), (2, .int v2), (3, .int v3)] := hl
  have hinX8 : ∀ w ∈ u_ws RX8 TX8 14, w ∈ wsX8_unknown := by decide +kernel
  have lab_37 : ∀ (x0_1 : Int32) (x1_2 : Int32) (h : P_X8_unknown_j37 (s0_terms, s0_number, s0_term, s0_triples, s0_store, s0_patterns, s0_query, s0_bound, s0_found, s0_work, s0_kept, s0_keptVariables, s0_answers, s0_thrown) v1 v2 v3 x0_1 x1_2 post) (H : Heap) (locs : List Loc) (hP : va_P (dC, dI) vwCl [(h0, .inr (8, [.int s0_terms, .ref h0_1, .ref h0_2, .int s0_triples, .ref h0_3, .int s0_patterns, .ref h0_4, .ref h0_5, .int s0_found, .ref h0_6, .int s0_kept, .int s0_keptVariables, .ref h0_7, .int s0_thrown])), (h0_1, .inl (cI, 100, .inl s0_number)), (h0_2, .inl (cI, 40, .inl s0_term)), (h0_3, .inl (cI, 180, .inl s0_store)), (h0_4, .inl (cI, 9, .inl s0_query)), (h0_5, .inl (cI, 16, .inl s0_bound)), (h0_6, .inl (cI, 2000, .inl s0_work)), (h0_7, .inl (cI, 2000, .inl s0_answers))] H) (hD : va_D (fun _ : Nat => True) [(h0, .inr (8, [.int s0_terms, .ref h0_1, .ref h0_2, .int s0_triples, .ref h0_3, .int s0_patterns, .ref h0_4, .ref h0_5, .int s0_found, .ref h0_6, .int s0_kept, .int s0_keptVariables, .ref h0_7, .int s0_thrown])), (h0_1, .inl (cI, 100, .inl s0_number)), (h0_2, .inl (cI, 40, .inl s0_term)), (h0_3, .inl (cI, 180, .inl s0_store)), (h0_4, .inl (cI, 9, .inl s0_query)), (h0_5, .inl (cI, 16, .inl s0_bound)), (h0_6, .inl (cI, 2000, .inl s0_work)), (h0_7, .inl (cI, 2000, .inl s0_answers))]) (hS : va_S A s.heap H locs) (ls : Array Slot) (hl : lv_has ls 5 [(0, .ref h0), (1, .int v1), (2, .int v2), (3, .int v3)]), W p l e rm_X8_unknown s m ([.ref h0, .int v1, .int v2, .int v3] : List Value).toArray below meth c H locs 0 0 (MQ below (Q_X8_unknown dC dI cI h0 h0_1 h0_2 h0_3 h0_4 h0_5 h0_6 h0_7 (s0_terms, s0_number, s0_term, s0_triples, s0_store, s0_patterns, s0_query, s0_bound, s0_found, s0_work, s0_kept, s0_keptVariables, s0_answers, s0_thrown) A post) (([.ref h0, .int v1, .int v2, .int v3] : List Value).toArray) s 0 0 A) (F0 m 37 ls [.int x0_1, .int x1_2]) := by
    intro x0_1 x1_2 h H locs hP hD hS ls hl
    refine lv_iadd hx hb dX8_unknown_37 ?_
    refine lv_istore (lv' := [(4, .int (x1_2 + x0_1)), (0, .ref h0), (1, .int v1), (2, .int v2), (3, .int v3)]) hx hb dX8_unknown_38 hl (by decide) rfl (fun ls hl => ?_)
    refine lv_iload hx hb dX8_unknown_40 (lv_at hl 0 rfl) ?_
    refine lv_aload_n hx hb dX8_unknown_42 rfl (lv_at hl 1 rfl) ?_
    refine va_get (D := (dC, dI)) (ci := 8) (v := .ref h0_1) (C := RX8) (T := TX8) (N := 14) hx hb hts (hinX8) hown hK hP 0 rfl rfl 1 (by decide) (hts (.fieldLink RX8 7 "TripleJoinsModel" "number" "[I") (by decide +kernel)) (fun _ h9 => h9) rfl dX8_unknown_43 ?_
    refine lv_iload_n hx hb dX8_unknown_46 rfl (lv_at hl 4 rfl) ?_
    obtain ⟨hin, h⟩ := h
    refine va_iald (n := 100) hx hb hK hP 1 0 rfl rfl hin dX8_unknown_47 ?_
    obtain ⟨ht_, hf_⟩ := h
    refine lv_if_ge (tgt := 65) hx hb dX8_unknown_48 (by decide) (fun c_3 => ?_) (fun c_3 => ?_)
    · have h := ht_ c_3
      refine lv_iconst (v := (0 : Int32)) hx hb dX8_unknown_65 (by decide) ?_
      refine lv_iadd hx hb dX8_unknown_66 ?_
      refine lv_istore (lv' := [(4, .int ((x1_2 + x0_1) + (0 : Int32))), (0, .ref h0), (1, .int v1), (2, .int v2), (3, .int v3)]) hx hb dX8_unknown_67 hl (by decide) rfl (fun ls hl => ?_)
      refine lv_iload hx hb dX8_unknown_69 (lv_at hl 0 rfl) ?_
      exact W.iret (v := ((x1_2 + x0_1) + (0 : Int32))) hx hb hr (fun t ht hW => ⟨⟨((x1_2 + x0_1) + (0 : Int32)), (), rfl, h, trivial⟩, hS.F ht⟩) hS.2.2 dX8_unknown_71
    · have h := hf_ c_3
      refine lv_iload_n hx hb dX8_unknown_51 rfl (lv_at hl 4 rfl) ?_
      refine lv_iload_n hx hb dX8_unknown_52 rfl (lv_at hl 2 rfl) ?_
      obtain ⟨ht_, hf_⟩ := h
      refine lv_icmp_eq (tgt := 65) hx hb dX8_unknown_53 (by decide) (fun c_4 => ?_) (fun c_4 => ?_)
      · have h := ht_ c_4
        refine lv_iconst (v := (0 : Int32)) hx hb dX8_unknown_65 (by decide) ?_
        refine lv_iadd hx hb dX8_unknown_66 ?_
        refine lv_istore (lv' := [(4, .int ((x1_2 + x0_1) + (0 : Int32))), (0, .ref h0), (1, .int v1), (2, .int v2), (3, .int v3)]) hx hb dX8_unknown_67 hl (by decide) rfl (fun ls hl => ?_)
        refine lv_iload hx hb dX8_unknown_69 (lv_at hl 0 rfl) ?_
        exact W.iret (v := ((x1_2 + x0_1) + (0 : Int32))) hx hb hr (fun t ht hW => ⟨⟨((x1_2 + x0_1) + (0 : Int32)), (), rfl, h, trivial⟩, hS.F ht⟩) hS.2.2 dX8_unknown_71
      · have h := hf_ c_4
        refine lv_iload_n hx hb dX8_unknown_56 rfl (lv_at hl 4 rfl) ?_
        refine lv_iload_n hx hb dX8_unknown_57 rfl (lv_at hl 3 rfl) ?_
        obtain ⟨ht_, hf_⟩ := h
        refine lv_icmp_eq (tgt := 65) hx hb dX8_unknown_58 (by decide) (fun c_5 => ?_) (fun c_5 => ?_)
        · have h := ht_ c_5
          refine lv_iconst (v := (0 : Int32)) hx hb dX8_unknown_65 (by decide) ?_
          refine lv_iadd hx hb dX8_unknown_66 ?_
          refine lv_istore (lv' := [(4, .int ((x1_2 + x0_1) + (0 : Int32))), (0, .ref h0), (1, .int v1), (2, .int v2), (3, .int v3)]) hx hb dX8_unknown_67 hl (by decide) rfl (fun ls hl => ?_)
          refine lv_iload hx hb dX8_unknown_69 (lv_at hl 0 rfl) ?_
          exact W.iret (v := ((x1_2 + x0_1) + (0 : Int32))) hx hb hr (fun t ht hW => ⟨⟨((x1_2 + x0_1) + (0 : Int32)), (), rfl, h, trivial⟩, hS.F ht⟩) hS.2.2 dX8_unknown_71
        · have h := hf_ c_5
          refine lv_iconst (v := (1 : Int32)) hx hb dX8_unknown_61 (by decide) ?_
          refine lv_goto (tgt := 66) hx hb dX8_unknown_62 (by decide) ?_
          refine lv_iadd hx hb dX8_unknown_66 ?_
          refine lv_istore (lv' := [(4, .int ((x1_2 + x0_1) + (1 : Int32))), (0, .ref h0), (1, .int v1), (2, .int v2), (3, .int v3)]) hx hb dX8_unknown_67 hl (by decide) rfl (fun ls hl => ?_)
          refine lv_iload hx hb dX8_unknown_69 (lv_at hl 0 rfl) ?_
          exact W.iret (v := ((x1_2 + x0_1) + (1 : Int32))) hx hb hr (fun t ht hW => ⟨⟨((x1_2 + x0_1) + (1 : Int32)), (), rfl, h, trivial⟩, hS.F ht⟩) hS.2.2 dX8_unknown_71
  have lab_36 : ∀ (x0_6 : Int32) (h : P_X8_unknown_j36 (s0_terms, s0_number, s0_term, s0_triples, s0_store, s0_patterns, s0_query, s0_bound, s0_found, s0_work, s0_kept, s0_keptVariables, s0_answers, s0_thrown) v1 v2 v3 x0_6 post) (H : Heap) (locs : List Loc) (hP : va_P (dC, dI) vwCl [(h0, .inr (8, [.int s0_terms, .ref h0_1, .ref h0_2, .int s0_triples, .ref h0_3, .int s0_patterns, .ref h0_4, .ref h0_5, .int s0_found, .ref h0_6, .int s0_kept, .int s0_keptVariables, .ref h0_7, .int s0_thrown])), (h0_1, .inl (cI, 100, .inl s0_number)), (h0_2, .inl (cI, 40, .inl s0_term)), (h0_3, .inl (cI, 180, .inl s0_store)), (h0_4, .inl (cI, 9, .inl s0_query)), (h0_5, .inl (cI, 16, .inl s0_bound)), (h0_6, .inl (cI, 2000, .inl s0_work)), (h0_7, .inl (cI, 2000, .inl s0_answers))] H) (hD : va_D (fun _ : Nat => True) [(h0, .inr (8, [.int s0_terms, .ref h0_1, .ref h0_2, .int s0_triples, .ref h0_3, .int s0_patterns, .ref h0_4, .ref h0_5, .int s0_found, .ref h0_6, .int s0_kept, .int s0_keptVariables, .ref h0_7, .int s0_thrown])), (h0_1, .inl (cI, 100, .inl s0_number)), (h0_2, .inl (cI, 40, .inl s0_term)), (h0_3, .inl (cI, 180, .inl s0_store)), (h0_4, .inl (cI, 9, .inl s0_query)), (h0_5, .inl (cI, 16, .inl s0_bound)), (h0_6, .inl (cI, 2000, .inl s0_work)), (h0_7, .inl (cI, 2000, .inl s0_answers))]) (hS : va_S A s.heap H locs) (ls : Array Slot) (hl : lv_has ls 5 [(0, .ref h0), (1, .int v1), (2, .int v2), (3, .int v3)]), W p l e rm_X8_unknown s m ([.ref h0, .int v1, .int v2, .int v3] : List Value).toArray below meth c H locs 0 0 (MQ below (Q_X8_unknown dC dI cI h0 h0_1 h0_2 h0_3 h0_4 h0_5 h0_6 h0_7 (s0_terms, s0_number, s0_term, s0_triples, s0_store, s0_patterns, s0_query, s0_bound, s0_found, s0_work, s0_kept, s0_keptVariables, s0_answers, s0_thrown) A post) (([.ref h0, .int v1, .int v2, .int v3] : List Value).toArray) s 0 0 A) (F0 m 36 ls [.int x0_6]) := by
    intro x0_6 h H locs hP hD hS ls hl
    refine lv_iconst (v := (0 : Int32)) hx hb dX8_unknown_36 (by decide) ?_
    exact lab_37 (0 : Int32) x0_6 h _ _ hP hD hS _ hl
  have lab_14 : ∀ (x0_7 : Int32) (h : P_X8_unknown_j14 (s0_terms, s0_number, s0_term, s0_triples, s0_store, s0_patterns, s0_query, s0_bound, s0_found, s0_work, s0_kept, s0_keptVariables, s0_answers, s0_thrown) v1 v2 v3 x0_7 post) (H : Heap) (locs : List Loc) (hP : va_P (dC, dI) vwCl [(h0, .inr (8, [.int s0_terms, .ref h0_1, .ref h0_2, .int s0_triples, .ref h0_3, .int s0_patterns, .ref h0_4, .ref h0_5, .int s0_found, .ref h0_6, .int s0_kept, .int s0_keptVariables, .ref h0_7, .int s0_thrown])), (h0_1, .inl (cI, 100, .inl s0_number)), (h0_2, .inl (cI, 40, .inl s0_term)), (h0_3, .inl (cI, 180, .inl s0_store)), (h0_4, .inl (cI, 9, .inl s0_query)), (h0_5, .inl (cI, 16, .inl s0_bound)), (h0_6, .inl (cI, 2000, .inl s0_work)), (h0_7, .inl (cI, 2000, .inl s0_answers))] H) (hD : va_D (fun _ : Nat => True) [(h0, .inr (8, [.int s0_terms, .ref h0_1, .ref h0_2, .int s0_triples, .ref h0_3, .int s0_patterns, .ref h0_4, .ref h0_5, .int s0_found, .ref h0_6, .int s0_kept, .int s0_keptVariables, .ref h0_7, .int s0_thrown])), (h0_1, .inl (cI, 100, .inl s0_number)), (h0_2, .inl (cI, 40, .inl s0_term)), (h0_3, .inl (cI, 180, .inl s0_store)), (h0_4, .inl (cI, 9, .inl s0_query)), (h0_5, .inl (cI, 16, .inl s0_bound)), (h0_6, .inl (cI, 2000, .inl s0_work)), (h0_7, .inl (cI, 2000, .inl s0_answers))]) (hS : va_S A s.heap H locs) (ls : Array Slot) (hl : lv_has ls 5 [(0, .ref h0), (1, .int v1), (2, .int v2), (3, .int v3)]), W p l e rm_X8_unknown s m ([.ref h0, .int v1, .int v2, .int v3] : List Value).toArray below meth c H locs 0 0 (MQ below (Q_X8_unknown dC dI cI h0 h0_1 h0_2 h0_3 h0_4 h0_5 h0_6 h0_7 (s0_terms, s0_number, s0_term, s0_triples, s0_store, s0_patterns, s0_query, s0_bound, s0_found, s0_work, s0_kept, s0_keptVariables, s0_answers, s0_thrown) A post) (([.ref h0, .int v1, .int v2, .int v3] : List Value).toArray) s 0 0 A) (F0 m 14 ls [.int x0_7]) := by
    intro x0_7 h H locs hP hD hS ls hl
    refine lv_istore (lv' := [(4, .int x0_7), (0, .ref h0), (1, .int v1), (2, .int v2), (3, .int v3)]) hx hb dX8_unknown_14 hl (by decide) rfl (fun ls hl => ?_)
    refine lv_iload hx hb dX8_unknown_16 (lv_at hl 0 rfl) ?_
    refine lv_aload_n hx hb dX8_unknown_18 rfl (lv_at hl 1 rfl) ?_
    refine va_get (D := (dC, dI)) (ci := 8) (v := .ref h0_1) (C := RX8) (T := TX8) (N := 14) hx hb hts (hinX8) hown hK hP 0 rfl rfl 1 (by decide) (hts (.fieldLink RX8 7 "TripleJoinsModel" "number" "[I") (by decide +kernel)) (fun _ h9 => h9) rfl dX8_unknown_19 ?_
    refine lv_iload_n hx hb dX8_unknown_22 rfl (lv_at hl 3 rfl) ?_
    obtain ⟨hin, h⟩ := h
    refine va_iald (n := 100) hx hb hK hP 1 0 rfl rfl hin dX8_unknown_23 ?_
    obtain ⟨ht_, hf_⟩ := h
    refine lv_if_ge (tgt := 36) hx hb dX8_unknown_24 (by decide) (fun c_8 => ?_) (fun c_8 => ?_)
    · have h := ht_ c_8
      have hl : lv_has ls 5 [(0, .ref h0), (1, .int v1), (2, .int v2), (3, .int v3)] := lv_sub hl [1, 2, 3, 4] rfl
      exact lab_36 x0_7 h _ _ hP hD hS _ hl
    · have h := hf_ c_8
      refine lv_iload_n hx hb dX8_unknown_27 rfl (lv_at hl 3 rfl) ?_
      refine lv_iload_n hx hb dX8_unknown_28 rfl (lv_at hl 2 rfl) ?_
      obtain ⟨ht_, hf_⟩ := h
      refine lv_icmp_eq (tgt := 36) hx hb dX8_unknown_29 (by decide) (fun c_9 => ?_) (fun c_9 => ?_)
      · have h := ht_ c_9
        have hl : lv_has ls 5 [(0, .ref h0), (1, .int v1), (2, .int v2), (3, .int v3)] := lv_sub hl [1, 2, 3, 4] rfl
        exact lab_36 x0_7 h _ _ hP hD hS _ hl
      · have h := hf_ c_9
        refine lv_iconst (v := (1 : Int32)) hx hb dX8_unknown_32 (by decide) ?_
        refine lv_goto (tgt := 37) hx hb dX8_unknown_33 (by decide) ?_
        have hl : lv_has ls 5 [(0, .ref h0), (1, .int v1), (2, .int v2), (3, .int v3)] := lv_sub hl [1, 2, 3, 4] rfl
        exact lab_37 (1 : Int32) x0_7 h _ _ hP hD hS _ hl
  refine lv_aload_n hx hb dX8_unknown_0 rfl (lv_at hl 0 rfl) ?_
  refine va_get (D := (dC, dI)) (ci := 8) (v := .ref h0_1) (C := RX8) (T := TX8) (N := 14) hx hb hts (hinX8) hown hK hP 0 rfl rfl 1 (by decide) (hts (.fieldLink RX8 7 "TripleJoinsModel" "number" "[I") (by decide +kernel)) (fun _ h9 => h9) rfl dX8_unknown_1 ?_
  refine lv_iload_n hx hb dX8_unknown_4 rfl (lv_at hl 1 rfl) ?_
  obtain ⟨hin, h⟩ := h
  refine va_iald (n := 100) hx hb hK hP 1 0 rfl rfl hin dX8_unknown_5 ?_
  obtain ⟨ht_, hf_⟩ := h
  refine lv_if_ge (tgt := 13) hx hb dX8_unknown_6 (by decide) (fun c_10 => ?_) (fun c_10 => ?_)
  · have h := ht_ c_10
    refine lv_iconst (v := (0 : Int32)) hx hb dX8_unknown_13 (by decide) ?_
    exact lab_14 (0 : Int32) h _ _ hP hD hS _ hl
  · have h := hf_ c_10
    refine lv_iconst (v := (1 : Int32)) hx hb dX8_unknown_9 (by decide) ?_
    refine lv_goto (tgt := 14) hx hb dX8_unknown_10 (by decide) ?_
    exact lab_14 (1 : Int32) h _ _ hP hD hS _ hl
abbrev Q_X8_state (dC : Nat → ClassId) (dI : Nat → Nat → Nat) (cI : ClassId) (h0 h0_1 h0_2 h0_3 h0_4 h0_5 h0_6 h0_7 : Nat) (s0 : ModS) (A : Nat → Prop) (post : Int32 → ModS → Prop) : Array Value → State → Outcome → State → Prop := va_Qi post (fun (u : ModS) (t : State) => va_P (dC, dI) vwCl [(h0, .inr (8, [.int u.terms, .ref h0_1, .ref h0_2, .int u.triples, .ref h0_3, .int u.patterns, .ref h0_4, .ref h0_5, .int u.found, .ref h0_6, .int u.kept, .int u.keptVariables, .ref h0_7, .int u.thrown])), (h0_1, .inl (cI, 100, .inl u.number)), (h0_2, .inl (cI, 40, .inl u.term)), (h0_3, .inl (cI, 180, .inl u.store)), (h0_4, .inl (cI, 9, .inl u.query)), (h0_5, .inl (cI, 16, .inl u.bound)), (h0_6, .inl (cI, 2000, .inl u.work)), (h0_7, .inl (cI, 2000, .inl u.answers))] t.heap ∧ va_D A [(h0, .inr (8, [.int u.terms, .ref h0_1, .ref h0_2, .int u.triples, .ref h0_3, .int u.patterns, .ref h0_4, .ref h0_5, .int u.found, .ref h0_6, .int u.kept, .int u.keptVariables, .ref h0_7, .int u.thrown])), (h0_1, .inl (cI, 100, .inl u.number)), (h0_2, .inl (cI, 40, .inl u.term)), (h0_3, .inl (cI, 180, .inl u.store)), (h0_4, .inl (cI, 9, .inl u.query)), (h0_5, .inl (cI, 16, .inl u.bound)), (h0_6, .inl (cI, 2000, .inl u.work)), (h0_7, .inl (cI, 2000, .inl u.answers))]) A
abbrev rm_X8_state : Room := { frames := 2, cells := 0, slots := 0, locals := 45 }
set_option maxHeartbeats 4000000 in
set_option maxRecDepth 100000 in
theorem c_X8_state (l : Launch) (dC : Nat → ClassId) (dI : Nat → Nat → Nat) (cI : ClassId) (h0 h0_1 h0_2 h0_3 h0_4 h0_5 h0_6 h0_7 : Nat) (sz : Nat) (s0 : ModS) (v1 : Int32) (v2 : Int32) (v3 : Int32) (post : Int32 → ModS → Prop) (h : P_X8_state s0 v1 v2 v3 post) : Met l yX8_state wsX8_state rm_X8_state (va_Pc [.ref h0, .int v1, .int v2, .int v3] (cpre (dC, dI) [(cI, .int)] [(h0, .inr (8, [.int s0.terms, .ref h0_1, .ref h0_2, .int s0.triples, .ref h0_3, .int s0.patterns, .ref h0_4, .ref h0_5, .int s0.found, .ref h0_6, .int s0.kept, .int s0.keptVariables, .ref h0_7, .int s0.thrown])), (h0_1, .inl (cI, 100, .inl s0.number)), (h0_2, .inl (cI, 40, .inl s0.term)), (h0_3, .inl (cI, 180, .inl s0.store)), (h0_4, .inl (cI, 9, .inl s0.query)), (h0_5, .inl (cI, 16, .inl s0.bound)), (h0_6, .inl (cI, 2000, .inl s0.work)), (h0_7, .inl (cI, 2000, .inl s0.answers))] sz)) (Q_X8_state dC dI cI h0 h0_1 h0_2 h0_3 h0_4 h0_5 h0_6 h0_7 s0 (va_A [(h0, .inr (8, [.int s0.terms, .ref h0_1, .ref h0_2, .int s0.triples, .ref h0_3, .int s0.patterns, .ref h0_4, .ref h0_5, .int s0.found, .ref h0_6, .int s0.kept, .int s0.keptVariables, .ref h0_7, .int s0.thrown])), (h0_1, .inl (cI, 100, .inl s0.number)), (h0_2, .inl (cI, 40, .inl s0.term)), (h0_3, .inl (cI, 180, .inl s0.store)), (h0_4, .inl (cI, 9, .inl s0.query)), (h0_5, .inl (cI, 16, .inl s0.bound)), (h0_6, .inl (cI, 2000, .inl s0.work)), (h0_7, .inl (cI, 2000, .inl s0.answers))] sz) post) 0 0 (va_A [(h0, .inr (8, [.int s0.terms, .ref h0_1, .ref h0_2, .int s0.triples, .ref h0_3, .int s0.patterns, .ref h0_4, .ref h0_5, .int s0.found, .ref h0_6, .int s0.kept, .int s0.keptVariables, .ref h0_7, .int s0.thrown])), (h0_1, .inl (cI, 100, .inl s0.number)), (h0_2, .inl (cI, 40, .inl s0.term)), (h0_3, .inl (cI, 180, .inl s0.store)), (h0_4, .inl (cI, 9, .inl s0.query)), (h0_5, .inl (cI, 16, .inl s0.bound)), (h0_6, .inl (cI, 2000, .inl s0.work)), (h0_7, .inl (cI, 2000, .inl s0.answers))] sz) := by
  refine Met.ofW (cc := cX8_state) (maxL := 4) (ret := (some .boolean)) (by decide) rfl ?_
  intro p e s m args below meth c s₁ B hml hv
  obtain ⟨rfl, hsz, hP, hK, hD0, hN⟩ := hv
  have hx := B.exec
  have hb := B.bytes
  have hr := B.returns
  have hts := atoms_spec (ws := wsX8_state) B.pre
  have hown : s.vm.findClass RX8 = some m.cls := findClass_of_methodNamed B.named
  have hlocks := B.notSynchronized
  subst hsz
  have hD := hD0.self (sz := s.heap.size)
  generalize hAe : va_A [(h0, .inr (8, [.int s0.terms, .ref h0_1, .ref h0_2, .int s0.triples, .ref h0_3, .int s0.patterns, .ref h0_4, .ref h0_5, .int s0.found, .ref h0_6, .int s0.kept, .int s0.keptVariables, .ref h0_7, .int s0.thrown])), (h0_1, .inl (cI, 100, .inl s0.number)), (h0_2, .inl (cI, 40, .inl s0.term)), (h0_3, .inl (cI, 180, .inl s0.store)), (h0_4, .inl (cI, 9, .inl s0.query)), (h0_5, .inl (cI, 16, .inl s0.bound)), (h0_6, .inl (cI, 2000, .inl s0.work)), (h0_7, .inl (cI, 2000, .inl s0.answers))] s.heap.size = A at hD ⊢
  have hA : ∀ q : Nat, s.heap.size ≤ q → A q := fun q h => by rw [← hAe]; exact Or.inr h
  clear hAe hD0
  obtain ⟨s0_terms, s0_number, s0_term, s0_triples, s0_store, s0_patterns, s0_query, s0_bound, s0_found, s0_work, s0_kept, s0_keptVariables, s0_answers, s0_thrown⟩ := s0
  have hS : va_S A s.heap s.heap [] := va_S.rf
  have hP : va_P (dC, dI) vwCl [(h0, .inr (8, [.int s0_terms, .ref h0_1, .ref h0_2, .int s0_triples, .ref h0_3, .int s0_patterns, .ref h0_4, .ref h0_5, .int s0_found, .ref h0_6, .int s0_kept, .int s0_keptVariables, .ref h0_7, .int s0_thrown])), (h0_1, .inl (cI, 100, .inl s0_number)), (h0_2, .inl (cI, 40, .inl s0_term)), (h0_3, .inl (cI, 180, .inl s0_store)), (h0_4, .inl (cI, 9, .inl s0_query)), (h0_5, .inl (cI, 16, .inl s0_bound)), (h0_6, .inl (cI, 2000, .inl s0_work)), (h0_7, .inl (cI, 2000, .inl s0_answers))] s.heap := hP
  have hD : va_D A [(h0, .inr (8, [.int s0_terms, .ref h0_1, .ref h0_2, .int s0_triples, .ref h0_3, .int s0_patterns, .ref h0_4, .ref h0_5, .int s0_found, .ref h0_6, .int s0_kept, .int s0_keptVariables, .ref h0_7, .int s0_thrown])), (h0_1, .inl (cI, 100, .inl s0_number)), (h0_2, .inl (cI, 40, .inl s0_term)), (h0_3, .inl (cI, 180, .inl s0_store)), (h0_4, .inl (cI, 9, .inl s0_query)), (h0_5, .inl (cI, 16, .inl s0_bound)), (h0_6, .inl (cI, 2000, .inl s0_work)), (h0_7, .inl (cI, 2000, .inl s0_answers))] := hD
  have hl := lv_entry ([.ref h0, .int v1, .int v2, .int v3]) (n := 4) (Nat.le_of_ble_eq_true rfl)
  rw [lg_entry_eq]
  generalize (lg_sl ([.ref h0, .int v1, .int v2, .int v3]) ++ List.replicate (4 - (lg_sl ([.ref h0, .int v1, .int v2, .int v3])).length) Slot.unset).toArray = ls at hl ⊢
  have hl : lv_has ls 4 [(0, .ref h0), (1, .int v1), (2, .int v2), (3, .int v3)] := hl
  have hinX8 : ∀ w ∈ u_ws RX8 TX8 14, w ∈ wsX8_state := by decide +kernel
  have lab_70 : ∀ (s0_1_terms : Int32) (s0_1_number : Nat → Int32) (s0_1_term : Nat → Int32) (s0_1_triples : Int32) (s0_1_store : Nat → Int32) (s0_1_patterns : Int32) (s0_1_query : Nat → Int32) (s0_1_bound : Nat → Int32) (s0_1_found : Int32) (s0_1_work : Nat → Int32) (s0_1_kept : Int32) (s0_1_keptVariables : Int32) (s0_1_answers : Nat → Int32) (s0_1_thrown : Int32) (x0_2 : Int32) (h : P_X8_state_j70 (s0_1_terms, s0_1_number, s0_1_term, s0_1_triples, s0_1_store, s0_1_patterns, s0_1_query, s0_1_bound, s0_1_found, s0_1_work, s0_1_kept, s0_1_keptVariables, s0_1_answers, s0_1_thrown) v1 v2 v3 x0_2 post) (H : Heap) (locs : List Loc) (hP : va_P (dC, dI) vwCl [(h0, .inr (8, [.int s0_1_terms, .ref h0_1, .ref h0_2, .int s0_1_triples, .ref h0_3, .int s0_1_patterns, .ref h0_4, .ref h0_5, .int s0_1_found, .ref h0_6, .int s0_1_kept, .int s0_1_keptVariables, .ref h0_7, .int s0_1_thrown])), (h0_1, .inl (cI, 100, .inl s0_1_number)), (h0_2, .inl (cI, 40, .inl s0_1_term)), (h0_3, .inl (cI, 180, .inl s0_1_store)), (h0_4, .inl (cI, 9, .inl s0_1_query)), (h0_5, .inl (cI, 16, .inl s0_1_bound)), (h0_6, .inl (cI, 2000, .inl s0_1_work)), (h0_7, .inl (cI, 2000, .inl s0_1_answers))] H) (hD : va_D A [(h0, .inr (8, [.int s0_1_terms, .ref h0_1, .ref h0_2, .int s0_1_triples, .ref h0_3, .int s0_1_patterns, .ref h0_4, .ref h0_5, .int s0_1_found, .ref h0_6, .int s0_1_kept, .int s0_1_keptVariables, .ref h0_7, .int s0_1_thrown])), (h0_1, .inl (cI, 100, .inl s0_1_number)), (h0_2, .inl (cI, 40, .inl s0_1_term)), (h0_3, .inl (cI, 180, .inl s0_1_store)), (h0_4, .inl (cI, 9, .inl s0_1_query)), (h0_5, .inl (cI, 16, .inl s0_1_bound)), (h0_6, .inl (cI, 2000, .inl s0_1_work)), (h0_7, .inl (cI, 2000, .inl s0_1_answers))]) (hS : va_S A s.heap H locs) (ls : Array Slot) (hl : lv_has ls 4 [(0, .ref h0), (1, .int v1), (2, .int v2), (3, .int v3)]), W p l e rm_X8_state s m ([.ref h0, .int v1, .int v2, .int v3] : List Value).toArray below meth c H locs 0 0 (MQ below (Q_X8_state dC dI cI h0 h0_1 h0_2 h0_3 h0_4 h0_5 h0_6 h0_7 (s0_terms, s0_number, s0_term, s0_triples, s0_store, s0_patterns, s0_query, s0_bound, s0_found, s0_work, s0_kept, s0_keptVariables, s0_answers, s0_thrown) A post) (([.ref h0, .int v1, .int v2, .int v3] : List Value).toArray) s 0 0 A) (F0 m 70 ls [.int x0_2, .ref h0]) := by
    intro s0_1_terms s0_1_number s0_1_term s0_1_triples s0_1_store s0_1_patterns s0_1_query s0_1_bound s0_1_found s0_1_work s0_1_kept s0_1_keptVariables s0_1_answers s0_1_thrown x0_2 h H locs hP hD hS ls hl
    refine va_put (D := (dC, dI)) (ci := 8) (v := .int x0_2) (ty := .int) (C := RX8) (T := TX8) (N := 14) hx hb hts (hinX8) tyX8 tyX8_ok nmX8 hown hK hP hD hS 0 rfl rfl 13 (by decide) (hts (.fieldLink RX8 31 "TripleJoinsModel" "thrown" "I") (by decide +kernel)) (fun _ h9 => h9) rfl (by decide +kernel) rfl rfl (Nat.le_of_ble_eq_true rfl) dX8_state_70 (fun H locs hP hD hS => ?_)
    have hP : va_P (dC, dI) vwCl [(h0, .inr (8, [.int s0_1_terms, .ref h0_1, .ref h0_2, .int s0_1_triples, .ref h0_3, .int s0_1_patterns, .ref h0_4, .ref h0_5, .int s0_1_found, .ref h0_6, .int s0_1_kept, .int s0_1_keptVariables, .ref h0_7, .int x0_2])), (h0_1, .inl (cI, 100, .inl s0_1_number)), (h0_2, .inl (cI, 40, .inl s0_1_term)), (h0_3, .inl (cI, 180, .inl s0_1_store)), (h0_4, .inl (cI, 9, .inl s0_1_query)), (h0_5, .inl (cI, 16, .inl s0_1_bound)), (h0_6, .inl (cI, 2000, .inl s0_1_work)), (h0_7, .inl (cI, 2000, .inl s0_1_answers))] _ := hP
    have hD : va_D A [(h0, .inr (8, [.int s0_1_terms, .ref h0_1, .ref h0_2, .int s0_1_triples, .ref h0_3, .int s0_1_patterns, .ref h0_4, .ref h0_5, .int s0_1_found, .ref h0_6, .int s0_1_kept, .int s0_1_keptVariables, .ref h0_7, .int x0_2])), (h0_1, .inl (cI, 100, .inl s0_1_number)), (h0_2, .inl (cI, 40, .inl s0_1_term)), (h0_3, .inl (cI, 180, .inl s0_1_store)), (h0_4, .inl (cI, 9, .inl s0_1_query)), (h0_5, .inl (cI, 16, .inl s0_1_bound)), (h0_6, .inl (cI, 2000, .inl s0_1_work)), (h0_7, .inl (cI, 2000, .inl s0_1_answers))] := hD
    refine lv_aload_n hx hb dX8_state_73 rfl (lv_at hl 0 rfl) ?_
    refine va_get (D := (dC, dI)) (ci := 8) (v := .int x0_2) (C := RX8) (T := TX8) (N := 14) hx hb hts (hinX8) hown hK hP 0 rfl rfl 13 (by decide) (hts (.fieldLink RX8 31 "TripleJoinsModel" "thrown" "I") (by decide +kernel)) (fun _ h9 => h9) rfl dX8_state_74 ?_
    obtain ⟨ht_, hf_⟩ := h
    refine lv_if_le (tgt := 82) hx hb dX8_state_77 (by decide) (fun c_3 => ?_) (fun c_3 => ?_)
    · have h := ht_ c_3
      refine lv_aload_n hx hb dX8_state_82 rfl (lv_at hl 0 rfl) ?_
      refine va_get (D := (dC, dI)) (ci := 8) (v := .ref h0_3) (C := RX8) (T := TX8) (N := 14) hx hb hts (hinX8) hown hK hP 0 rfl rfl 4 (by decide) (hts (.fieldLink RX8 16 "TripleJoinsModel" "store" "[I") (by decide +kernel)) (fun _ h9 => h9) rfl dX8_state_83 ?_
      refine lv_iconst (v := (3 : Int32)) hx hb dX8_state_86 (by decide) ?_
      refine lv_aload_n hx hb dX8_state_87 rfl (lv_at hl 0 rfl) ?_
      refine va_get (D := (dC, dI)) (ci := 8) (v := .int s0_1_triples) (C := RX8) (T := TX8) (N := 14) hx hb hts (hinX8) hown hK hP 0 rfl rfl 3 (by decide) (hts (.fieldLink RX8 39 "TripleJoinsModel" "triples" "I") (by decide +kernel)) (fun _ h9 => h9) rfl dX8_state_88 ?_
      refine lv_imul hx hb dX8_state_91 ?_
      refine lv_aload_n hx hb dX8_state_92 rfl (lv_at hl 0 rfl) ?_
      refine lv_iload_n hx hb dX8_state_93 rfl (lv_at hl 1 rfl) ?_
      have hPc := hP.sub (ws' := [(h0, .inr (8, [.int s0_1_terms, .ref h0_1, .ref h0_2, .int s0_1_triples, .ref h0_3, .int s0_1_patterns, .ref h0_4, .ref h0_5, .int s0_1_found, .ref h0_6, .int s0_1_kept, .int s0_1_keptVariables, .ref h0_7, .int x0_2])), (h0_1, .inl (cI, 100, .inl s0_1_number)), (h0_2, .inl (cI, 40, .inl s0_1_term)), (h0_3, .inl (cI, 180, .inl s0_1_store)), (h0_4, .inl (cI, 9, .inl s0_1_query)), (h0_5, .inl (cI, 16, .inl s0_1_bound)), (h0_6, .inl (cI, 2000, .inl s0_1_work)), (h0_7, .inl (cI, 2000, .inl s0_1_answers))]) [0, 1, 2, 3, 4, 5, 6, 7] rfl
      have hDc := hD.sub (ws' := [(h0, .inr (8, [.int s0_1_terms, .ref h0_1, .ref h0_2, .int s0_1_triples, .ref h0_3, .int s0_1_patterns, .ref h0_4, .ref h0_5, .int s0_1_found, .ref h0_6, .int s0_1_kept, .int s0_1_keptVariables, .ref h0_7, .int x0_2])), (h0_1, .inl (cI, 100, .inl s0_1_number)), (h0_2, .inl (cI, 40, .inl s0_1_term)), (h0_3, .inl (cI, 180, .inl s0_1_store)), (h0_4, .inl (cI, 9, .inl s0_1_query)), (h0_5, .inl (cI, 16, .inl s0_1_bound)), (h0_6, .inl (cI, 2000, .inl s0_1_work)), (h0_7, .inl (cI, 2000, .inl s0_1_answers))]) [0, 1, 2, 3, 4, 5, 6, 7] (by decide) rfl
      have hFc := va_free (wc := [(h0, .inr (8, [.int s0_1_terms, .ref h0_1, .ref h0_2, .int s0_1_triples, .ref h0_3, .int s0_1_patterns, .ref h0_4, .ref h0_5, .int s0_1_found, .ref h0_6, .int s0_1_kept, .int s0_1_keptVariables, .ref h0_7, .int x0_2])), (h0_1, .inl (cI, 100, .inl s0_1_number)), (h0_2, .inl (cI, 40, .inl s0_1_term)), (h0_3, .inl (cI, 180, .inl s0_1_store)), (h0_4, .inl (cI, 9, .inl s0_1_query)), (h0_5, .inl (cI, 16, .inl s0_1_bound)), (h0_6, .inl (cI, 2000, .inl s0_1_work)), (h0_7, .inl (cI, 2000, .inl s0_1_answers))]) hD hS hA [0, 1, 2, 3, 4, 5, 6, 7] rfl
      refine va_calli (va_runV (As := [.int v1]) (rest := [.int ((3 : Int32) * s0_1_triples), .ref h0_3]) ⟨hx, hb, hml, hown, hts⟩ (c_X8_numbered l dC dI cI h0 h0_1 h0_2 h0_3 h0_4 h0_5 h0_6 h0_7 _ (s0_1_terms, s0_1_number, s0_1_term, s0_1_triples, s0_1_store, s0_1_patterns, s0_1_query, s0_1_bound, s0_1_found, s0_1_work, s0_1_kept, s0_1_keptVariables, s0_1_answers, x0_2) v1 _ h) (cwV 1 hts gX8_state_X8_numbered rfl rfl rfl (by decide +kernel) ⟨Nat.le_of_ble_eq_true rfl, Nat.le_of_ble_eq_true rfl⟩) (pb_V hPc hK hDc hN (ci := 8) (q0 := 0) rfl rfl) rfl rfl hl.1 rfl (lv_room (Nat.le_of_ble_eq_true rfl)) dX8_state_94 ⟨Nat.zero_le _, Nat.zero_le _⟩) hS (fun q _ h => hFc q h) hFc (fun r_5 u_4 t H locs ht hvm h hB hz1 hk1 hS => ?_)
      obtain ⟨u_4_terms, u_4_number, u_4_term, u_4_triples, u_4_store, u_4_patterns, u_4_query, u_4_bound, u_4_found, u_4_work, u_4_kept, u_4_keptVariables, u_4_answers, u_4_thrown⟩ := u_4
      obtain ⟨hP1, hD1⟩ := hB
      rw [ht] at hP1
      obtain ⟨hP, hD⟩ := cl_join (wr := []) (w1 := [(h0, .inr (8, [.int u_4_terms, .ref h0_1, .ref h0_2, .int u_4_triples, .ref h0_3, .int u_4_patterns, .ref h0_4, .ref h0_5, .int u_4_found, .ref h0_6, .int u_4_kept, .int u_4_keptVariables, .ref h0_7, .int u_4_thrown])), (h0_1, .inl (cI, 100, .inl u_4_number)), (h0_2, .inl (cI, 40, .inl u_4_term)), (h0_3, .inl (cI, 180, .inl u_4_store)), (h0_4, .inl (cI, 9, .inl u_4_query)), (h0_5, .inl (cI, 16, .inl u_4_bound)), (h0_6, .inl (cI, 2000, .inl u_4_work)), (h0_7, .inl (cI, 2000, .inl u_4_answers))]) (ws' := [(h0, .inr (8, [.int u_4_terms, .ref h0_1, .ref h0_2, .int u_4_triples, .ref h0_3, .int u_4_patterns, .ref h0_4, .ref h0_5, .int u_4_found, .ref h0_6, .int u_4_kept, .int u_4_keptVariables, .ref h0_7, .int u_4_thrown])), (h0_1, .inl (cI, 100, .inl u_4_number)), (h0_2, .inl (cI, 40, .inl u_4_term)), (h0_3, .inl (cI, 180, .inl u_4_store)), (h0_4, .inl (cI, 9, .inl u_4_query)), (h0_5, .inl (cI, 16, .inl u_4_bound)), (h0_6, .inl (cI, 2000, .inl u_4_work)), (h0_7, .inl (cI, 2000, .inl u_4_answers))]) hP hD [0, 1, 2, 3, 4, 5, 6, 7] [] [0, 1, 2, 3, 4, 5, 6, 7] rfl rfl (by decide) (by decide) (by decide) rfl hk1 hFc hP1 hD1
      obtain ⟨hin, h⟩ := h
      refine va_iast (n := 180) hx hb hK hP hD hS 3 0 rfl rfl hin dX8_state_97 (fun H locs hP hD hS => ?_)
      have hP : va_P (dC, dI) vwCl [(h0, .inr (8, [.int u_4_terms, .ref h0_1, .ref h0_2, .int u_4_triples, .ref h0_3, .int u_4_patterns, .ref h0_4, .ref h0_5, .int u_4_found, .ref h0_6, .int u_4_kept, .int u_4_keptVariables, .ref h0_7, .int u_4_thrown])), (h0_1, .inl (cI, 100, .inl u_4_number)), (h0_2, .inl (cI, 40, .inl u_4_term)), (h0_3, .inl (cI, 180, .inl (upd u_4_store (((3 : Int32) * s0_1_triples)).toNatClampNeg r_5))), (h0_4, .inl (cI, 9, .inl u_4_query)), (h0_5, .inl (cI, 16, .inl u_4_bound)), (h0_6, .inl (cI, 2000, .inl u_4_work)), (h0_7, .inl (cI, 2000, .inl u_4_answers))] _ := hP
      have hD : va_D A [(h0, .inr (8, [.int u_4_terms, .ref h0_1, .ref h0_2, .int u_4_triples, .ref h0_3, .int u_4_patterns, .ref h0_4, .ref h0_5, .int u_4_found, .ref h0_6, .int u_4_kept, .int u_4_keptVariables, .ref h0_7, .int u_4_thrown])), (h0_1, .inl (cI, 100, .inl u_4_number)), (h0_2, .inl (cI, 40, .inl u_4_term)), (h0_3, .inl (cI, 180, .inl (upd u_4_store (((3 : Int32) * s0_1_triples)).toNatClampNeg r_5))), (h0_4, .inl (cI, 9, .inl u_4_query)), (h0_5, .inl (cI, 16, .inl u_4_bound)), (h0_6, .inl (cI, 2000, .inl u_4_work)), (h0_7, .inl (cI, 2000, .inl u_4_answers))] := hD
      refine lv_aload_n hx hb dX8_state_98 rfl (lv_at hl 0 rfl) ?_
      refine va_get (D := (dC, dI)) (ci := 8) (v := .ref h0_3) (C := RX8) (T := TX8) (N := 14) hx hb hts (hinX8) hown hK hP 0 rfl rfl 4 (by decide) (hts (.fieldLink RX8 16 "TripleJoinsModel" "store" "[I") (by decide +kernel)) (fun _ h9 => h9) rfl dX8_state_99 ?_
      refine lv_iconst (v := (3 : Int32)) hx hb dX8_state_102 (by decide) ?_
      refine lv_aload_n hx hb dX8_state_103 rfl (lv_at hl 0 rfl) ?_
      refine va_get (D := (dC, dI)) (ci := 8) (v := .int u_4_triples) (C := RX8) (T := TX8) (N := 14) hx hb hts (hinX8) hown hK hP 0 rfl rfl 3 (by decide) (hts (.fieldLink RX8 39 "TripleJoinsModel" "triples" "I") (by decide +kernel)) (fun _ h9 => h9) rfl dX8_state_104 ?_
      refine lv_imul hx hb dX8_state_107 ?_
      refine lv_iconst (v := (1 : Int32)) hx hb dX8_state_108 (by decide) ?_
      refine lv_iadd hx hb dX8_state_109 ?_
      refine lv_aload_n hx hb dX8_state_110 rfl (lv_at hl 0 rfl) ?_
      refine lv_iload_n hx hb dX8_state_111 rfl (lv_at hl 2 rfl) ?_
      have hPc := hP.sub (ws' := [(h0, .inr (8, [.int u_4_terms, .ref h0_1, .ref h0_2, .int u_4_triples, .ref h0_3, .int u_4_patterns, .ref h0_4, .ref h0_5, .int u_4_found, .ref h0_6, .int u_4_kept, .int u_4_keptVariables, .ref h0_7, .int u_4_thrown])), (h0_1, .inl (cI, 100, .inl u_4_number)), (h0_2, .inl (cI, 40, .inl u_4_term)), (h0_3, .inl (cI, 180, .inl (upd u_4_store (((3 : Int32) * s0_1_triples)).toNatClampNeg r_5))), (h0_4, .inl (cI, 9, .inl u_4_query)), (h0_5, .inl (cI, 16, .inl u_4_bound)), (h0_6, .inl (cI, 2000, .inl u_4_work)), (h0_7, .inl (cI, 2000, .inl u_4_answers))]) [0, 1, 2, 3, 4, 5, 6, 7] rfl
      have hDc := hD.sub (ws' := [(h0, .inr (8, [.int u_4_terms, .ref h0_1, .ref h0_2, .int u_4_triples, .ref h0_3, .int u_4_patterns, .ref h0_4, .ref h0_5, .int u_4_found, .ref h0_6, .int u_4_kept, .int u_4_keptVariables, .ref h0_7, .int u_4_thrown])), (h0_1, .inl (cI, 100, .inl u_4_number)), (h0_2, .inl (cI, 40, .inl u_4_term)), (h0_3, .inl (cI, 180, .inl (upd u_4_store (((3 : Int32) * s0_1_triples)).toNatClampNeg r_5))), (h0_4, .inl (cI, 9, .inl u_4_query)), (h0_5, .inl (cI, 16, .inl u_4_bound)), (h0_6, .inl (cI, 2000, .inl u_4_work)), (h0_7, .inl (cI, 2000, .inl u_4_answers))]) [0, 1, 2, 3, 4, 5, 6, 7] (by decide) rfl
      have hFc := va_free (wc := [(h0, .inr (8, [.int u_4_terms, .ref h0_1, .ref h0_2, .int u_4_triples, .ref h0_3, .int u_4_patterns, .ref h0_4, .ref h0_5, .int u_4_found, .ref h0_6, .int u_4_kept, .int u_4_keptVariables, .ref h0_7, .int u_4_thrown])), (h0_1, .inl (cI, 100, .inl u_4_number)), (h0_2, .inl (cI, 40, .inl u_4_term)), (h0_3, .inl (cI, 180, .inl (upd u_4_store (((3 : Int32) * s0_1_triples)).toNatClampNeg r_5))), (h0_4, .inl (cI, 9, .inl u_4_query)), (h0_5, .inl (cI, 16, .inl u_4_bound)), (h0_6, .inl (cI, 2000, .inl u_4_work)), (h0_7, .inl (cI, 2000, .inl u_4_answers))]) hD hS hA [0, 1, 2, 3, 4, 5, 6, 7] rfl
      refine va_calli (va_runV (As := [.int v2]) (rest := [.int (((3 : Int32) * u_4_triples) + (1 : Int32)), .ref h0_3]) ⟨hx, hb, hml, hown, hts⟩ (c_X8_numbered l dC dI cI h0 h0_1 h0_2 h0_3 h0_4 h0_5 h0_6 h0_7 _ (u_4_terms, u_4_number, u_4_term, u_4_triples, (upd u_4_store (((3 : Int32) * s0_1_triples)).toNatClampNeg r_5), u_4_patterns, u_4_query, u_4_bound, u_4_found, u_4_work, u_4_kept, u_4_keptVariables, u_4_answers, u_4_thrown) v2 _ h) (cwV 1 hts gX8_state_X8_numbered rfl rfl rfl (by decide +kernel) ⟨Nat.le_of_ble_eq_true rfl, Nat.le_of_ble_eq_true rfl⟩) (pb_V hPc hK hDc hN (ci := 8) (q0 := 0) rfl rfl) rfl rfl hl.1 rfl (lv_room (Nat.le_of_ble_eq_true rfl)) dX8_state_112 ⟨Nat.zero_le _, Nat.zero_le _⟩) hS (fun q _ h => hFc q h) hFc (fun r_7 u_6 t H locs ht hvm h hB hz1 hk1 hS => ?_)
      obtain ⟨u_6_terms, u_6_number, u_6_term, u_6_triples, u_6_store, u_6_patterns, u_6_query, u_6_bound, u_6_found, u_6_work, u_6_kept, u_6_keptVariables, u_6_answers, u_6_thrown⟩ := u_6
      obtain ⟨hP1, hD1⟩ := hB
      rw [ht] at hP1
      obtain ⟨hP, hD⟩ := cl_join (wr := []) (w1 := [(h0, .inr (8, [.int u_6_terms, .ref h0_1, .ref h0_2, .int u_6_triples, .ref h0_3, .int u_6_patterns, .ref h0_4, .ref h0_5, .int u_6_found, .ref h0_6, .int u_6_kept, .int u_6_keptVariables, .ref h0_7, .int u_6_thrown])), (h0_1, .inl (cI, 100, .inl u_6_number)), (h0_2, .inl (cI, 40, .inl u_6_term)), (h0_3, .inl (cI, 180, .inl u_6_store)), (h0_4, .inl (cI, 9, .inl u_6_query)), (h0_5, .inl (cI, 16, .inl u_6_bound)), (h0_6, .inl (cI, 2000, .inl u_6_work)), (h0_7, .inl (cI, 2000, .inl u_6_answers))]) (ws' := [(h0, .inr (8, [.int u_6_terms, .ref h0_1, .ref h0_2, .int u_6_triples, .ref h0_3, .int u_6_patterns, .ref h0_4, .ref h0_5, .int u_6_found, .ref h0_6, .int u_6_kept, .int u_6_keptVariables, .ref h0_7, .int u_6_thrown])), (h0_1, .inl (cI, 100, .inl u_6_number)), (h0_2, .inl (cI, 40, .inl u_6_term)), (h0_3, .inl (cI, 180, .inl u_6_store)), (h0_4, .inl (cI, 9, .inl u_6_query)), (h0_5, .inl (cI, 16, .inl u_6_bound)), (h0_6, .inl (cI, 2000, .inl u_6_work)), (h0_7, .inl (cI, 2000, .inl u_6_answers))]) hP hD [0, 1, 2, 3, 4, 5, 6, 7] [] [0, 1, 2, 3, 4, 5, 6, 7] rfl rfl (by decide) (by decide) (by decide) rfl hk1 hFc hP1 hD1
      obtain ⟨hin, h⟩ := h
      refine va_iast (n := 180) hx hb hK hP hD hS 3 0 rfl rfl hin dX8_state_115 (fun H locs hP hD hS => ?_)
      have hP : va_P (dC, dI) vwCl [(h0, .inr (8, [.int u_6_terms, .ref h0_1, .ref h0_2, .int u_6_triples, .ref h0_3, .int u_6_patterns, .ref h0_4, .ref h0_5, .int u_6_found, .ref h0_6, .int u_6_kept, .int u_6_keptVariables, .ref h0_7, .int u_6_thrown])), (h0_1, .inl (cI, 100, .inl u_6_number)), (h0_2, .inl (cI, 40, .inl u_6_term)), (h0_3, .inl (cI, 180, .inl (upd u_6_store ((((3 : Int32) * u_4_triples) + (1 : Int32))).toNatClampNeg r_7))), (h0_4, .inl (cI, 9, .inl u_6_query)), (h0_5, .inl (cI, 16, .inl u_6_bound)), (h0_6, .inl (cI, 2000, .inl u_6_work)), (h0_7, .inl (cI, 2000, .inl u_6_answers))] _ := hP
      have hD : va_D A [(h0, .inr (8, [.int u_6_terms, .ref h0_1, .ref h0_2, .int u_6_triples, .ref h0_3, .int u_6_patterns, .ref h0_4, .ref h0_5, .int u_6_found, .ref h0_6, .int u_6_kept, .int u_6_keptVariables, .ref h0_7, .int u_6_thrown])), (h0_1, .inl (cI, 100, .inl u_6_number)), (h0_2, .inl (cI, 40, .inl u_6_term)), (h0_3, .inl (cI, 180, .inl (upd u_6_store ((((3 : Int32) * u_4_triples) + (1 : Int32))).toNatClampNeg r_7))), (h0_4, .inl (cI, 9, .inl u_6_query)), (h0_5, .inl (cI, 16, .inl u_6_bound)), (h0_6, .inl (cI, 2000, .inl u_6_work)), (h0_7, .inl (cI, 2000, .inl u_6_answers))] := hD
      refine lv_aload_n hx hb dX8_state_116 rfl (lv_at hl 0 rfl) ?_
      refine va_get (D := (dC, dI)) (ci := 8) (v := .ref h0_3) (C := RX8) (T := TX8) (N := 14) hx hb hts (hinX8) hown hK hP 0 rfl rfl 4 (by decide) (hts (.fieldLink RX8 16 "TripleJoinsModel" "store" "[I") (by decide +kernel)) (fun _ h9 => h9) rfl dX8_state_117 ?_
      refine lv_iconst (v := (3 : Int32)) hx hb dX8_state_120 (by decide) ?_
      refine lv_aload_n hx hb dX8_state_121 rfl (lv_at hl 0 rfl) ?_
      refine va_get (D := (dC, dI)) (ci := 8) (v := .int u_6_triples) (C := RX8) (T := TX8) (N := 14) hx hb hts (hinX8) hown hK hP 0 rfl rfl 3 (by decide) (hts (.fieldLink RX8 39 "TripleJoinsModel" "triples" "I") (by decide +kernel)) (fun _ h9 => h9) rfl dX8_state_122 ?_
      refine lv_imul hx hb dX8_state_125 ?_
      refine lv_iconst (v := (2 : Int32)) hx hb dX8_state_126 (by decide) ?_
      refine lv_iadd hx hb dX8_state_127 ?_
      refine lv_aload_n hx hb dX8_state_128 rfl (lv_at hl 0 rfl) ?_
      refine lv_iload_n hx hb dX8_state_129 rfl (lv_at hl 3 rfl) ?_
      have hPc := hP.sub (ws' := [(h0, .inr (8, [.int u_6_terms, .ref h0_1, .ref h0_2, .int u_6_triples, .ref h0_3, .int u_6_patterns, .ref h0_4, .ref h0_5, .int u_6_found, .ref h0_6, .int u_6_kept, .int u_6_keptVariables, .ref h0_7, .int u_6_thrown])), (h0_1, .inl (cI, 100, .inl u_6_number)), (h0_2, .inl (cI, 40, .inl u_6_term)), (h0_3, .inl (cI, 180, .inl (upd u_6_store ((((3 : Int32) * u_4_triples) + (1 : Int32))).toNatClampNeg r_7))), (h0_4, .inl (cI, 9, .inl u_6_query)), (h0_5, .inl (cI, 16, .inl u_6_bound)), (h0_6, .inl (cI, 2000, .inl u_6_work)), (h0_7, .inl (cI, 2000, .inl u_6_answers))]) [0, 1, 2, 3, 4, 5, 6, 7] rfl
      have hDc := hD.sub (ws' := [(h0, .inr (8, [.int u_6_terms, .ref h0_1, .ref h0_2, .int u_6_triples, .ref h0_3, .int u_6_patterns, .ref h0_4, .ref h0_5, .int u_6_found, .ref h0_6, .int u_6_kept, .int u_6_keptVariables, .ref h0_7, .int u_6_thrown])), (h0_1, .inl (cI, 100, .inl u_6_number)), (h0_2, .inl (cI, 40, .inl u_6_term)), (h0_3, .inl (cI, 180, .inl (upd u_6_store ((((3 : Int32) * u_4_triples) + (1 : Int32))).toNatClampNeg r_7))), (h0_4, .inl (cI, 9, .inl u_6_query)), (h0_5, .inl (cI, 16, .inl u_6_bound)), (h0_6, .inl (cI, 2000, .inl u_6_work)), (h0_7, .inl (cI, 2000, .inl u_6_answers))]) [0, 1, 2, 3, 4, 5, 6, 7] (by decide) rfl
      have hFc := va_free (wc := [(h0, .inr (8, [.int u_6_terms, .ref h0_1, .ref h0_2, .int u_6_triples, .ref h0_3, .int u_6_patterns, .ref h0_4, .ref h0_5, .int u_6_found, .ref h0_6, .int u_6_kept, .int u_6_keptVariables, .ref h0_7, .int u_6_thrown])), (h0_1, .inl (cI, 100, .inl u_6_number)), (h0_2, .inl (cI, 40, .inl u_6_term)), (h0_3, .inl (cI, 180, .inl (upd u_6_store ((((3 : Int32) * u_4_triples) + (1 : Int32))).toNatClampNeg r_7))), (h0_4, .inl (cI, 9, .inl u_6_query)), (h0_5, .inl (cI, 16, .inl u_6_bound)), (h0_6, .inl (cI, 2000, .inl u_6_work)), (h0_7, .inl (cI, 2000, .inl u_6_answers))]) hD hS hA [0, 1, 2, 3, 4, 5, 6, 7] rfl
      refine va_calli (va_runV (As := [.int v3]) (rest := [.int (((3 : Int32) * u_6_triples) + (2 : Int32)), .ref h0_3]) ⟨hx, hb, hml, hown, hts⟩ (c_X8_numbered l dC dI cI h0 h0_1 h0_2 h0_3 h0_4 h0_5 h0_6 h0_7 _ (u_6_terms, u_6_number, u_6_term, u_6_triples, (upd u_6_store ((((3 : Int32) * u_4_triples) + (1 : Int32))).toNatClampNeg r_7), u_6_patterns, u_6_query, u_6_bound, u_6_found, u_6_work, u_6_kept, u_6_keptVariables, u_6_answers, u_6_thrown) v3 _ h) (cwV 1 hts gX8_state_X8_numbered rfl rfl rfl (by decide +kernel) ⟨Nat.le_of_ble_eq_true rfl, Nat.le_of_ble_eq_true rfl⟩) (pb_V hPc hK hDc hN (ci := 8) (q0 := 0) rfl rfl) rfl rfl hl.1 rfl (lv_room (Nat.le_of_ble_eq_true rfl)) dX8_state_130 ⟨Nat.zero_le _, Nat.zero_le _⟩) hS (fun q _ h => hFc q h) hFc (fun r_9 u_8 t H locs ht hvm h hB hz1 hk1 hS => ?_)
      obtain ⟨u_8_terms, u_8_number, u_8_term, u_8_triples, u_8_store, u_8_patterns, u_8_query, u_8_bound, u_8_found, u_8_work, u_8_kept, u_8_keptVariables, u_8_answers, u_8_thrown⟩ := u_8
      obtain ⟨hP1, hD1⟩ := hB
      rw [ht] at hP1
      obtain ⟨hP, hD⟩ := cl_join (wr := []) (w1 := [(h0, .inr (8, [.int u_8_terms, .ref h0_1, .ref h0_2, .int u_8_triples, .ref h0_3, .int u_8_patterns, .ref h0_4, .ref h0_5, .int u_8_found, .ref h0_6, .int u_8_kept, .int u_8_keptVariables, .ref h0_7, .int u_8_thrown])), (h0_1, .inl (cI, 100, .inl u_8_number)), (h0_2, .inl (cI, 40, .inl u_8_term)), (h0_3, .inl (cI, 180, .inl u_8_store)), (h0_4, .inl (cI, 9, .inl u_8_query)), (h0_5, .inl (cI, 16, .inl u_8_bound)), (h0_6, .inl (cI, 2000, .inl u_8_work)), (h0_7, .inl (cI, 2000, .inl u_8_answers))]) (ws' := [(h0, .inr (8, [.int u_8_terms, .ref h0_1, .ref h0_2, .int u_8_triples, .ref h0_3, .int u_8_patterns, .ref h0_4, .ref h0_5, .int u_8_found, .ref h0_6, .int u_8_kept, .int u_8_keptVariables, .ref h0_7, .int u_8_thrown])), (h0_1, .inl (cI, 100, .inl u_8_number)), (h0_2, .inl (cI, 40, .inl u_8_term)), (h0_3, .inl (cI, 180, .inl u_8_store)), (h0_4, .inl (cI, 9, .inl u_8_query)), (h0_5, .inl (cI, 16, .inl u_8_bound)), (h0_6, .inl (cI, 2000, .inl u_8_work)), (h0_7, .inl (cI, 2000, .inl u_8_answers))]) hP hD [0, 1, 2, 3, 4, 5, 6, 7] [] [0, 1, 2, 3, 4, 5, 6, 7] rfl rfl (by decide) (by decide) (by decide) rfl hk1 hFc hP1 hD1
      obtain ⟨hin, h⟩ := h
      refine va_iast (n := 180) hx hb hK hP hD hS 3 0 rfl rfl hin dX8_state_133 (fun H locs hP hD hS => ?_)
      have hP : va_P (dC, dI) vwCl [(h0, .inr (8, [.int u_8_terms, .ref h0_1, .ref h0_2, .int u_8_triples, .ref h0_3, .int u_8_patterns, .ref h0_4, .ref h0_5, .int u_8_found, .ref h0_6, .int u_8_kept, .int u_8_keptVariables, .ref h0_7, .int u_8_thrown])), (h0_1, .inl (cI, 100, .inl u_8_number)), (h0_2, .inl (cI, 40, .inl u_8_term)), (h0_3, .inl (cI, 180, .inl (upd u_8_store ((((3 : Int32) * u_6_triples) + (2 : Int32))).toNatClampNeg r_9))), (h0_4, .inl (cI, 9, .inl u_8_query)), (h0_5, .inl (cI, 16, .inl u_8_bound)), (h0_6, .inl (cI, 2000, .inl u_8_work)), (h0_7, .inl (cI, 2000, .inl u_8_answers))] _ := hP
      have hD : va_D A [(h0, .inr (8, [.int u_8_terms, .ref h0_1, .ref h0_2, .int u_8_triples, .ref h0_3, .int u_8_patterns, .ref h0_4, .ref h0_5, .int u_8_found, .ref h0_6, .int u_8_kept, .int u_8_keptVariables, .ref h0_7, .int u_8_thrown])), (h0_1, .inl (cI, 100, .inl u_8_number)), (h0_2, .inl (cI, 40, .inl u_8_term)), (h0_3, .inl (cI, 180, .inl (upd u_8_store ((((3 : Int32) * u_6_triples) + (2 : Int32))).toNatClampNeg r_9))), (h0_4, .inl (cI, 9, .inl u_8_query)), (h0_5, .inl (cI, 16, .inl u_8_bound)), (h0_6, .inl (cI, 2000, .inl u_8_work)), (h0_7, .inl (cI, 2000, .inl u_8_answers))] := hD
      refine lv_aload_n hx hb dX8_state_134 rfl (lv_at hl 0 rfl) ?_
      refine lv_dup hx hb dX8_state_135 rfl ?_
      refine va_get (D := (dC, dI)) (ci := 8) (v := .int u_8_triples) (C := RX8) (T := TX8) (N := 14) hx hb hts (hinX8) hown hK hP 0 rfl rfl 3 (by decide) (hts (.fieldLink RX8 39 "TripleJoinsModel" "triples" "I") (by decide +kernel)) (fun _ h9 => h9) rfl dX8_state_136 ?_
      refine lv_iconst (v := (1 : Int32)) hx hb dX8_state_139 (by decide) ?_
      refine lv_iadd hx hb dX8_state_140 ?_
      refine va_put (D := (dC, dI)) (ci := 8) (v := .int (u_8_triples + (1 : Int32))) (ty := .int) (C := RX8) (T := TX8) (N := 14) hx hb hts (hinX8) tyX8 tyX8_ok nmX8 hown hK hP hD hS 0 rfl rfl 3 (by decide) (hts (.fieldLink RX8 39 "TripleJoinsModel" "triples" "I") (by decide +kernel)) (fun _ h9 => h9) rfl (by decide +kernel) rfl rfl (Nat.le_of_ble_eq_true rfl) dX8_state_141 (fun H locs hP hD hS => ?_)
      have hP : va_P (dC, dI) vwCl [(h0, .inr (8, [.int u_8_terms, .ref h0_1, .ref h0_2, .int (u_8_triples + (1 : Int32)), .ref h0_3, .int u_8_patterns, .ref h0_4, .ref h0_5, .int u_8_found, .ref h0_6, .int u_8_kept, .int u_8_keptVariables, .ref h0_7, .int u_8_thrown])), (h0_1, .inl (cI, 100, .inl u_8_number)), (h0_2, .inl (cI, 40, .inl u_8_term)), (h0_3, .inl (cI, 180, .inl (upd u_8_store ((((3 : Int32) * u_6_triples) + (2 : Int32))).toNatClampNeg r_9))), (h0_4, .inl (cI, 9, .inl u_8_query)), (h0_5, .inl (cI, 16, .inl u_8_bound)), (h0_6, .inl (cI, 2000, .inl u_8_work)), (h0_7, .inl (cI, 2000, .inl u_8_answers))] _ := hP
      have hD : va_D A [(h0, .inr (8, [.int u_8_terms, .ref h0_1, .ref h0_2, .int (u_8_triples + (1 : Int32)), .ref h0_3, .int u_8_patterns, .ref h0_4, .ref h0_5, .int u_8_found, .ref h0_6, .int u_8_kept, .int u_8_keptVariables, .ref h0_7, .int u_8_thrown])), (h0_1, .inl (cI, 100, .inl u_8_number)), (h0_2, .inl (cI, 40, .inl u_8_term)), (h0_3, .inl (cI, 180, .inl (upd u_8_store ((((3 : Int32) * u_6_triples) + (2 : Int32))).toNatClampNeg r_9))), (h0_4, .inl (cI, 9, .inl u_8_query)), (h0_5, .inl (cI, 16, .inl u_8_bound)), (h0_6, .inl (cI, 2000, .inl u_8_work)), (h0_7, .inl (cI, 2000, .inl u_8_answers))] := hD
      refine lv_iconst (v := (1 : Int32)) hx hb dX8_state_144 (by decide) ?_
      exact W.zret (v := (1 : Int32)) hx hb hr (by decide +kernel) (fun t ht hW => ⟨⟨(1 : Int32), (u_8_terms, u_8_number, u_8_term, (u_8_triples + (1 : Int32)), (upd u_8_store ((((3 : Int32) * u_6_triples) + (2 : Int32))).toNatClampNeg r_9), u_8_patterns, u_8_query, u_8_bound, u_8_found, u_8_work, u_8_kept, u_8_keptVariables, u_8_answers, u_8_thrown), rfl, h, ⟨by rw [ht]; exact hP, hD⟩⟩, hS.F ht⟩) hS.2.2 dX8_state_145
    · have h := hf_ c_3
      refine lv_iconst (v := (0 : Int32)) hx hb dX8_state_80 (by decide) ?_
      exact W.zret (v := (0 : Int32)) hx hb hr (by decide +kernel) (fun t ht hW => ⟨⟨(0 : Int32), (s0_1_terms, s0_1_number, s0_1_term, s0_1_triples, s0_1_store, s0_1_patterns, s0_1_query, s0_1_bound, s0_1_found, s0_1_work, s0_1_kept, s0_1_keptVariables, s0_1_answers, x0_2), rfl, h, ⟨by rw [ht]; exact hP, hD⟩⟩, hS.F ht⟩) hS.2.2 dX8_state_81
  have lab_65 : ∀ (s0_10_terms : Int32) (s0_10_number : Nat → Int32) (s0_10_term : Nat → Int32) (s0_10_triples : Int32) (s0_10_store : Nat → Int32) (s0_10_patterns : Int32) (s0_10_query : Nat → Int32) (s0_10_bound : Nat → Int32) (s0_10_found : Int32) (s0_10_work : Nat → Int32) (s0_10_kept : Int32) (s0_10_keptVariables : Int32) (s0_10_answers : Nat → Int32) (s0_10_thrown : Int32) (h : P_X8_state_j65 (s0_10_terms, s0_10_number, s0_10_term, s0_10_triples, s0_10_store, s0_10_patterns, s0_10_query, s0_10_bound, s0_10_found, s0_10_work, s0_10_kept, s0_10_keptVariables, s0_10_answers, s0_10_thrown) v1 v2 v3 post) (H : Heap) (locs : List Loc) (hP : va_P (dC, dI) vwCl [(h0, .inr (8, [.int s0_10_terms, .ref h0_1, .ref h0_2, .int s0_10_triples, .ref h0_3, .int s0_10_patterns, .ref h0_4, .ref h0_5, .int s0_10_found, .ref h0_6, .int s0_10_kept, .int s0_10_keptVariables, .ref h0_7, .int s0_10_thrown])), (h0_1, .inl (cI, 100, .inl s0_10_number)), (h0_2, .inl (cI, 40, .inl s0_10_term)), (h0_3, .inl (cI, 180, .inl s0_10_store)), (h0_4, .inl (cI, 9, .inl s0_10_query)), (h0_5, .inl (cI, 16, .inl s0_10_bound)), (h0_6, .inl (cI, 2000, .inl s0_10_work)), (h0_7, .inl (cI, 2000, .inl s0_10_answers))] H) (hD : va_D A [(h0, .inr (8, [.int s0_10_terms, .ref h0_1, .ref h0_2, .int s0_10_triples, .ref h0_3, .int s0_10_patterns, .ref h0_4, .ref h0_5, .int s0_10_found, .ref h0_6, .int s0_10_kept, .int s0_10_keptVariables, .ref h0_7, .int s0_10_thrown])), (h0_1, .inl (cI, 100, .inl s0_10_number)), (h0_2, .inl (cI, 40, .inl s0_10_term)), (h0_3, .inl (cI, 180, .inl s0_10_store)), (h0_4, .inl (cI, 9, .inl s0_10_query)), (h0_5, .inl (cI, 16, .inl s0_10_bound)), (h0_6, .inl (cI, 2000, .inl s0_10_work)), (h0_7, .inl (cI, 2000, .inl s0_10_answers))]) (hS : va_S A s.heap H locs) (ls : Array Slot) (hl : lv_has ls 4 [(0, .ref h0), (1, .int v1), (2, .int v2), (3, .int v3)]), W p l e rm_X8_state s m ([.ref h0, .int v1, .int v2, .int v3] : List Value).toArray below meth c H locs 0 0 (MQ below (Q_X8_state dC dI cI h0 h0_1 h0_2 h0_3 h0_4 h0_5 h0_6 h0_7 (s0_terms, s0_number, s0_term, s0_triples, s0_store, s0_patterns, s0_query, s0_bound, s0_found, s0_work, s0_kept, s0_keptVariables, s0_answers, s0_thrown) A post) (([.ref h0, .int v1, .int v2, .int v3] : List Value).toArray) s 0 0 A) (F0 m 65 ls [.ref h0]) := by
    intro s0_10_terms s0_10_number s0_10_term s0_10_triples s0_10_store s0_10_patterns s0_10_query s0_10_bound s0_10_found s0_10_work s0_10_kept s0_10_keptVariables s0_10_answers s0_10_thrown h H locs hP hD hS ls hl
    refine lv_iconst (v := (2 : Int32)) hx hb dX8_state_65 (by decide) ?_
    refine lv_goto (tgt := 70) hx hb dX8_state_66 (by decide) ?_
    exact lab_70 s0_10_terms s0_10_number s0_10_term s0_10_triples s0_10_store s0_10_patterns s0_10_query s0_10_bound s0_10_found s0_10_work s0_10_kept s0_10_keptVariables s0_10_answers s0_10_thrown (2 : Int32) h _ _ hP hD hS _ hl
  have lab_16 : ∀ (s0_11_terms : Int32) (s0_11_number : Nat → Int32) (s0_11_term : Nat → Int32) (s0_11_triples : Int32) (s0_11_store : Nat → Int32) (s0_11_patterns : Int32) (s0_11_query : Nat → Int32) (s0_11_bound : Nat → Int32) (s0_11_found : Int32) (s0_11_work : Nat → Int32) (s0_11_kept : Int32) (s0_11_keptVariables : Int32) (s0_11_answers : Nat → Int32) (s0_11_thrown : Int32) (x0_12 : Int32) (h : P_X8_state_j16 (s0_11_terms, s0_11_number, s0_11_term, s0_11_triples, s0_11_store, s0_11_patterns, s0_11_query, s0_11_bound, s0_11_found, s0_11_work, s0_11_kept, s0_11_keptVariables, s0_11_answers, s0_11_thrown) v1 v2 v3 x0_12 post) (H : Heap) (locs : List Loc) (hP : va_P (dC, dI) vwCl [(h0, .inr (8, [.int s0_11_terms, .ref h0_1, .ref h0_2, .int s0_11_triples, .ref h0_3, .int s0_11_patterns, .ref h0_4, .ref h0_5, .int s0_11_found, .ref h0_6, .int s0_11_kept, .int s0_11_keptVariables, .ref h0_7, .int s0_11_thrown])), (h0_1, .inl (cI, 100, .inl s0_11_number)), (h0_2, .inl (cI, 40, .inl s0_11_term)), (h0_3, .inl (cI, 180, .inl s0_11_store)), (h0_4, .inl (cI, 9, .inl s0_11_query)), (h0_5, .inl (cI, 16, .inl s0_11_bound)), (h0_6, .inl (cI, 2000, .inl s0_11_work)), (h0_7, .inl (cI, 2000, .inl s0_11_answers))] H) (hD : va_D A [(h0, .inr (8, [.int s0_11_terms, .ref h0_1, .ref h0_2, .int s0_11_triples, .ref h0_3, .int s0_11_patterns, .ref h0_4, .ref h0_5, .int s0_11_found, .ref h0_6, .int s0_11_kept, .int s0_11_keptVariables, .ref h0_7, .int s0_11_thrown])), (h0_1, .inl (cI, 100, .inl s0_11_number)), (h0_2, .inl (cI, 40, .inl s0_11_term)), (h0_3, .inl (cI, 180, .inl s0_11_store)), (h0_4, .inl (cI, 9, .inl s0_11_query)), (h0_5, .inl (cI, 16, .inl s0_11_bound)), (h0_6, .inl (cI, 2000, .inl s0_11_work)), (h0_7, .inl (cI, 2000, .inl s0_11_answers))]) (hS : va_S A s.heap H locs) (ls : Array Slot) (hl : lv_has ls 4 [(0, .ref h0), (1, .int v1), (2, .int v2), (3, .int v3)]), W p l e rm_X8_state s m ([.ref h0, .int v1, .int v2, .int v3] : List Value).toArray below meth c H locs 0 0 (MQ below (Q_X8_state dC dI cI h0 h0_1 h0_2 h0_3 h0_4 h0_5 h0_6 h0_7 (s0_terms, s0_number, s0_term, s0_triples, s0_store, s0_patterns, s0_query, s0_bound, s0_found, s0_work, s0_kept, s0_keptVariables, s0_answers, s0_thrown) A post) (([.ref h0, .int v1, .int v2, .int v3] : List Value).toArray) s 0 0 A) (F0 m 16 ls [.int x0_12, .ref h0]) := by
    intro s0_11_terms s0_11_number s0_11_term s0_11_triples s0_11_store s0_11_patterns s0_11_query s0_11_bound s0_11_found s0_11_work s0_11_kept s0_11_keptVariables s0_11_answers s0_11_thrown x0_12 h H locs hP hD hS ls hl
    refine va_put (D := (dC, dI)) (ci := 8) (v := .int x0_12) (ty := .int) (C := RX8) (T := TX8) (N := 14) hx hb hts (hinX8) tyX8 tyX8_ok nmX8 hown hK hP hD hS 0 rfl rfl 13 (by decide) (hts (.fieldLink RX8 31 "TripleJoinsModel" "thrown" "I") (by decide +kernel)) (fun _ h9 => h9) rfl (by decide +kernel) rfl rfl (Nat.le_of_ble_eq_true rfl) dX8_state_16 (fun H locs hP hD hS => ?_)
    have hP : va_P (dC, dI) vwCl [(h0, .inr (8, [.int s0_11_terms, .ref h0_1, .ref h0_2, .int s0_11_triples, .ref h0_3, .int s0_11_patterns, .ref h0_4, .ref h0_5, .int s0_11_found, .ref h0_6, .int s0_11_kept, .int s0_11_keptVariables, .ref h0_7, .int x0_12])), (h0_1, .inl (cI, 100, .inl s0_11_number)), (h0_2, .inl (cI, 40, .inl s0_11_term)), (h0_3, .inl (cI, 180, .inl s0_11_store)), (h0_4, .inl (cI, 9, .inl s0_11_query)), (h0_5, .inl (cI, 16, .inl s0_11_bound)), (h0_6, .inl (cI, 2000, .inl s0_11_work)), (h0_7, .inl (cI, 2000, .inl s0_11_answers))] _ := hP
    have hD : va_D A [(h0, .inr (8, [.int s0_11_terms, .ref h0_1, .ref h0_2, .int s0_11_triples, .ref h0_3, .int s0_11_patterns, .ref h0_4, .ref h0_5, .int s0_11_found, .ref h0_6, .int s0_11_kept, .int s0_11_keptVariables, .ref h0_7, .int x0_12])), (h0_1, .inl (cI, 100, .inl s0_11_number)), (h0_2, .inl (cI, 40, .inl s0_11_term)), (h0_3, .inl (cI, 180, .inl s0_11_store)), (h0_4, .inl (cI, 9, .inl s0_11_query)), (h0_5, .inl (cI, 16, .inl s0_11_bound)), (h0_6, .inl (cI, 2000, .inl s0_11_work)), (h0_7, .inl (cI, 2000, .inl s0_11_answers))] := hD
    refine lv_aload_n hx hb dX8_state_19 rfl (lv_at hl 0 rfl) ?_
    refine va_get (D := (dC, dI)) (ci := 8) (v := .int x0_12) (C := RX8) (T := TX8) (N := 14) hx hb hts (hinX8) hown hK hP 0 rfl rfl 13 (by decide) (hts (.fieldLink RX8 31 "TripleJoinsModel" "thrown" "I") (by decide +kernel)) (fun _ h9 => h9) rfl dX8_state_20 ?_
    obtain ⟨ht_, hf_⟩ := h
    refine lv_if_gt (tgt := 36) hx hb dX8_state_23 (by decide) (fun c_13 => ?_) (fun c_13 => ?_)
    · have h := ht_ c_13
      refine lv_iconst (v := (0 : Int32)) hx hb dX8_state_36 (by decide) ?_
      exact W.zret (v := (0 : Int32)) hx hb hr (by decide +kernel) (fun t ht hW => ⟨⟨(0 : Int32), (s0_11_terms, s0_11_number, s0_11_term, s0_11_triples, s0_11_store, s0_11_patterns, s0_11_query, s0_11_bound, s0_11_found, s0_11_work, s0_11_kept, s0_11_keptVariables, s0_11_answers, x0_12), rfl, h, ⟨by rw [ht]; exact hP, hD⟩⟩, hS.F ht⟩) hS.2.2 dX8_state_37
    · have h := hf_ c_13
      refine lv_aload_n hx hb dX8_state_26 rfl (lv_at hl 0 rfl) ?_
      refine lv_iload_n hx hb dX8_state_27 rfl (lv_at hl 1 rfl) ?_
      refine lv_iload_n hx hb dX8_state_28 rfl (lv_at hl 2 rfl) ?_
      refine lv_iload_n hx hb dX8_state_29 rfl (lv_at hl 3 rfl) ?_
      have hPc := hP.sub (ws' := [(h0, .inr (8, [.int s0_11_terms, .ref h0_1, .ref h0_2, .int s0_11_triples, .ref h0_3, .int s0_11_patterns, .ref h0_4, .ref h0_5, .int s0_11_found, .ref h0_6, .int s0_11_kept, .int s0_11_keptVariables, .ref h0_7, .int x0_12])), (h0_1, .inl (cI, 100, .inl s0_11_number)), (h0_2, .inl (cI, 40, .inl s0_11_term)), (h0_3, .inl (cI, 180, .inl s0_11_store)), (h0_4, .inl (cI, 9, .inl s0_11_query)), (h0_5, .inl (cI, 16, .inl s0_11_bound)), (h0_6, .inl (cI, 2000, .inl s0_11_work)), (h0_7, .inl (cI, 2000, .inl s0_11_answers))]) [0, 1, 2, 3, 4, 5, 6, 7] rfl
      have hDc := hD.sub (ws' := [(h0, .inr (8, [.int s0_11_terms, .ref h0_1, .ref h0_2, .int s0_11_triples, .ref h0_3, .int s0_11_patterns, .ref h0_4, .ref h0_5, .int s0_11_found, .ref h0_6, .int s0_11_kept, .int s0_11_keptVariables, .ref h0_7, .int x0_12])), (h0_1, .inl (cI, 100, .inl s0_11_number)), (h0_2, .inl (cI, 40, .inl s0_11_term)), (h0_3, .inl (cI, 180, .inl s0_11_store)), (h0_4, .inl (cI, 9, .inl s0_11_query)), (h0_5, .inl (cI, 16, .inl s0_11_bound)), (h0_6, .inl (cI, 2000, .inl s0_11_work)), (h0_7, .inl (cI, 2000, .inl s0_11_answers))]) [0, 1, 2, 3, 4, 5, 6, 7] (by decide) rfl
      have hFc := fr0 hA hS
      refine va_calli (va_runV (As := [.int v1, .int v2, .int v3]) (rest := []) ⟨hx, hb, hml, hown, hts⟩ (c_X8_find l dC dI cI h0 h0_1 h0_2 h0_3 h0_4 h0_5 h0_6 h0_7 _ (s0_11_terms, s0_11_number, s0_11_term, s0_11_triples, s0_11_store, s0_11_patterns, s0_11_query, s0_11_bound, s0_11_found, s0_11_work, s0_11_kept, s0_11_keptVariables, s0_11_answers, x0_12) v1 v2 v3 _ h) (cwV 3 hts gX8_state_X8_find rfl rfl rfl (by decide +kernel) ⟨Nat.le_of_ble_eq_true rfl, Nat.le_of_ble_eq_true rfl⟩) (pb_V hPc hK hDc hN (ci := 8) (q0 := 0) rfl rfl) rfl rfl hl.1 rfl (lv_room (Nat.le_of_ble_eq_true rfl)) dX8_state_30 ⟨Nat.zero_le _, Nat.zero_le _⟩) hS (fun q _ h => hFc q h) hFc (fun r_15 u_14 t H locs ht hvm h hB hz1 hk1 hS => ?_)
      have hP := vaPk hP hk1
      obtain ⟨ht_, hf_⟩ := h
      refine lv_if_lt (tgt := 38) hx hb dX8_state_33 (by decide) (fun c_16 => ?_) (fun c_16 => ?_)
      · have h := ht_ c_16
        refine lv_aload_n hx hb dX8_state_38 rfl (lv_at hl 0 rfl) ?_
        refine lv_aload_n hx hb dX8_state_39 rfl (lv_at hl 0 rfl) ?_
        refine va_get (D := (dC, dI)) (ci := 8) (v := .int s0_11_triples) (C := RX8) (T := TX8) (N := 14) hx hb hts (hinX8) hown hK hP 0 rfl rfl 3 (by decide) (hts (.fieldLink RX8 39 "TripleJoinsModel" "triples" "I") (by decide +kernel)) (fun _ h9 => h9) rfl dX8_state_40 ?_
        refine lv_bipush (v := (60 : Int32)) hx hb dX8_state_43 (by decide) ?_
        obtain ⟨ht_, hf_⟩ := h
        refine lv_icmp_eq (tgt := 65) hx hb dX8_state_45 (by decide) (fun c_17 => ?_) (fun c_17 => ?_)
        · have h := ht_ c_17
          exact lab_65 s0_11_terms s0_11_number s0_11_term s0_11_triples s0_11_store s0_11_patterns s0_11_query s0_11_bound s0_11_found s0_11_work s0_11_kept s0_11_keptVariables s0_11_answers x0_12 h _ _ hP hD hS _ hl
        · have h := hf_ c_17
          refine lv_aload_n hx hb dX8_state_48 rfl (lv_at hl 0 rfl) ?_
          refine va_get (D := (dC, dI)) (ci := 8) (v := .int s0_11_terms) (C := RX8) (T := TX8) (N := 14) hx hb hts (hinX8) hown hK hP 0 rfl rfl 0 (by decide) (hts (.fieldLink RX8 42 "TripleJoinsModel" "terms" "I") (by decide +kernel)) (fun _ h9 => h9) rfl dX8_state_49 ?_
          refine lv_aload_n hx hb dX8_state_52 rfl (lv_at hl 0 rfl) ?_
          refine lv_iload_n hx hb dX8_state_53 rfl (lv_at hl 1 rfl) ?_
          refine lv_iload_n hx hb dX8_state_54 rfl (lv_at hl 2 rfl) ?_
          refine lv_iload_n hx hb dX8_state_55 rfl (lv_at hl 3 rfl) ?_
          have hPc := hP.sub (ws' := [(h0, .inr (8, [.int s0_11_terms, .ref h0_1, .ref h0_2, .int s0_11_triples, .ref h0_3, .int s0_11_patterns, .ref h0_4, .ref h0_5, .int s0_11_found, .ref h0_6, .int s0_11_kept, .int s0_11_keptVariables, .ref h0_7, .int x0_12])), (h0_1, .inl (cI, 100, .inl s0_11_number)), (h0_2, .inl (cI, 40, .inl s0_11_term)), (h0_3, .inl (cI, 180, .inl s0_11_store)), (h0_4, .inl (cI, 9, .inl s0_11_query)), (h0_5, .inl (cI, 16, .inl s0_11_bound)), (h0_6, .inl (cI, 2000, .inl s0_11_work)), (h0_7, .inl (cI, 2000, .inl s0_11_answers))]) [0, 1, 2, 3, 4, 5, 6, 7] rfl
          have hDc := hD.sub (ws' := [(h0, .inr (8, [.int s0_11_terms, .ref h0_1, .ref h0_2, .int s0_11_triples, .ref h0_3, .int s0_11_patterns, .ref h0_4, .ref h0_5, .int s0_11_found, .ref h0_6, .int s0_11_kept, .int s0_11_keptVariables, .ref h0_7, .int x0_12])), (h0_1, .inl (cI, 100, .inl s0_11_number)), (h0_2, .inl (cI, 40, .inl s0_11_term)), (h0_3, .inl (cI, 180, .inl s0_11_store)), (h0_4, .inl (cI, 9, .inl s0_11_query)), (h0_5, .inl (cI, 16, .inl s0_11_bound)), (h0_6, .inl (cI, 2000, .inl s0_11_work)), (h0_7, .inl (cI, 2000, .inl s0_11_answers))]) [0, 1, 2, 3, 4, 5, 6, 7] (by decide) rfl
          have hFc := fr0 hA hS
          refine va_calli (va_runV (As := [.int v1, .int v2, .int v3]) (rest := [.int s0_11_terms, .ref h0]) ⟨hx, hb, hml, hown, hts⟩ (c_X8_unknown l dC dI cI h0 h0_1 h0_2 h0_3 h0_4 h0_5 h0_6 h0_7 _ (s0_11_terms, s0_11_number, s0_11_term, s0_11_triples, s0_11_store, s0_11_patterns, s0_11_query, s0_11_bound, s0_11_found, s0_11_work, s0_11_kept, s0_11_keptVariables, s0_11_answers, x0_12) v1 v2 v3 _ h) (cwV 3 hts gX8_state_X8_unknown rfl rfl rfl (by decide +kernel) ⟨Nat.le_of_ble_eq_true rfl, Nat.le_of_ble_eq_true rfl⟩) (pb_V hPc hK hDc hN (ci := 8) (q0 := 0) rfl rfl) rfl rfl hl.1 rfl (lv_room (Nat.le_of_ble_eq_true rfl)) dX8_state_56 ⟨Nat.zero_le _, Nat.zero_le _⟩) hS (fun q _ h => hFc q h) hFc (fun r_19 u_18 t H locs ht hvm h hB hz1 hk1 hS => ?_)
          have hP := vaPk hP hk1
          refine lv_iadd hx hb dX8_state_59 ?_
          refine lv_bipush (v := (40 : Int32)) hx hb dX8_state_60 (by decide) ?_
          obtain ⟨ht_, hf_⟩ := h
          refine lv_icmp_le (tgt := 69) hx hb dX8_state_62 (by decide) (fun c_20 => ?_) (fun c_20 => ?_)
          · have h := ht_ c_20
            refine lv_iconst (v := (0 : Int32)) hx hb dX8_state_69 (by decide) ?_
            exact lab_70 s0_11_terms s0_11_number s0_11_term s0_11_triples s0_11_store s0_11_patterns s0_11_query s0_11_bound s0_11_found s0_11_work s0_11_kept s0_11_keptVariables s0_11_answers x0_12 (0 : Int32) h _ _ hP hD hS _ hl
          · have h := hf_ c_20
            exact lab_65 s0_11_terms s0_11_number s0_11_term s0_11_triples s0_11_store s0_11_patterns s0_11_query s0_11_bound s0_11_found s0_11_work s0_11_kept s0_11_keptVariables s0_11_answers x0_12 h _ _ hP hD hS _ hl
      · have h := hf_ c_16
        refine lv_iconst (v := (0 : Int32)) hx hb dX8_state_36 (by decide) ?_
        exact W.zret (v := (0 : Int32)) hx hb hr (by decide +kernel) (fun t ht hW => ⟨⟨(0 : Int32), (s0_11_terms, s0_11_number, s0_11_term, s0_11_triples, s0_11_store, s0_11_patterns, s0_11_query, s0_11_bound, s0_11_found, s0_11_work, s0_11_kept, s0_11_keptVariables, s0_11_answers, x0_12), rfl, h, ⟨by rw [ht]; exact hP, hD⟩⟩, hS.F ht⟩) hS.2.2 dX8_state_37
  refine lv_aload_n hx hb dX8_state_0 rfl (lv_at hl 0 rfl) ?_
  refine lv_iload_n hx hb dX8_state_1 rfl (lv_at hl 1 rfl) ?_
  refine lv_iload_n hx hb dX8_state_2 rfl (lv_at hl 2 rfl) ?_
  refine lv_iload_n hx hb dX8_state_3 rfl (lv_at hl 3 rfl) ?_
  refine lv_iconst (v := (0 : Int32)) hx hb dX8_state_4 (by decide) ?_
  have hPc := hP.sub (ws' := []) [] rfl
  have hDc := hD.sub (ws' := []) [] (by decide) rfl
  have hFc := fr0 hA hS
  refine va_calli (va_runS (As := [.int v1, .int v2, .int v3, .int (0 : Int32)]) (rest := [.ref h0]) ⟨hx, hb, hml, hown, hts⟩ (c_X8_areTerms l dC dI cI  _ v1 v2 v3 (0 : Int32) _ h) (va_cwS 4 hts gX8_state_X8_areTerms rfl rfl rfl (by decide +kernel) ⟨Nat.le_of_ble_eq_true rfl, Nat.le_of_ble_eq_true rfl⟩) (pb_S hPc hK hDc hN) rfl rfl hl.1 rfl (lv_room (Nat.le_of_ble_eq_true rfl)) dX8_state_5 ⟨Nat.zero_le _, Nat.zero_le _⟩) hS (fun q _ h => hFc q h) hFc (fun r_22 u_21 t H locs ht hvm h hB hz1 hk1 hS => ?_)
  have hP := vaPk hP hk1
  obtain ⟨ht_, hf_⟩ := h
  refine lv_if_eq (tgt := 15) hx hb dX8_state_8 (by decide) (fun c_23 => ?_) (fun c_23 => ?_)
  · have h := ht_ c_23
    refine lv_iconst (v := (1 : Int32)) hx hb dX8_state_15 (by decide) ?_
    exact lab_16 s0_terms s0_number s0_term s0_triples s0_store s0_patterns s0_query s0_bound s0_found s0_work s0_kept s0_keptVariables s0_answers s0_thrown (1 : Int32) h _ _ hP hD hS _ hl
  · have h := hf_ c_23
    refine lv_iconst (v := (0 : Int32)) hx hb dX8_state_11 (by decide) ?_
    refine lv_goto (tgt := 16) hx hb dX8_state_12 (by decide) ?_
    exact lab_16 s0_terms s0_number s0_term s0_triples s0_store s0_patterns s0_query s0_bound s0_found s0_work s0_kept s0_keptVariables s0_answers s0_thrown (0 : Int32) h _ _ hP hD hS _ hl
abbrev Q_X8_takeBack (dC : Nat → ClassId) (dI : Nat → Nat → Nat) (cI : ClassId) (h0 h0_1 h0_2 h0_3 h0_4 h0_5 h0_6 h0_7 : Nat) (s0 : ModS) (A : Nat → Prop) (post : Int32 → ModS → Prop) : Array Value → State → Outcome → State → Prop := va_Qi post (fun (u : ModS) (t : State) => va_P (dC, dI) vwCl [(h0, .inr (8, [.int u.terms, .ref h0_1, .ref h0_2, .int u.triples, .ref h0_3, .int u.patterns, .ref h0_4, .ref h0_5, .int u.found, .ref h0_6, .int u.kept, .int u.keptVariables, .ref h0_7, .int u.thrown])), (h0_1, .inl (cI, 100, .inl u.number)), (h0_2, .inl (cI, 40, .inl u.term)), (h0_3, .inl (cI, 180, .inl u.store)), (h0_4, .inl (cI, 9, .inl u.query)), (h0_5, .inl (cI, 16, .inl u.bound)), (h0_6, .inl (cI, 2000, .inl u.work)), (h0_7, .inl (cI, 2000, .inl u.answers))] t.heap ∧ va_D A [(h0, .inr (8, [.int u.terms, .ref h0_1, .ref h0_2, .int u.triples, .ref h0_3, .int u.patterns, .ref h0_4, .ref h0_5, .int u.found, .ref h0_6, .int u.kept, .int u.keptVariables, .ref h0_7, .int u.thrown])), (h0_1, .inl (cI, 100, .inl u.number)), (h0_2, .inl (cI, 40, .inl u.term)), (h0_3, .inl (cI, 180, .inl u.store)), (h0_4, .inl (cI, 9, .inl u.query)), (h0_5, .inl (cI, 16, .inl u.bound)), (h0_6, .inl (cI, 2000, .inl u.work)), (h0_7, .inl (cI, 2000, .inl u.answers))]) A
abbrev rm_X8_takeBack : Room := { frames := 2, cells := 0, slots := 0, locals := 45 }
set_option maxHeartbeats 4000000 in
set_option maxRecDepth 100000 in
theorem c_X8_takeBack (l : Launch) (dC : Nat → ClassId) (dI : Nat → Nat → Nat) (cI : ClassId) (h0 h0_1 h0_2 h0_3 h0_4 h0_5 h0_6 h0_7 : Nat) (sz : Nat) (s0 : ModS) (v1 : Int32) (v2 : Int32) (v3 : Int32) (post : Int32 → ModS → Prop) (h : P_X8_takeBack s0 v1 v2 v3 post) : Met l yX8_takeBack wsX8_takeBack rm_X8_takeBack (va_Pc [.ref h0, .int v1, .int v2, .int v3] (cpre (dC, dI) [(cI, .int)] [(h0, .inr (8, [.int s0.terms, .ref h0_1, .ref h0_2, .int s0.triples, .ref h0_3, .int s0.patterns, .ref h0_4, .ref h0_5, .int s0.found, .ref h0_6, .int s0.kept, .int s0.keptVariables, .ref h0_7, .int s0.thrown])), (h0_1, .inl (cI, 100, .inl s0.number)), (h0_2, .inl (cI, 40, .inl s0.term)), (h0_3, .inl (cI, 180, .inl s0.store)), (h0_4, .inl (cI, 9, .inl s0.query)), (h0_5, .inl (cI, 16, .inl s0.bound)), (h0_6, .inl (cI, 2000, .inl s0.work)), (h0_7, .inl (cI, 2000, .inl s0.answers))] sz)) (Q_X8_takeBack dC dI cI h0 h0_1 h0_2 h0_3 h0_4 h0_5 h0_6 h0_7 s0 (va_A [(h0, .inr (8, [.int s0.terms, .ref h0_1, .ref h0_2, .int s0.triples, .ref h0_3, .int s0.patterns, .ref h0_4, .ref h0_5, .int s0.found, .ref h0_6, .int s0.kept, .int s0.keptVariables, .ref h0_7, .int s0.thrown])), (h0_1, .inl (cI, 100, .inl s0.number)), (h0_2, .inl (cI, 40, .inl s0.term)), (h0_3, .inl (cI, 180, .inl s0.store)), (h0_4, .inl (cI, 9, .inl s0.query)), (h0_5, .inl (cI, 16, .inl s0.bound)), (h0_6, .inl (cI, 2000, .inl s0.work)), (h0_7, .inl (cI, 2000, .inl s0.answers))] sz) post) 0 0 (va_A [(h0, .inr (8, [.int s0.terms, .ref h0_1, .ref h0_2, .int s0.triples, .ref h0_3, .int s0.patterns, .ref h0_4, .ref h0_5, .int s0.found, .ref h0_6, .int s0.kept, .int s0.keptVariables, .ref h0_7, .int s0.thrown])), (h0_1, .inl (cI, 100, .inl s0.number)), (h0_2, .inl (cI, 40, .inl s0.term)), (h0_3, .inl (cI, 180, .inl s0.store)), (h0_4, .inl (cI, 9, .inl s0.query)), (h0_5, .inl (cI, 16, .inl s0.bound)), (h0_6, .inl (cI, 2000, .inl s0.work)), (h0_7, .inl (cI, 2000, .inl s0.answers))] sz) := by
  refine Met.ofW (cc := cX8_takeBack) (maxL := 6) (ret := (some .boolean)) (by decide) rfl ?_
  intro p e s m args below meth c s₁ B hml hv
  obtain ⟨rfl, hsz, hP, hK, hD0, hN⟩ := hv
  have hx := B.exec
  have hb := B.bytes
  have hr := B.returns
  have hts := atoms_spec (ws := wsX8_takeBack) B.pre
  have hown : s.vm.findClass RX8 = some m.cls := findClass_of_methodNamed B.named
  have hlocks := B.notSynchronized
  subst hsz
  have hD := hD0.self (sz := s.heap.size)
  generalize hAe : va_A [(h0, .inr (8, [.int s0.terms, .ref h0_1, .ref h0_2, .int s0.triples, .ref h0_3, .int s0.patterns, .ref h0_4, .ref h0_5, .int s0.found, .ref h0_6, .int s0.kept, .int s0.keptVariables, .ref h0_7, .int s0.thrown])), (h0_1, .inl (cI, 100, .inl s0.number)), (h0_2, .inl (cI, 40, .inl s0.term)), (h0_3, .inl (cI, 180, .inl s0.store)), (h0_4, .inl (cI, 9, .inl s0.query)), (h0_5, .inl (cI, 16, .inl s0.bound)), (h0_6, .inl (cI, 2000, .inl s0.work)), (h0_7, .inl (cI, 2000, .inl s0.answers))] s.heap.size = A at hD ⊢
  have hA : ∀ q : Nat, s.heap.size ≤ q → A q := fun q h => by rw [← hAe]; exact Or.inr h
  clear hAe hD0
  obtain ⟨s0_terms, s0_number, s0_term, s0_triples, s0_store, s0_patterns, s0_query, s0_bound, s0_found, s0_work, s0_kept, s0_keptVariables, s0_answers, s0_thrown⟩ := s0
  have hS : va_S A s.heap s.heap [] := va_S.rf
  have hP : va_P (dC, dI) vwCl [(h0, .inr (8, [.int s0_terms, .ref h0_1, .ref h0_2, .int s0_triples, .ref h0_3, .int s0_patterns, .ref h0_4, .ref h0_5, .int s0_found, .ref h0_6, .int s0_kept, .int s0_keptVariables, .ref h0_7, .int s0_thrown])), (h0_1, .inl (cI, 100, .inl s0_number)), (h0_2, .inl (cI, 40, .inl s0_term)), (h0_3, .inl (cI, 180, .inl s0_store)), (h0_4, .inl (cI, 9, .inl s0_query)), (h0_5, .inl (cI, 16, .inl s0_bound)), (h0_6, .inl (cI, 2000, .inl s0_work)), (h0_7, .inl (cI, 2000, .inl s0_answers))] s.heap := hP
  have hD : va_D A [(h0, .inr (8, [.int s0_terms, .ref h0_1, .ref h0_2, .int s0_triples, .ref h0_3, .int s0_patterns, .ref h0_4, .ref h0_5, .int s0_found, .ref h0_6, .int s0_kept, .int s0_keptVariables, .ref h0_7, .int s0_thrown])), (h0_1, .inl (cI, 100, .inl s0_number)), (h0_2, .inl (cI, 40, .inl s0_term)), (h0_3, .inl (cI, 180, .inl s0_store)), (h0_4, .inl (cI, 9, .inl s0_query)), (h0_5, .inl (cI, 16, .inl s0_bound)), (h0_6, .inl (cI, 2000, .inl s0_work)), (h0_7, .inl (cI, 2000, .inl s0_answers))] := hD
  have hl := lv_entry ([.ref h0, .int v1, .int v2, .int v3]) (n := 6) (Nat.le_of_ble_eq_true rfl)
  rw [lg_entry_eq]
  generalize (lg_sl ([.ref h0, .int v1, .int v2, .int v3]) ++ List.replicate (6 - (lg_sl ([.ref h0, .int v1, .int v2, .int v3])).length) Slot.unset).toArray = ls at hl ⊢
  have hl : lv_has ls 6 [(0, .ref h0), (1, .int v1), (2, .int v2), (3, .int v3)] := hl
  have hinX8 : ∀ w ∈ u_ws RX8 TX8 14, w ∈ wsX8_takeBack := by decide +kernel
  have lab_37 : ∀ (s0_1_terms : Int32) (s0_1_number : Nat → Int32) (s0_1_term : Nat → Int32) (s0_1_triples : Int32) (s0_1_store : Nat → Int32) (s0_1_patterns : Int32) (s0_1_query : Nat → Int32) (s0_1_bound : Nat → Int32) (s0_1_found : Int32) (s0_1_work : Nat → Int32) (s0_1_kept : Int32) (s0_1_keptVariables : Int32) (s0_1_answers : Nat → Int32) (s0_1_thrown : Int32) (x0_2 : Int32) (h : P_X8_takeBack_j37 (s0_1_terms, s0_1_number, s0_1_term, s0_1_triples, s0_1_store, s0_1_patterns, s0_1_query, s0_1_bound, s0_1_found, s0_1_work, s0_1_kept, s0_1_keptVariables, s0_1_answers, s0_1_thrown) x0_2 post) (H : Heap) (locs : List Loc) (hP : va_P (dC, dI) vwCl [(h0, .inr (8, [.int s0_1_terms, .ref h0_1, .ref h0_2, .int s0_1_triples, .ref h0_3, .int s0_1_patterns, .ref h0_4, .ref h0_5, .int s0_1_found, .ref h0_6, .int s0_1_kept, .int s0_1_keptVariables, .ref h0_7, .int s0_1_thrown])), (h0_1, .inl (cI, 100, .inl s0_1_number)), (h0_2, .inl (cI, 40, .inl s0_1_term)), (h0_3, .inl (cI, 180, .inl s0_1_store)), (h0_4, .inl (cI, 9, .inl s0_1_query)), (h0_5, .inl (cI, 16, .inl s0_1_bound)), (h0_6, .inl (cI, 2000, .inl s0_1_work)), (h0_7, .inl (cI, 2000, .inl s0_1_answers))] H) (hD : va_D A [(h0, .inr (8, [.int s0_1_terms, .ref h0_1, .ref h0_2, .int s0_1_triples, .ref h0_3, .int s0_1_patterns, .ref h0_4, .ref h0_5, .int s0_1_found, .ref h0_6, .int s0_1_kept, .int s0_1_keptVariables, .ref h0_7, .int s0_1_thrown])), (h0_1, .inl (cI, 100, .inl s0_1_number)), (h0_2, .inl (cI, 40, .inl s0_1_term)), (h0_3, .inl (cI, 180, .inl s0_1_store)), (h0_4, .inl (cI, 9, .inl s0_1_query)), (h0_5, .inl (cI, 16, .inl s0_1_bound)), (h0_6, .inl (cI, 2000, .inl s0_1_work)), (h0_7, .inl (cI, 2000, .inl s0_1_answers))]) (hS : va_S A s.heap H locs) (ls : Array Slot) (hl : lv_has ls 6 [(0, .ref h0)]), W p l e rm_X8_takeBack s m ([.ref h0, .int v1, .int v2, .int v3] : List Value).toArray below meth c H locs 0 0 (MQ below (Q_X8_takeBack dC dI cI h0 h0_1 h0_2 h0_3 h0_4 h0_5 h0_6 h0_7 (s0_terms, s0_number, s0_term, s0_triples, s0_store, s0_patterns, s0_query, s0_bound, s0_found, s0_work, s0_kept, s0_keptVariables, s0_answers, s0_thrown) A post) (([.ref h0, .int v1, .int v2, .int v3] : List Value).toArray) s 0 0 A) (F0 m 37 ls [.int x0_2]) := by
    intro s0_1_terms s0_1_number s0_1_term s0_1_triples s0_1_store s0_1_patterns s0_1_query s0_1_bound s0_1_found s0_1_work s0_1_kept s0_1_keptVariables s0_1_answers s0_1_thrown x0_2 h H locs hP hD hS ls hl
    refine lv_istore (lv' := [(4, .int x0_2), (0, .ref h0)]) hx hb dX8_takeBack_37 hl (by decide) rfl (fun ls hl => ?_)
    refine lv_iload hx hb dX8_takeBack_39 (lv_at hl 0 rfl) ?_
    obtain ⟨ht_, hf_⟩ := h
    refine lv_if_ge (tgt := 46) hx hb dX8_takeBack_41 (by decide) (fun c_3 => ?_) (fun c_3 => ?_)
    · have h := ht_ c_3
      refine lv_aload_n hx hb dX8_takeBack_46 rfl (lv_at hl 1 rfl) ?_
      refine lv_dup hx hb dX8_takeBack_47 rfl ?_
      refine va_get (D := (dC, dI)) (ci := 8) (v := .int s0_1_triples) (C := RX8) (T := TX8) (N := 14) hx hb hts (hinX8) hown hK hP 0 rfl rfl 3 (by decide) (hts (.fieldLink RX8 39 "TripleJoinsModel" "triples" "I") (by decide +kernel)) (fun _ h9 => h9) rfl dX8_takeBack_48 ?_
      refine lv_iconst (v := (1 : Int32)) hx hb dX8_takeBack_51 (by decide) ?_
      refine lv_isub hx hb dX8_takeBack_52 ?_
      refine va_put (D := (dC, dI)) (ci := 8) (v := .int (s0_1_triples - (1 : Int32))) (ty := .int) (C := RX8) (T := TX8) (N := 14) hx hb hts (hinX8) tyX8 tyX8_ok nmX8 hown hK hP hD hS 0 rfl rfl 3 (by decide) (hts (.fieldLink RX8 39 "TripleJoinsModel" "triples" "I") (by decide +kernel)) (fun _ h9 => h9) rfl (by decide +kernel) rfl rfl (Nat.le_of_ble_eq_true rfl) dX8_takeBack_53 (fun H locs hP hD hS => ?_)
      have hP : va_P (dC, dI) vwCl [(h0, .inr (8, [.int s0_1_terms, .ref h0_1, .ref h0_2, .int (s0_1_triples - (1 : Int32)), .ref h0_3, .int s0_1_patterns, .ref h0_4, .ref h0_5, .int s0_1_found, .ref h0_6, .int s0_1_kept, .int s0_1_keptVariables, .ref h0_7, .int s0_1_thrown])), (h0_1, .inl (cI, 100, .inl s0_1_number)), (h0_2, .inl (cI, 40, .inl s0_1_term)), (h0_3, .inl (cI, 180, .inl s0_1_store)), (h0_4, .inl (cI, 9, .inl s0_1_query)), (h0_5, .inl (cI, 16, .inl s0_1_bound)), (h0_6, .inl (cI, 2000, .inl s0_1_work)), (h0_7, .inl (cI, 2000, .inl s0_1_answers))] _ := hP
      have hD : va_D A [(h0, .inr (8, [.int s0_1_terms, .ref h0_1, .ref h0_2, .int (s0_1_triples - (1 : Int32)), .ref h0_3, .int s0_1_patterns, .ref h0_4, .ref h0_5, .int s0_1_found, .ref h0_6, .int s0_1_kept, .int s0_1_keptVariables, .ref h0_7, .int s0_1_thrown])), (h0_1, .inl (cI, 100, .inl s0_1_number)), (h0_2, .inl (cI, 40, .inl s0_1_term)), (h0_3, .inl (cI, 180, .inl s0_1_store)), (h0_4, .inl (cI, 9, .inl s0_1_query)), (h0_5, .inl (cI, 16, .inl s0_1_bound)), (h0_6, .inl (cI, 2000, .inl s0_1_work)), (h0_7, .inl (cI, 2000, .inl s0_1_answers))] := hD
      refine lv_iconst (v := (0 : Int32)) hx hb dX8_takeBack_56 (by decide) ?_
      refine lv_istore (lv' := [(5, .int (0 : Int32)), (4, .int x0_2), (0, .ref h0)]) hx hb dX8_takeBack_57 hl (by decide) rfl (fun ls hl => ?_)
      have hl : lv_has ls 6 [(0, .ref h0), (4, .int x0_2), (5, .int (0 : Int32))] := lv_sub hl [2, 1, 0] rfl
      obtain ⟨I_4, hI_4, n_4, h⟩ := h
      have loop_4 : ∀ (n_4 : Nat) (v5_5 : Int32) (s0_6_terms : Int32) (s0_6_number : Nat → Int32) (s0_6_term : Nat → Int32) (s0_6_triples : Int32) (s0_6_store : Nat → Int32) (s0_6_patterns : Int32) (s0_6_query : Nat → Int32) (s0_6_bound : Nat → Int32) (s0_6_found : Int32) (s0_6_work : Nat → Int32) (s0_6_kept : Int32) (s0_6_keptVariables : Int32) (s0_6_answers : Nat → Int32) (s0_6_thrown : Int32) (h : I_4 n_4 (v5_5, (s0_6_terms, s0_6_number, s0_6_term, s0_6_triples, s0_6_store, s0_6_patterns, s0_6_query, s0_6_bound, s0_6_found, s0_6_work, s0_6_kept, s0_6_keptVariables, s0_6_answers, s0_6_thrown))) (H : Heap) (locs : List Loc) (hP : va_P (dC, dI) vwCl [(h0, .inr (8, [.int s0_6_terms, .ref h0_1, .ref h0_2, .int s0_6_triples, .ref h0_3, .int s0_6_patterns, .ref h0_4, .ref h0_5, .int s0_6_found, .ref h0_6, .int s0_6_kept, .int s0_6_keptVariables, .ref h0_7, .int s0_6_thrown])), (h0_1, .inl (cI, 100, .inl s0_6_number)), (h0_2, .inl (cI, 40, .inl s0_6_term)), (h0_3, .inl (cI, 180, .inl s0_6_store)), (h0_4, .inl (cI, 9, .inl s0_6_query)), (h0_5, .inl (cI, 16, .inl s0_6_bound)), (h0_6, .inl (cI, 2000, .inl s0_6_work)), (h0_7, .inl (cI, 2000, .inl s0_6_answers))] H) (hD : va_D A [(h0, .inr (8, [.int s0_6_terms, .ref h0_1, .ref h0_2, .int s0_6_triples, .ref h0_3, .int s0_6_patterns, .ref h0_4, .ref h0_5, .int s0_6_found, .ref h0_6, .int s0_6_kept, .int s0_6_keptVariables, .ref h0_7, .int s0_6_thrown])), (h0_1, .inl (cI, 100, .inl s0_6_number)), (h0_2, .inl (cI, 40, .inl s0_6_term)), (h0_3, .inl (cI, 180, .inl s0_6_store)), (h0_4, .inl (cI, 9, .inl s0_6_query)), (h0_5, .inl (cI, 16, .inl s0_6_bound)), (h0_6, .inl (cI, 2000, .inl s0_6_work)), (h0_7, .inl (cI, 2000, .inl s0_6_answers))]) (hS : va_S A s.heap H locs) (ls : Array Slot) (hl : lv_has ls 6 [(0, .ref h0), (4, .int x0_2), (5, .int v5_5)]), W p l e rm_X8_takeBack s m ([.ref h0, .int v1, .int v2, .int v3] : List Value).toArray below meth c H locs 0 0 (MQ below (Q_X8_takeBack dC dI cI h0 h0_1 h0_2 h0_3 h0_4 h0_5 h0_6 h0_7 (s0_terms, s0_number, s0_term, s0_triples, s0_store, s0_patterns, s0_query, s0_bound, s0_found, s0_work, s0_kept, s0_keptVariables, s0_answers, s0_thrown) A post) (([.ref h0, .int v1, .int v2, .int v3] : List Value).toArray) s 0 0 A) (F0 m 59 ls []) := by
        intro n_4
        induction n_4 using Nat.strongRecOn with
        | ind n_4 ih_4 =>
          intro v5_5 s0_6_terms s0_6_number s0_6_term s0_6_triples s0_6_store s0_6_patterns s0_6_query s0_6_bound s0_6_found s0_6_work s0_6_kept s0_6_keptVariables s0_6_answers s0_6_thrown h H locs hP hD hS ls hl
          have h := hI_4 n_4 _ h
          refine lv_iload hx hb dX8_takeBack_59 (lv_at hl 2 rfl) ?_
          refine lv_iconst (v := (3 : Int32)) hx hb dX8_takeBack_61 (by decide) ?_
          obtain ⟨ht_, hf_⟩ := h
          refine lv_icmp_ge (tgt := 97) hx hb dX8_takeBack_62 (by decide) (fun c_7 => ?_) (fun c_7 => ?_)
          · have h := ht_ c_7
            refine lv_iconst (v := (1 : Int32)) hx hb dX8_takeBack_97 (by decide) ?_
            exact W.zret (v := (1 : Int32)) hx hb hr (by decide +kernel) (fun t ht hW => ⟨⟨(1 : Int32), (s0_6_terms, s0_6_number, s0_6_term, s0_6_triples, s0_6_store, s0_6_patterns, s0_6_query, s0_6_bound, s0_6_found, s0_6_work, s0_6_kept, s0_6_keptVariables, s0_6_answers, s0_6_thrown), rfl, h, ⟨by rw [ht]; exact hP, hD⟩⟩, hS.F ht⟩) hS.2.2 dX8_takeBack_98
          · have h := hf_ c_7
            refine lv_aload_n hx hb dX8_takeBack_65 rfl (lv_at hl 0 rfl) ?_
            refine va_get (D := (dC, dI)) (ci := 8) (v := .ref h0_3) (C := RX8) (T := TX8) (N := 14) hx hb hts (hinX8) hown hK hP 0 rfl rfl 4 (by decide) (hts (.fieldLink RX8 16 "TripleJoinsModel" "store" "[I") (by decide +kernel)) (fun _ h9 => h9) rfl dX8_takeBack_66 ?_
            refine lv_iconst (v := (3 : Int32)) hx hb dX8_takeBack_69 (by decide) ?_
            refine lv_iload hx hb dX8_takeBack_70 (lv_at hl 1 rfl) ?_
            refine lv_imul hx hb dX8_takeBack_72 ?_
            refine lv_iload hx hb dX8_takeBack_73 (lv_at hl 2 rfl) ?_
            refine lv_iadd hx hb dX8_takeBack_75 ?_
            refine lv_aload_n hx hb dX8_takeBack_76 rfl (lv_at hl 0 rfl) ?_
            refine va_get (D := (dC, dI)) (ci := 8) (v := .ref h0_3) (C := RX8) (T := TX8) (N := 14) hx hb hts (hinX8) hown hK hP 0 rfl rfl 4 (by decide) (hts (.fieldLink RX8 16 "TripleJoinsModel" "store" "[I") (by decide +kernel)) (fun _ h9 => h9) rfl dX8_takeBack_77 ?_
            refine lv_iconst (v := (3 : Int32)) hx hb dX8_takeBack_80 (by decide) ?_
            refine lv_aload_n hx hb dX8_takeBack_81 rfl (lv_at hl 0 rfl) ?_
            refine va_get (D := (dC, dI)) (ci := 8) (v := .int s0_6_triples) (C := RX8) (T := TX8) (N := 14) hx hb hts (hinX8) hown hK hP 0 rfl rfl 3 (by decide) (hts (.fieldLink RX8 39 "TripleJoinsModel" "triples" "I") (by decide +kernel)) (fun _ h9 => h9) rfl dX8_takeBack_82 ?_
            refine lv_imul hx hb dX8_takeBack_85 ?_
            refine lv_iload hx hb dX8_takeBack_86 (lv_at hl 2 rfl) ?_
            refine lv_iadd hx hb dX8_takeBack_88 ?_
            obtain ⟨hin, h⟩ := h
            refine va_iald (n := 180) hx hb hK hP 3 0 rfl rfl hin dX8_takeBack_89 ?_
            obtain ⟨hin, h⟩ := h
            refine va_iast (n := 180) hx hb hK hP hD hS 3 0 rfl rfl hin dX8_takeBack_90 (fun H locs hP hD hS => ?_)
            have hP : va_P (dC, dI) vwCl [(h0, .inr (8, [.int s0_6_terms, .ref h0_1, .ref h0_2, .int s0_6_triples, .ref h0_3, .int s0_6_patterns, .ref h0_4, .ref h0_5, .int s0_6_found, .ref h0_6, .int s0_6_kept, .int s0_6_keptVariables, .ref h0_7, .int s0_6_thrown])), (h0_1, .inl (cI, 100, .inl s0_6_number)), (h0_2, .inl (cI, 40, .inl s0_6_term)), (h0_3, .inl (cI, 180, .inl (upd s0_6_store ((((3 : Int32) * x0_2) + v5_5)).toNatClampNeg (s0_6_store ((((3 : Int32) * s0_6_triples) + v5_5)).toNatClampNeg)))), (h0_4, .inl (cI, 9, .inl s0_6_query)), (h0_5, .inl (cI, 16, .inl s0_6_bound)), (h0_6, .inl (cI, 2000, .inl s0_6_work)), (h0_7, .inl (cI, 2000, .inl s0_6_answers))] _ := hP
            have hD : va_D A [(h0, .inr (8, [.int s0_6_terms, .ref h0_1, .ref h0_2, .int s0_6_triples, .ref h0_3, .int s0_6_patterns, .ref h0_4, .ref h0_5, .int s0_6_found, .ref h0_6, .int s0_6_kept, .int s0_6_keptVariables, .ref h0_7, .int s0_6_thrown])), (h0_1, .inl (cI, 100, .inl s0_6_number)), (h0_2, .inl (cI, 40, .inl s0_6_term)), (h0_3, .inl (cI, 180, .inl (upd s0_6_store ((((3 : Int32) * x0_2) + v5_5)).toNatClampNeg (s0_6_store ((((3 : Int32) * s0_6_triples) + v5_5)).toNatClampNeg)))), (h0_4, .inl (cI, 9, .inl s0_6_query)), (h0_5, .inl (cI, 16, .inl s0_6_bound)), (h0_6, .inl (cI, 2000, .inl s0_6_work)), (h0_7, .inl (cI, 2000, .inl s0_6_answers))] := hD
            refine lv_iinc (v := (v5_5 + (1 : Int32))) (lv' := [(5, .int (v5_5 + (1 : Int32))), (0, .ref h0), (4, .int x0_2)]) hx hb dX8_takeBack_91 hl (k := 2) rfl rfl (by decide) rfl (fun ls hl => ?_)
            refine lv_goto (tgt := 59) hx hb dX8_takeBack_94 (by decide) ?_
            have hl : lv_has ls 6 [(0, .ref h0), (4, .int x0_2), (5, .int (v5_5 + (1 : Int32)))] := lv_sub hl [1, 2, 0] rfl
            obtain ⟨k_8, hk_9, h⟩ := h
            exact ih_4 k_8 hk_9 (v5_5 + (1 : Int32)) s0_6_terms s0_6_number s0_6_term s0_6_triples (upd s0_6_store ((((3 : Int32) * x0_2) + v5_5)).toNatClampNeg (s0_6_store ((((3 : Int32) * s0_6_triples) + v5_5)).toNatClampNeg)) s0_6_patterns s0_6_query s0_6_bound s0_6_found s0_6_work s0_6_kept s0_6_keptVariables s0_6_answers s0_6_thrown h _ _ hP hD hS _ hl
      exact loop_4 n_4 (0 : Int32) s0_1_terms s0_1_number s0_1_term (s0_1_triples - (1 : Int32)) s0_1_store s0_1_patterns s0_1_query s0_1_bound s0_1_found s0_1_work s0_1_kept s0_1_keptVariables s0_1_answers s0_1_thrown h _ _ hP hD hS _ hl
    · have h := hf_ c_3
      refine lv_iconst (v := (0 : Int32)) hx hb dX8_takeBack_44 (by decide) ?_
      exact W.zret (v := (0 : Int32)) hx hb hr (by decide +kernel) (fun t ht hW => ⟨⟨(0 : Int32), (s0_1_terms, s0_1_number, s0_1_term, s0_1_triples, s0_1_store, s0_1_patterns, s0_1_query, s0_1_bound, s0_1_found, s0_1_work, s0_1_kept, s0_1_keptVariables, s0_1_answers, s0_1_thrown), rfl, h, ⟨by rw [ht]; exact hP, hD⟩⟩, hS.F ht⟩) hS.2.2 dX8_takeBack_45
  have lab_16 : ∀ (s0_10_terms : Int32) (s0_10_number : Nat → Int32) (s0_10_term : Nat → Int32) (s0_10_triples : Int32) (s0_10_store : Nat → Int32) (s0_10_patterns : Int32) (s0_10_query : Nat → Int32) (s0_10_bound : Nat → Int32) (s0_10_found : Int32) (s0_10_work : Nat → Int32) (s0_10_kept : Int32) (s0_10_keptVariables : Int32) (s0_10_answers : Nat → Int32) (s0_10_thrown : Int32) (x0_11 : Int32) (h : P_X8_takeBack_j16 (s0_10_terms, s0_10_number, s0_10_term, s0_10_triples, s0_10_store, s0_10_patterns, s0_10_query, s0_10_bound, s0_10_found, s0_10_work, s0_10_kept, s0_10_keptVariables, s0_10_answers, s0_10_thrown) v1 v2 v3 x0_11 post) (H : Heap) (locs : List Loc) (hP : va_P (dC, dI) vwCl [(h0, .inr (8, [.int s0_10_terms, .ref h0_1, .ref h0_2, .int s0_10_triples, .ref h0_3, .int s0_10_patterns, .ref h0_4, .ref h0_5, .int s0_10_found, .ref h0_6, .int s0_10_kept, .int s0_10_keptVariables, .ref h0_7, .int s0_10_thrown])), (h0_1, .inl (cI, 100, .inl s0_10_number)), (h0_2, .inl (cI, 40, .inl s0_10_term)), (h0_3, .inl (cI, 180, .inl s0_10_store)), (h0_4, .inl (cI, 9, .inl s0_10_query)), (h0_5, .inl (cI, 16, .inl s0_10_bound)), (h0_6, .inl (cI, 2000, .inl s0_10_work)), (h0_7, .inl (cI, 2000, .inl s0_10_answers))] H) (hD : va_D A [(h0, .inr (8, [.int s0_10_terms, .ref h0_1, .ref h0_2, .int s0_10_triples, .ref h0_3, .int s0_10_patterns, .ref h0_4, .ref h0_5, .int s0_10_found, .ref h0_6, .int s0_10_kept, .int s0_10_keptVariables, .ref h0_7, .int s0_10_thrown])), (h0_1, .inl (cI, 100, .inl s0_10_number)), (h0_2, .inl (cI, 40, .inl s0_10_term)), (h0_3, .inl (cI, 180, .inl s0_10_store)), (h0_4, .inl (cI, 9, .inl s0_10_query)), (h0_5, .inl (cI, 16, .inl s0_10_bound)), (h0_6, .inl (cI, 2000, .inl s0_10_work)), (h0_7, .inl (cI, 2000, .inl s0_10_answers))]) (hS : va_S A s.heap H locs) (ls : Array Slot) (hl : lv_has ls 6 [(0, .ref h0), (1, .int v1), (2, .int v2), (3, .int v3)]), W p l e rm_X8_takeBack s m ([.ref h0, .int v1, .int v2, .int v3] : List Value).toArray below meth c H locs 0 0 (MQ below (Q_X8_takeBack dC dI cI h0 h0_1 h0_2 h0_3 h0_4 h0_5 h0_6 h0_7 (s0_terms, s0_number, s0_term, s0_triples, s0_store, s0_patterns, s0_query, s0_bound, s0_found, s0_work, s0_kept, s0_keptVariables, s0_answers, s0_thrown) A post) (([.ref h0, .int v1, .int v2, .int v3] : List Value).toArray) s 0 0 A) (F0 m 16 ls [.int x0_11, .ref h0]) := by
    intro s0_10_terms s0_10_number s0_10_term s0_10_triples s0_10_store s0_10_patterns s0_10_query s0_10_bound s0_10_found s0_10_work s0_10_kept s0_10_keptVariables s0_10_answers s0_10_thrown x0_11 h H locs hP hD hS ls hl
    refine va_put (D := (dC, dI)) (ci := 8) (v := .int x0_11) (ty := .int) (C := RX8) (T := TX8) (N := 14) hx hb hts (hinX8) tyX8 tyX8_ok nmX8 hown hK hP hD hS 0 rfl rfl 13 (by decide) (hts (.fieldLink RX8 31 "TripleJoinsModel" "thrown" "I") (by decide +kernel)) (fun _ h9 => h9) rfl (by decide +kernel) rfl rfl (Nat.le_of_ble_eq_true rfl) dX8_takeBack_16 (fun H locs hP hD hS => ?_)
    have hP : va_P (dC, dI) vwCl [(h0, .inr (8, [.int s0_10_terms, .ref h0_1, .ref h0_2, .int s0_10_triples, .ref h0_3, .int s0_10_patterns, .ref h0_4, .ref h0_5, .int s0_10_found, .ref h0_6, .int s0_10_kept, .int s0_10_keptVariables, .ref h0_7, .int x0_11])), (h0_1, .inl (cI, 100, .inl s0_10_number)), (h0_2, .inl (cI, 40, .inl s0_10_term)), (h0_3, .inl (cI, 180, .inl s0_10_store)), (h0_4, .inl (cI, 9, .inl s0_10_query)), (h0_5, .inl (cI, 16, .inl s0_10_bound)), (h0_6, .inl (cI, 2000, .inl s0_10_work)), (h0_7, .inl (cI, 2000, .inl s0_10_answers))] _ := hP
    have hD : va_D A [(h0, .inr (8, [.int s0_10_terms, .ref h0_1, .ref h0_2, .int s0_10_triples, .ref h0_3, .int s0_10_patterns, .ref h0_4, .ref h0_5, .int s0_10_found, .ref h0_6, .int s0_10_kept, .int s0_10_keptVariables, .ref h0_7, .int x0_11])), (h0_1, .inl (cI, 100, .inl s0_10_number)), (h0_2, .inl (cI, 40, .inl s0_10_term)), (h0_3, .inl (cI, 180, .inl s0_10_store)), (h0_4, .inl (cI, 9, .inl s0_10_query)), (h0_5, .inl (cI, 16, .inl s0_10_bound)), (h0_6, .inl (cI, 2000, .inl s0_10_work)), (h0_7, .inl (cI, 2000, .inl s0_10_answers))] := hD
    refine lv_aload_n hx hb dX8_takeBack_19 rfl (lv_at hl 0 rfl) ?_
    refine va_get (D := (dC, dI)) (ci := 8) (v := .int x0_11) (C := RX8) (T := TX8) (N := 14) hx hb hts (hinX8) hown hK hP 0 rfl rfl 13 (by decide) (hts (.fieldLink RX8 31 "TripleJoinsModel" "thrown" "I") (by decide +kernel)) (fun _ h9 => h9) rfl dX8_takeBack_20 ?_
    obtain ⟨ht_, hf_⟩ := h
    refine lv_if_le (tgt := 30) hx hb dX8_takeBack_23 (by decide) (fun c_12 => ?_) (fun c_12 => ?_)
    · have h := ht_ c_12
      refine lv_aload_n hx hb dX8_takeBack_30 rfl (lv_at hl 0 rfl) ?_
      refine lv_iload_n hx hb dX8_takeBack_31 rfl (lv_at hl 1 rfl) ?_
      refine lv_iload_n hx hb dX8_takeBack_32 rfl (lv_at hl 2 rfl) ?_
      refine lv_iload_n hx hb dX8_takeBack_33 rfl (lv_at hl 3 rfl) ?_
      have hPc := hP.sub (ws' := [(h0, .inr (8, [.int s0_10_terms, .ref h0_1, .ref h0_2, .int s0_10_triples, .ref h0_3, .int s0_10_patterns, .ref h0_4, .ref h0_5, .int s0_10_found, .ref h0_6, .int s0_10_kept, .int s0_10_keptVariables, .ref h0_7, .int x0_11])), (h0_1, .inl (cI, 100, .inl s0_10_number)), (h0_2, .inl (cI, 40, .inl s0_10_term)), (h0_3, .inl (cI, 180, .inl s0_10_store)), (h0_4, .inl (cI, 9, .inl s0_10_query)), (h0_5, .inl (cI, 16, .inl s0_10_bound)), (h0_6, .inl (cI, 2000, .inl s0_10_work)), (h0_7, .inl (cI, 2000, .inl s0_10_answers))]) [0, 1, 2, 3, 4, 5, 6, 7] rfl
      have hDc := hD.sub (ws' := [(h0, .inr (8, [.int s0_10_terms, .ref h0_1, .ref h0_2, .int s0_10_triples, .ref h0_3, .int s0_10_patterns, .ref h0_4, .ref h0_5, .int s0_10_found, .ref h0_6, .int s0_10_kept, .int s0_10_keptVariables, .ref h0_7, .int x0_11])), (h0_1, .inl (cI, 100, .inl s0_10_number)), (h0_2, .inl (cI, 40, .inl s0_10_term)), (h0_3, .inl (cI, 180, .inl s0_10_store)), (h0_4, .inl (cI, 9, .inl s0_10_query)), (h0_5, .inl (cI, 16, .inl s0_10_bound)), (h0_6, .inl (cI, 2000, .inl s0_10_work)), (h0_7, .inl (cI, 2000, .inl s0_10_answers))]) [0, 1, 2, 3, 4, 5, 6, 7] (by decide) rfl
      have hFc := fr0 hA hS
      refine va_calli (va_runV (As := [.int v1, .int v2, .int v3]) (rest := []) ⟨hx, hb, hml, hown, hts⟩ (c_X8_find l dC dI cI h0 h0_1 h0_2 h0_3 h0_4 h0_5 h0_6 h0_7 _ (s0_10_terms, s0_10_number, s0_10_term, s0_10_triples, s0_10_store, s0_10_patterns, s0_10_query, s0_10_bound, s0_10_found, s0_10_work, s0_10_kept, s0_10_keptVariables, s0_10_answers, x0_11) v1 v2 v3 _ h) (cwV 3 hts gX8_takeBack_X8_find rfl rfl rfl (by decide +kernel) ⟨Nat.le_of_ble_eq_true rfl, Nat.le_of_ble_eq_true rfl⟩) (pb_V hPc hK hDc hN (ci := 8) (q0 := 0) rfl rfl) rfl rfl hl.1 rfl (lv_room (Nat.le_of_ble_eq_true rfl)) dX8_takeBack_34 ⟨Nat.zero_le _, Nat.zero_le _⟩) hS (fun q _ h => hFc q h) hFc (fun r_14 u_13 t H locs ht hvm h hB hz1 hk1 hS => ?_)
      have hP := vaPk hP hk1
      have hl : lv_has ls 6 [(0, .ref h0)] := lv_sub hl [0] rfl
      exact lab_37 s0_10_terms s0_10_number s0_10_term s0_10_triples s0_10_store s0_10_patterns s0_10_query s0_10_bound s0_10_found s0_10_work s0_10_kept s0_10_keptVariables s0_10_answers x0_11 r_14 h _ _ hP hD hS _ hl
    · have h := hf_ c_12
      refine lv_iconst (v := (-1 : Int32)) hx hb dX8_takeBack_26 (by decide) ?_
      refine lv_goto (tgt := 37) hx hb dX8_takeBack_27 (by decide) ?_
      have hl : lv_has ls 6 [(0, .ref h0)] := lv_sub hl [0] rfl
      exact lab_37 s0_10_terms s0_10_number s0_10_term s0_10_triples s0_10_store s0_10_patterns s0_10_query s0_10_bound s0_10_found s0_10_work s0_10_kept s0_10_keptVariables s0_10_answers x0_11 (-1 : Int32) h _ _ hP hD hS _ hl
  refine lv_aload_n hx hb dX8_takeBack_0 rfl (lv_at hl 0 rfl) ?_
  refine lv_iload_n hx hb dX8_takeBack_1 rfl (lv_at hl 1 rfl) ?_
  refine lv_iload_n hx hb dX8_takeBack_2 rfl (lv_at hl 2 rfl) ?_
  refine lv_iload_n hx hb dX8_takeBack_3 rfl (lv_at hl 3 rfl) ?_
  refine lv_iconst (v := (0 : Int32)) hx hb dX8_takeBack_4 (by decide) ?_
  have hPc := hP.sub (ws' := []) [] rfl
  have hDc := hD.sub (ws' := []) [] (by decide) rfl
  have hFc := fr0 hA hS
  refine va_calli (va_runS (As := [.int v1, .int v2, .int v3, .int (0 : Int32)]) (rest := [.ref h0]) ⟨hx, hb, hml, hown, hts⟩ (c_X8_areTerms l dC dI cI  _ v1 v2 v3 (0 : Int32) _ h) (va_cwS 4 hts gX8_takeBack_X8_areTerms rfl rfl rfl (by decide +kernel) ⟨Nat.le_of_ble_eq_true rfl, Nat.le_of_ble_eq_true rfl⟩) (pb_S hPc hK hDc hN) rfl rfl hl.1 rfl (lv_room (Nat.le_of_ble_eq_true rfl)) dX8_takeBack_5 ⟨Nat.zero_le _, Nat.zero_le _⟩) hS (fun q _ h => hFc q h) hFc (fun r_16 u_15 t H locs ht hvm h hB hz1 hk1 hS => ?_)
  have hP := vaPk hP hk1
  obtain ⟨ht_, hf_⟩ := h
  refine lv_if_eq (tgt := 15) hx hb dX8_takeBack_8 (by decide) (fun c_17 => ?_) (fun c_17 => ?_)
  · have h := ht_ c_17
    refine lv_iconst (v := (1 : Int32)) hx hb dX8_takeBack_15 (by decide) ?_
    exact lab_16 s0_terms s0_number s0_term s0_triples s0_store s0_patterns s0_query s0_bound s0_found s0_work s0_kept s0_keptVariables s0_answers s0_thrown (1 : Int32) h _ _ hP hD hS _ hl
  · have h := hf_ c_17
    refine lv_iconst (v := (0 : Int32)) hx hb dX8_takeBack_11 (by decide) ?_
    refine lv_goto (tgt := 16) hx hb dX8_takeBack_12 (by decide) ?_
    exact lab_16 s0_terms s0_number s0_term s0_triples s0_store s0_patterns s0_query s0_bound s0_found s0_work s0_kept s0_keptVariables s0_answers s0_thrown (0 : Int32) h _ _ hP hD hS _ hl
abbrev Q_X8_triples (dC : Nat → ClassId) (dI : Nat → Nat → Nat) (cI : ClassId) (h0 h0_1 h0_2 h0_3 h0_4 h0_5 h0_6 h0_7 : Nat) (s0 : ModS) (A : Nat → Prop) (post : Int32 → ModS → Prop) : Array Value → State → Outcome → State → Prop := va_Qi post (fun (u : ModS) (t : State) => va_P (dC, dI) vwCl [(h0, .inr (8, [.int u.terms, .ref h0_1, .ref h0_2, .int u.triples, .ref h0_3, .int u.patterns, .ref h0_4, .ref h0_5, .int u.found, .ref h0_6, .int u.kept, .int u.keptVariables, .ref h0_7, .int u.thrown])), (h0_1, .inl (cI, 100, .inl u.number)), (h0_2, .inl (cI, 40, .inl u.term)), (h0_3, .inl (cI, 180, .inl u.store)), (h0_4, .inl (cI, 9, .inl u.query)), (h0_5, .inl (cI, 16, .inl u.bound)), (h0_6, .inl (cI, 2000, .inl u.work)), (h0_7, .inl (cI, 2000, .inl u.answers))] t.heap ∧ va_D A [(h0, .inr (8, [.int u.terms, .ref h0_1, .ref h0_2, .int u.triples, .ref h0_3, .int u.patterns, .ref h0_4, .ref h0_5, .int u.found, .ref h0_6, .int u.kept, .int u.keptVariables, .ref h0_7, .int u.thrown])), (h0_1, .inl (cI, 100, .inl u.number)), (h0_2, .inl (cI, 40, .inl u.term)), (h0_3, .inl (cI, 180, .inl u.store)), (h0_4, .inl (cI, 9, .inl u.query)), (h0_5, .inl (cI, 16, .inl u.bound)), (h0_6, .inl (cI, 2000, .inl u.work)), (h0_7, .inl (cI, 2000, .inl u.answers))]) A
abbrev rm_X8_triples : Room := { frames := 0, cells := 0, slots := 0, locals := 0 }
set_option maxHeartbeats 4000000 in
set_option maxRecDepth 100000 in
theorem c_X8_triples (l : Launch) (dC : Nat → ClassId) (dI : Nat → Nat → Nat) (cI : ClassId) (h0 h0_1 h0_2 h0_3 h0_4 h0_5 h0_6 h0_7 : Nat) (sz : Nat) (s0 : ModS) (post : Int32 → ModS → Prop) (h : P_X8_triples s0 post) : Met l yX8_triples wsX8_triples rm_X8_triples (va_Pc [.ref h0] (cpre (dC, dI) [(cI, .int)] [(h0, .inr (8, [.int s0.terms, .ref h0_1, .ref h0_2, .int s0.triples, .ref h0_3, .int s0.patterns, .ref h0_4, .ref h0_5, .int s0.found, .ref h0_6, .int s0.kept, .int s0.keptVariables, .ref h0_7, .int s0.thrown])), (h0_1, .inl (cI, 100, .inl s0.number)), (h0_2, .inl (cI, 40, .inl s0.term)), (h0_3, .inl (cI, 180, .inl s0.store)), (h0_4, .inl (cI, 9, .inl s0.query)), (h0_5, .inl (cI, 16, .inl s0.bound)), (h0_6, .inl (cI, 2000, .inl s0.work)), (h0_7, .inl (cI, 2000, .inl s0.answers))] sz)) (Q_X8_triples dC dI cI h0 h0_1 h0_2 h0_3 h0_4 h0_5 h0_6 h0_7 s0 (va_A [(h0, .inr (8, [.int s0.terms, .ref h0_1, .ref h0_2, .int s0.triples, .ref h0_3, .int s0.patterns, .ref h0_4, .ref h0_5, .int s0.found, .ref h0_6, .int s0.kept, .int s0.keptVariables, .ref h0_7, .int s0.thrown])), (h0_1, .inl (cI, 100, .inl s0.number)), (h0_2, .inl (cI, 40, .inl s0.term)), (h0_3, .inl (cI, 180, .inl s0.store)), (h0_4, .inl (cI, 9, .inl s0.query)), (h0_5, .inl (cI, 16, .inl s0.bound)), (h0_6, .inl (cI, 2000, .inl s0.work)), (h0_7, .inl (cI, 2000, .inl s0.answers))] sz) post) 0 0 (va_A [(h0, .inr (8, [.int s0.terms, .ref h0_1, .ref h0_2, .int s0.triples, .ref h0_3, .int s0.patterns, .ref h0_4, .ref h0_5, .int s0.found, .ref h0_6, .int s0.kept, .int s0.keptVariables, .ref h0_7, .int s0.thrown])), (h0_1, .inl (cI, 100, .inl s0.number)), (h0_2, .inl (cI, 40, .inl s0.term)), (h0_3, .inl (cI, 180, .inl s0.store)), (h0_4, .inl (cI, 9, .inl s0.query)), (h0_5, .inl (cI, 16, .inl s0.bound)), (h0_6, .inl (cI, 2000, .inl s0.work)), (h0_7, .inl (cI, 2000, .inl s0.answers))] sz) := by
  refine Met.ofW (cc := cX8_triples) (maxL := 1) (ret := (some .int)) (by decide) rfl ?_
  intro p e s m args below meth c s₁ B hml hv
  obtain ⟨rfl, hsz, hP, hK, hD0, hN⟩ := hv
  have hx := B.exec
  have hb := B.bytes
  have hr := B.returns
  have hts := atoms_spec (ws := wsX8_triples) B.pre
  have hown : s.vm.findClass RX8 = some m.cls := findClass_of_methodNamed B.named
  have hlocks := B.notSynchronized
  subst hsz
  have hD := hD0.self (sz := s.heap.size)
  generalize hAe : va_A [(h0, .inr (8, [.int s0.terms, .ref h0_1, .ref h0_2, .int s0.triples, .ref h0_3, .int s0.patterns, .ref h0_4, .ref h0_5, .int s0.found, .ref h0_6, .int s0.kept, .int s0.keptVariables, .ref h0_7, .int s0.thrown])), (h0_1, .inl (cI, 100, .inl s0.number)), (h0_2, .inl (cI, 40, .inl s0.term)), (h0_3, .inl (cI, 180, .inl s0.store)), (h0_4, .inl (cI, 9, .inl s0.query)), (h0_5, .inl (cI, 16, .inl s0.bound)), (h0_6, .inl (cI, 2000, .inl s0.work)), (h0_7, .inl (cI, 2000, .inl s0.answers))] s.heap.size = A at hD ⊢
  have hA : ∀ q : Nat, s.heap.size ≤ q → A q := fun q h => by rw [← hAe]; exact Or.inr h
  clear hAe hD0
  obtain ⟨s0_terms, s0_number, s0_term, s0_triples, s0_store, s0_patterns, s0_query, s0_bound, s0_found, s0_work, s0_kept, s0_keptVariables, s0_answers, s0_thrown⟩ := s0
  have hS : va_S A s.heap s.heap [] := va_S.rf
  have hP : va_P (dC, dI) vwCl [(h0, .inr (8, [.int s0_terms, .ref h0_1, .ref h0_2, .int s0_triples, .ref h0_3, .int s0_patterns, .ref h0_4, .ref h0_5, .int s0_found, .ref h0_6, .int s0_kept, .int s0_keptVariables, .ref h0_7, .int s0_thrown])), (h0_1, .inl (cI, 100, .inl s0_number)), (h0_2, .inl (cI, 40, .inl s0_term)), (h0_3, .inl (cI, 180, .inl s0_store)), (h0_4, .inl (cI, 9, .inl s0_query)), (h0_5, .inl (cI, 16, .inl s0_bound)), (h0_6, .inl (cI, 2000, .inl s0_work)), (h0_7, .inl (cI, 2000, .inl s0_answers))] s.heap := hP
  have hD : va_D A [(h0, .inr (8, [.int s0_terms, .ref h0_1, .ref h0_2, .int s0_triples, .ref h0_3, .int s0_patterns, .ref h0_4, .ref h0_5, .int s0_found, .ref h0_6, .int s0_kept, .int s0_keptVariables, .ref h0_7, .int s0_thrown])), (h0_1, .inl (cI, 100, .inl s0_number)), (h0_2, .inl (cI, 40, .inl s0_term)), (h0_3, .inl (cI, 180, .inl s0_store)), (h0_4, .inl (cI, 9, .inl s0_query)), (h0_5, .inl (cI, 16, .inl s0_bound)), (h0_6, .inl (cI, 2000, .inl s0_work)), (h0_7, .inl (cI, 2000, .inl s0_answers))] := hD
  have hl := lv_entry ([.ref h0]) (n := 1) (Nat.le_of_ble_eq_true rfl)
  rw [lg_entry_eq]
  generalize (lg_sl ([.ref h0]) ++ List.replicate (1 - (lg_sl ([.ref h0])).length) Slot.unset).toArray = ls at hl ⊢
  have hl : lv_has ls 1 [(0, .ref h0)] := hl
  have hinX8 : ∀ w ∈ u_ws RX8 TX8 14, w ∈ wsX8_triples := by decide +kernel
  refine lv_aload_n hx hb dX8_triples_0 rfl (lv_at hl 0 rfl) ?_
  refine lv_iconst (v := (0 : Int32)) hx hb dX8_triples_1 (by decide) ?_
  refine va_put (D := (dC, dI)) (ci := 8) (v := .int (0 : Int32)) (ty := .int) (C := RX8) (T := TX8) (N := 14) hx hb hts (hinX8) tyX8 tyX8_ok nmX8 hown hK hP hD hS 0 rfl rfl 13 (by decide) (hts (.fieldLink RX8 31 "TripleJoinsModel" "thrown" "I") (by decide +kernel)) (fun _ h9 => h9) rfl (by decide +kernel) rfl rfl (Nat.le_of_ble_eq_true rfl) dX8_triples_2 (fun H locs hP hD hS => ?_)
  have hP : va_P (dC, dI) vwCl [(h0, .inr (8, [.int s0_terms, .ref h0_1, .ref h0_2, .int s0_triples, .ref h0_3, .int s0_patterns, .ref h0_4, .ref h0_5, .int s0_found, .ref h0_6, .int s0_kept, .int s0_keptVariables, .ref h0_7, .int (0 : Int32)])), (h0_1, .inl (cI, 100, .inl s0_number)), (h0_2, .inl (cI, 40, .inl s0_term)), (h0_3, .inl (cI, 180, .inl s0_store)), (h0_4, .inl (cI, 9, .inl s0_query)), (h0_5, .inl (cI, 16, .inl s0_bound)), (h0_6, .inl (cI, 2000, .inl s0_work)), (h0_7, .inl (cI, 2000, .inl s0_answers))] _ := hP
  have hD : va_D A [(h0, .inr (8, [.int s0_terms, .ref h0_1, .ref h0_2, .int s0_triples, .ref h0_3, .int s0_patterns, .ref h0_4, .ref h0_5, .int s0_found, .ref h0_6, .int s0_kept, .int s0_keptVariables, .ref h0_7, .int (0 : Int32)])), (h0_1, .inl (cI, 100, .inl s0_number)), (h0_2, .inl (cI, 40, .inl s0_term)), (h0_3, .inl (cI, 180, .inl s0_store)), (h0_4, .inl (cI, 9, .inl s0_query)), (h0_5, .inl (cI, 16, .inl s0_bound)), (h0_6, .inl (cI, 2000, .inl s0_work)), (h0_7, .inl (cI, 2000, .inl s0_answers))] := hD
  refine lv_aload_n hx hb dX8_triples_5 rfl (lv_at hl 0 rfl) ?_
  refine va_get (D := (dC, dI)) (ci := 8) (v := .int s0_triples) (C := RX8) (T := TX8) (N := 14) hx hb hts (hinX8) hown hK hP 0 rfl rfl 3 (by decide) (hts (.fieldLink RX8 39 "TripleJoinsModel" "triples" "I") (by decide +kernel)) (fun _ h9 => h9) rfl dX8_triples_6 ?_
  exact W.iret (v := s0_triples) hx hb hr (fun t ht hW => ⟨⟨s0_triples, (s0_terms, s0_number, s0_term, s0_triples, s0_store, s0_patterns, s0_query, s0_bound, s0_found, s0_work, s0_kept, s0_keptVariables, s0_answers, (0 : Int32)), rfl, h, ⟨by rw [ht]; exact hP, hD⟩⟩, hS.F ht⟩) hS.2.2 dX8_triples_9
abbrev Q_X8_rank (dC : Nat → ClassId) (dI : Nat → Nat → Nat) (cI : ClassId) (h0 h0_1 h0_2 h0_3 h0_4 h0_5 h0_6 h0_7 : Nat) (s0 : ModS) (A : Nat → Prop) (post : Int32 → Prop) : Array Value → State → Outcome → State → Prop := va_Qi (fun (r : Int32) (_ : Unit) => post r) (fun _ _ => True) A
abbrev rm_X8_rank : Room := { frames := 0, cells := 0, slots := 0, locals := 0 }
set_option maxHeartbeats 4000000 in
set_option maxRecDepth 100000 in
theorem c_X8_rank (l : Launch) (dC : Nat → ClassId) (dI : Nat → Nat → Nat) (cI : ClassId) (h0 h0_1 h0_2 h0_3 h0_4 h0_5 h0_6 h0_7 : Nat) (sz : Nat) (s0 : ModS) (v1 : Int32) (v2 : Int32) (post : Int32 → Prop) (h : P_X8_rank s0 v1 v2 post) : Met l yX8_rank wsX8_rank rm_X8_rank (va_Pc [.ref h0, .int v1, .int v2] (cpre (dC, dI) [(cI, .int)] [(h0, .inr (8, [.int s0.terms, .ref h0_1, .ref h0_2, .int s0.triples, .ref h0_3, .int s0.patterns, .ref h0_4, .ref h0_5, .int s0.found, .ref h0_6, .int s0.kept, .int s0.keptVariables, .ref h0_7, .int s0.thrown])), (h0_1, .inl (cI, 100, .inl s0.number)), (h0_2, .inl (cI, 40, .inl s0.term)), (h0_3, .inl (cI, 180, .inl s0.store)), (h0_4, .inl (cI, 9, .inl s0.query)), (h0_5, .inl (cI, 16, .inl s0.bound)), (h0_6, .inl (cI, 2000, .inl s0.work)), (h0_7, .inl (cI, 2000, .inl s0.answers))] sz)) (Q_X8_rank dC dI cI h0 h0_1 h0_2 h0_3 h0_4 h0_5 h0_6 h0_7 s0 (va_A [] sz) post) 0 0 (va_A [] sz) := by
  refine Met.ofW (cc := cX8_rank) (maxL := 4) (ret := (some .int)) (by decide) rfl ?_
  intro p e s m args below meth c s₁ B hml hv
  obtain ⟨rfl, hsz, hP, hK, hD0, hN⟩ := hv
  have hx := B.exec
  have hb := B.bytes
  have hr := B.returns
  have hts := atoms_spec (ws := wsX8_rank) B.pre
  have hown : s.vm.findClass RX8 = some m.cls := findClass_of_methodNamed B.named
  have hlocks := B.notSynchronized
  subst hsz
  have hD := hD0
  generalize hAe : va_A [] s.heap.size = A
  have hA : ∀ q : Nat, s.heap.size ≤ q → A q := fun q h => by rw [← hAe]; exact Or.inr h
  clear hAe hD0
  obtain ⟨s0_terms, s0_number, s0_term, s0_triples, s0_store, s0_patterns, s0_query, s0_bound, s0_found, s0_work, s0_kept, s0_keptVariables, s0_answers, s0_thrown⟩ := s0
  have hS : va_S A s.heap s.heap [] := va_S.rf
  have hP : va_P (dC, dI) vwCl [(h0, .inr (8, [.int s0_terms, .ref h0_1, .ref h0_2, .int s0_triples, .ref h0_3, .int s0_patterns, .ref h0_4, .ref h0_5, .int s0_found, .ref h0_6, .int s0_kept, .int s0_keptVariables, .ref h0_7, .int s0_thrown])), (h0_1, .inl (cI, 100, .inl s0_number)), (h0_2, .inl (cI, 40, .inl s0_term)), (h0_3, .inl (cI, 180, .inl s0_store)), (h0_4, .inl (cI, 9, .inl s0_query)), (h0_5, .inl (cI, 16, .inl s0_bound)), (h0_6, .inl (cI, 2000, .inl s0_work)), (h0_7, .inl (cI, 2000, .inl s0_answers))] s.heap := hP
  have hD : va_D (fun _ : Nat => True) [(h0, .inr (8, [.int s0_terms, .ref h0_1, .ref h0_2, .int s0_triples, .ref h0_3, .int s0_patterns, .ref h0_4, .ref h0_5, .int s0_found, .ref h0_6, .int s0_kept, .int s0_keptVariables, .ref h0_7, .int s0_thrown])), (h0_1, .inl (cI, 100, .inl s0_number)), (h0_2, .inl (cI, 40, .inl s0_term)), (h0_3, .inl (cI, 180, .inl s0_store)), (h0_4, .inl (cI, 9, .inl s0_query)), (h0_5, .inl (cI, 16, .inl s0_bound)), (h0_6, .inl (cI, 2000, .inl s0_work)), (h0_7, .inl (cI, 2000, .inl s0_answers))] := hD
  have hl := lv_entry ([.ref h0, .int v1, .int v2]) (n := 4) (Nat.le_of_ble_eq_true rfl)
  rw [lg_entry_eq]
  generalize (lg_sl ([.ref h0, .int v1, .int v2]) ++ List.replicate (4 - (lg_sl ([.ref h0, .int v1, .int v2])).length) Slot.unset).toArray = ls at hl ⊢
  have hl : lv_has ls 4 [(0, .ref h0), (1, .int v1), (2, .int v2)] := hl
  have hinX8 : ∀ w ∈ u_ws RX8 TX8 14, w ∈ wsX8_rank := by decide +kernel
  refine lv_iconst (v := (3 : Int32)) hx hb dX8_rank_0 (by decide) ?_
  refine lv_iload_n hx hb dX8_rank_1 rfl (lv_at hl 2 rfl) ?_
  refine lv_imul hx hb dX8_rank_2 ?_
  refine lv_istore_n (lv' := [(3, .int ((3 : Int32) * v2)), (0, .ref h0), (1, .int v1), (2, .int v2)]) hx hb dX8_rank_3 rfl hl (by decide) rfl (fun ls hl => ?_)
  refine lv_aload_n hx hb dX8_rank_4 rfl (lv_at hl 1 rfl) ?_
  refine va_get (D := (dC, dI)) (ci := 8) (v := .ref h0_3) (C := RX8) (T := TX8) (N := 14) hx hb hts (hinX8) hown hK hP 0 rfl rfl 4 (by decide) (hts (.fieldLink RX8 16 "TripleJoinsModel" "store" "[I") (by decide +kernel)) (fun _ h9 => h9) rfl dX8_rank_5 ?_
  refine lv_iload_n hx hb dX8_rank_8 rfl (lv_at hl 0 rfl) ?_
  refine lv_iload_n hx hb dX8_rank_9 rfl (lv_at hl 2 rfl) ?_
  refine lv_iadd hx hb dX8_rank_10 ?_
  obtain ⟨hin, h⟩ := h
  refine va_iald (n := 180) hx hb hK hP 3 0 rfl rfl hin dX8_rank_11 ?_
  refine lv_bipush (v := (40 : Int32)) hx hb dX8_rank_12 (by decide) ?_
  refine lv_imul hx hb dX8_rank_14 ?_
  refine lv_aload_n hx hb dX8_rank_15 rfl (lv_at hl 1 rfl) ?_
  refine va_get (D := (dC, dI)) (ci := 8) (v := .ref h0_3) (C := RX8) (T := TX8) (N := 14) hx hb hts (hinX8) hown hK hP 0 rfl rfl 4 (by decide) (hts (.fieldLink RX8 16 "TripleJoinsModel" "store" "[I") (by decide +kernel)) (fun _ h9 => h9) rfl dX8_rank_16 ?_
  refine lv_iload_n hx hb dX8_rank_19 rfl (lv_at hl 0 rfl) ?_
  refine lv_iload_n hx hb dX8_rank_20 rfl (lv_at hl 2 rfl) ?_
  refine lv_iconst (v := (1 : Int32)) hx hb dX8_rank_21 (by decide) ?_
  refine lv_iadd hx hb dX8_rank_22 ?_
  refine lv_iconst (v := (3 : Int32)) hx hb dX8_rank_23 (by decide) ?_
  refine lv_irem hx hb dX8_rank_24 (by decide) ?_
  refine lv_iadd hx hb dX8_rank_25 ?_
  obtain ⟨hin, h⟩ := h
  refine va_iald (n := 180) hx hb hK hP 3 0 rfl rfl hin dX8_rank_26 ?_
  refine lv_iadd hx hb dX8_rank_27 ?_
  refine lv_bipush (v := (40 : Int32)) hx hb dX8_rank_28 (by decide) ?_
  refine lv_imul hx hb dX8_rank_30 ?_
  refine lv_aload_n hx hb dX8_rank_31 rfl (lv_at hl 1 rfl) ?_
  refine va_get (D := (dC, dI)) (ci := 8) (v := .ref h0_3) (C := RX8) (T := TX8) (N := 14) hx hb hts (hinX8) hown hK hP 0 rfl rfl 4 (by decide) (hts (.fieldLink RX8 16 "TripleJoinsModel" "store" "[I") (by decide +kernel)) (fun _ h9 => h9) rfl dX8_rank_32 ?_
  refine lv_iload_n hx hb dX8_rank_35 rfl (lv_at hl 0 rfl) ?_
  refine lv_iload_n hx hb dX8_rank_36 rfl (lv_at hl 2 rfl) ?_
  refine lv_iconst (v := (2 : Int32)) hx hb dX8_rank_37 (by decide) ?_
  refine lv_iadd hx hb dX8_rank_38 ?_
  refine lv_iconst (v := (3 : Int32)) hx hb dX8_rank_39 (by decide) ?_
  refine lv_irem hx hb dX8_rank_40 (by decide) ?_
  refine lv_iadd hx hb dX8_rank_41 ?_
  obtain ⟨hin, h⟩ := h
  refine va_iald (n := 180) hx hb hK hP 3 0 rfl rfl hin dX8_rank_42 ?_
  refine lv_iadd hx hb dX8_rank_43 ?_
  exact W.iret (v := (((((s0_store ((((3 : Int32) * v2) + v1)).toNatClampNeg) * (40 : Int32)) + (s0_store ((((3 : Int32) * v2) + ((v1 + (1 : Int32)) - (v1 + (1 : Int32)) / (3 : Int32) * (3 : Int32)))).toNatClampNeg)) * (40 : Int32)) + (s0_store ((((3 : Int32) * v2) + ((v1 + (2 : Int32)) - (v1 + (2 : Int32)) / (3 : Int32) * (3 : Int32)))).toNatClampNeg))) hx hb hr (fun t ht hW => ⟨⟨(((((s0_store ((((3 : Int32) * v2) + v1)).toNatClampNeg) * (40 : Int32)) + (s0_store ((((3 : Int32) * v2) + ((v1 + (1 : Int32)) - (v1 + (1 : Int32)) / (3 : Int32) * (3 : Int32)))).toNatClampNeg)) * (40 : Int32)) + (s0_store ((((3 : Int32) * v2) + ((v1 + (2 : Int32)) - (v1 + (2 : Int32)) / (3 : Int32) * (3 : Int32)))).toNatClampNeg)), (), rfl, h, trivial⟩, hS.F ht⟩) hS.2.2 dX8_rank_44
abbrev Q_X8_inOrder (dC : Nat → ClassId) (dI : Nat → Nat → Nat) (cI : ClassId) (h0 h0_1 h0_2 h0_3 h0_4 h0_5 h0_6 h0_7 : Nat) (s0 : ModS) (A : Nat → Prop) (post : Int32 → Prop) : Array Value → State → Outcome → State → Prop := va_Qi (fun (r : Int32) (_ : Unit) => post r) (fun _ _ => True) A
abbrev rm_X8_inOrder : Room := { frames := 1, cells := 0, slots := 0, locals := 23 }
set_option maxHeartbeats 4000000 in
set_option maxRecDepth 100000 in
theorem c_X8_inOrder (l : Launch) (dC : Nat → ClassId) (dI : Nat → Nat → Nat) (cI : ClassId) (h0 h0_1 h0_2 h0_3 h0_4 h0_5 h0_6 h0_7 : Nat) (sz : Nat) (s0 : ModS) (v1 : Int32) (v2 : Int32) (post : Int32 → Prop) (h : P_X8_inOrder s0 v1 v2 post) : Met l yX8_inOrder wsX8_inOrder rm_X8_inOrder (va_Pc [.ref h0, .int v1, .int v2] (cpre (dC, dI) [(cI, .int)] [(h0, .inr (8, [.int s0.terms, .ref h0_1, .ref h0_2, .int s0.triples, .ref h0_3, .int s0.patterns, .ref h0_4, .ref h0_5, .int s0.found, .ref h0_6, .int s0.kept, .int s0.keptVariables, .ref h0_7, .int s0.thrown])), (h0_1, .inl (cI, 100, .inl s0.number)), (h0_2, .inl (cI, 40, .inl s0.term)), (h0_3, .inl (cI, 180, .inl s0.store)), (h0_4, .inl (cI, 9, .inl s0.query)), (h0_5, .inl (cI, 16, .inl s0.bound)), (h0_6, .inl (cI, 2000, .inl s0.work)), (h0_7, .inl (cI, 2000, .inl s0.answers))] sz)) (Q_X8_inOrder dC dI cI h0 h0_1 h0_2 h0_3 h0_4 h0_5 h0_6 h0_7 s0 (va_A [] sz) post) 0 0 (va_A [] sz) := by
  refine Met.ofW (cc := cX8_inOrder) (maxL := 7) (ret := (some .int)) (by decide) rfl ?_
  intro p e s m args below meth c s₁ B hml hv
  obtain ⟨rfl, hsz, hP, hK, hD0, hN⟩ := hv
  have hx := B.exec
  have hb := B.bytes
  have hr := B.returns
  have hts := atoms_spec (ws := wsX8_inOrder) B.pre
  have hown : s.vm.findClass RX8 = some m.cls := findClass_of_methodNamed B.named
  have hlocks := B.notSynchronized
  subst hsz
  have hD := hD0
  generalize hAe : va_A [] s.heap.size = A
  have hA : ∀ q : Nat, s.heap.size ≤ q → A q := fun q h => by rw [← hAe]; exact Or.inr h
  clear hAe hD0
  obtain ⟨s0_terms, s0_number, s0_term, s0_triples, s0_store, s0_patterns, s0_query, s0_bound, s0_found, s0_work, s0_kept, s0_keptVariables, s0_answers, s0_thrown⟩ := s0
  have hS : va_S A s.heap s.heap [] := va_S.rf
  have hP : va_P (dC, dI) vwCl [(h0, .inr (8, [.int s0_terms, .ref h0_1, .ref h0_2, .int s0_triples, .ref h0_3, .int s0_patterns, .ref h0_4, .ref h0_5, .int s0_found, .ref h0_6, .int s0_kept, .int s0_keptVariables, .ref h0_7, .int s0_thrown])), (h0_1, .inl (cI, 100, .inl s0_number)), (h0_2, .inl (cI, 40, .inl s0_term)), (h0_3, .inl (cI, 180, .inl s0_store)), (h0_4, .inl (cI, 9, .inl s0_query)), (h0_5, .inl (cI, 16, .inl s0_bound)), (h0_6, .inl (cI, 2000, .inl s0_work)), (h0_7, .inl (cI, 2000, .inl s0_answers))] s.heap := hP
  have hD : va_D (fun _ : Nat => True) [(h0, .inr (8, [.int s0_terms, .ref h0_1, .ref h0_2, .int s0_triples, .ref h0_3, .int s0_patterns, .ref h0_4, .ref h0_5, .int s0_found, .ref h0_6, .int s0_kept, .int s0_keptVariables, .ref h0_7, .int s0_thrown])), (h0_1, .inl (cI, 100, .inl s0_number)), (h0_2, .inl (cI, 40, .inl s0_term)), (h0_3, .inl (cI, 180, .inl s0_store)), (h0_4, .inl (cI, 9, .inl s0_query)), (h0_5, .inl (cI, 16, .inl s0_bound)), (h0_6, .inl (cI, 2000, .inl s0_work)), (h0_7, .inl (cI, 2000, .inl s0_answers))] := hD
  have hl := lv_entry ([.ref h0, .int v1, .int v2]) (n := 7) (Nat.le_of_ble_eq_true rfl)
  rw [lg_entry_eq]
  generalize (lg_sl ([.ref h0, .int v1, .int v2]) ++ List.replicate (7 - (lg_sl ([.ref h0, .int v1, .int v2])).length) Slot.unset).toArray = ls at hl ⊢
  have hl : lv_has ls 7 [(0, .ref h0), (1, .int v1), (2, .int v2)] := hl
  have hinX8 : ∀ w ∈ u_ws RX8 TX8 14, w ∈ wsX8_inOrder := by decide +kernel
  refine lv_iconst (v := (-1 : Int32)) hx hb dX8_inOrder_0 (by decide) ?_
  refine lv_istore_n (lv' := [(3, .int (-1 : Int32)), (0, .ref h0), (1, .int v1), (2, .int v2)]) hx hb dX8_inOrder_1 rfl hl (by decide) rfl (fun ls hl => ?_)
  refine lv_iconst (v := (0 : Int32)) hx hb dX8_inOrder_2 (by decide) ?_
  refine lv_istore (lv' := [(4, .int (0 : Int32)), (3, .int (-1 : Int32)), (0, .ref h0), (1, .int v1), (2, .int v2)]) hx hb dX8_inOrder_3 hl (by decide) rfl (fun ls hl => ?_)
  have hl : lv_has ls 7 [(0, .ref h0), (1, .int v1), (2, .int v2), (3, .int (-1 : Int32)), (4, .int (0 : Int32))] := lv_sub hl [2, 3, 4, 1, 0] rfl
  obtain ⟨I_1, hI_1, n_1, h⟩ := h
  have loop_1 : ∀ (n_1 : Nat) (v3_2 : Int32) (v4_3 : Int32) (h : I_1 n_1 (v3_2, v4_3)) (H : Heap) (locs : List Loc) (hP : va_P (dC, dI) vwCl [(h0, .inr (8, [.int s0_terms, .ref h0_1, .ref h0_2, .int s0_triples, .ref h0_3, .int s0_patterns, .ref h0_4, .ref h0_5, .int s0_found, .ref h0_6, .int s0_kept, .int s0_keptVariables, .ref h0_7, .int s0_thrown])), (h0_1, .inl (cI, 100, .inl s0_number)), (h0_2, .inl (cI, 40, .inl s0_term)), (h0_3, .inl (cI, 180, .inl s0_store)), (h0_4, .inl (cI, 9, .inl s0_query)), (h0_5, .inl (cI, 16, .inl s0_bound)), (h0_6, .inl (cI, 2000, .inl s0_work)), (h0_7, .inl (cI, 2000, .inl s0_answers))] H) (hD : va_D (fun _ : Nat => True) [(h0, .inr (8, [.int s0_terms, .ref h0_1, .ref h0_2, .int s0_triples, .ref h0_3, .int s0_patterns, .ref h0_4, .ref h0_5, .int s0_found, .ref h0_6, .int s0_kept, .int s0_keptVariables, .ref h0_7, .int s0_thrown])), (h0_1, .inl (cI, 100, .inl s0_number)), (h0_2, .inl (cI, 40, .inl s0_term)), (h0_3, .inl (cI, 180, .inl s0_store)), (h0_4, .inl (cI, 9, .inl s0_query)), (h0_5, .inl (cI, 16, .inl s0_bound)), (h0_6, .inl (cI, 2000, .inl s0_work)), (h0_7, .inl (cI, 2000, .inl s0_answers))]) (hS : va_S A s.heap H locs) (ls : Array Slot) (hl : lv_has ls 7 [(0, .ref h0), (1, .int v1), (2, .int v2), (3, .int v3_2), (4, .int v4_3)]), W p l e rm_X8_inOrder s m ([.ref h0, .int v1, .int v2] : List Value).toArray below meth c H locs 0 0 (MQ below (Q_X8_inOrder dC dI cI h0 h0_1 h0_2 h0_3 h0_4 h0_5 h0_6 h0_7 (s0_terms, s0_number, s0_term, s0_triples, s0_store, s0_patterns, s0_query, s0_bound, s0_found, s0_work, s0_kept, s0_keptVariables, s0_answers, s0_thrown) A post) (([.ref h0, .int v1, .int v2] : List Value).toArray) s 0 0 A) (F0 m 5 ls []) := by
    intro n_1
    induction n_1 using Nat.strongRecOn with
    | ind n_1 ih_1 =>
      intro v3_2 v4_3 h H locs hP hD hS ls hl
      have h := hI_1 n_1 _ h
      refine lv_iload hx hb dX8_inOrder_5 (lv_at hl 4 rfl) ?_
      refine lv_aload_n hx hb dX8_inOrder_7 rfl (lv_at hl 0 rfl) ?_
      refine va_get (D := (dC, dI)) (ci := 8) (v := .int s0_triples) (C := RX8) (T := TX8) (N := 14) hx hb hts (hinX8) hown hK hP 0 rfl rfl 3 (by decide) (hts (.fieldLink RX8 39 "TripleJoinsModel" "triples" "I") (by decide +kernel)) (fun _ h9 => h9) rfl dX8_inOrder_8 ?_
      obtain ⟨ht_, hf_⟩ := h
      refine lv_icmp_ge (tgt := 81) hx hb dX8_inOrder_11 (by decide) (fun c_4 => ?_) (fun c_4 => ?_)
      · have h := ht_ c_4
        refine lv_iload_n hx hb dX8_inOrder_81 rfl (lv_at hl 3 rfl) ?_
        exact W.iret (v := v3_2) hx hb hr (fun t ht hW => ⟨⟨v3_2, (), rfl, h, trivial⟩, hS.F ht⟩) hS.2.2 dX8_inOrder_82
      · have h := hf_ c_4
        refine lv_iconst (v := (0 : Int32)) hx hb dX8_inOrder_14 (by decide) ?_
        refine lv_istore (lv' := [(5, .int (0 : Int32)), (0, .ref h0), (1, .int v1), (2, .int v2), (3, .int v3_2), (4, .int v4_3)]) hx hb dX8_inOrder_15 hl (by decide) rfl (fun ls hl => ?_)
        refine lv_iconst (v := (0 : Int32)) hx hb dX8_inOrder_17 (by decide) ?_
        refine lv_istore (lv' := [(6, .int (0 : Int32)), (5, .int (0 : Int32)), (0, .ref h0), (1, .int v1), (2, .int v2), (3, .int v3_2), (4, .int v4_3)]) hx hb dX8_inOrder_18 hl (by decide) rfl (fun ls hl => ?_)
        have hl : lv_has ls 7 [(0, .ref h0), (1, .int v1), (2, .int v2), (3, .int v3_2), (4, .int v4_3), (5, .int (0 : Int32)), (6, .int (0 : Int32))] := lv_sub hl [2, 3, 4, 5, 6, 1, 0] rfl
        obtain ⟨I_5, hI_5, n_5, h⟩ := h
        have loop_5 : ∀ (n_5 : Nat) (v5_6 : Int32) (v6_7 : Int32) (h : I_5 n_5 (v5_6, v6_7)) (H : Heap) (locs : List Loc) (hP : va_P (dC, dI) vwCl [(h0, .inr (8, [.int s0_terms, .ref h0_1, .ref h0_2, .int s0_triples, .ref h0_3, .int s0_patterns, .ref h0_4, .ref h0_5, .int s0_found, .ref h0_6, .int s0_kept, .int s0_keptVariables, .ref h0_7, .int s0_thrown])), (h0_1, .inl (cI, 100, .inl s0_number)), (h0_2, .inl (cI, 40, .inl s0_term)), (h0_3, .inl (cI, 180, .inl s0_store)), (h0_4, .inl (cI, 9, .inl s0_query)), (h0_5, .inl (cI, 16, .inl s0_bound)), (h0_6, .inl (cI, 2000, .inl s0_work)), (h0_7, .inl (cI, 2000, .inl s0_answers))] H) (hD : va_D (fun _ : Nat => True) [(h0, .inr (8, [.int s0_terms, .ref h0_1, .ref h0_2, .int s0_triples, .ref h0_3, .int s0_patterns, .ref h0_4, .ref h0_5, .int s0_found, .ref h0_6, .int s0_kept, .int s0_keptVariables, .ref h0_7, .int s0_thrown])), (h0_1, .inl (cI, 100, .inl s0_number)), (h0_2, .inl (cI, 40, .inl s0_term)), (h0_3, .inl (cI, 180, .inl s0_store)), (h0_4, .inl (cI, 9, .inl s0_query)), (h0_5, .inl (cI, 16, .inl s0_bound)), (h0_6, .inl (cI, 2000, .inl s0_work)), (h0_7, .inl (cI, 2000, .inl s0_answers))]) (hS : va_S A s.heap H locs) (ls : Array Slot) (hl : lv_has ls 7 [(0, .ref h0), (1, .int v1), (2, .int v2), (3, .int v3_2), (4, .int v4_3), (5, .int v5_6), (6, .int v6_7)]), W p l e rm_X8_inOrder s m ([.ref h0, .int v1, .int v2] : List Value).toArray below meth c H locs 0 0 (MQ below (Q_X8_inOrder dC dI cI h0 h0_1 h0_2 h0_3 h0_4 h0_5 h0_6 h0_7 (s0_terms, s0_number, s0_term, s0_triples, s0_store, s0_patterns, s0_query, s0_bound, s0_found, s0_work, s0_kept, s0_keptVariables, s0_answers, s0_thrown) A post) (([.ref h0, .int v1, .int v2] : List Value).toArray) s 0 0 A) (F0 m 20 ls []) := by
          intro n_5
          induction n_5 using Nat.strongRecOn with
          | ind n_5 ih_5 =>
            intro v5_6 v6_7 h H locs hP hD hS ls hl
            have h := hI_5 n_5 _ h
            refine lv_iload hx hb dX8_inOrder_20 (lv_at hl 6 rfl) ?_
            refine lv_aload_n hx hb dX8_inOrder_22 rfl (lv_at hl 0 rfl) ?_
            refine va_get (D := (dC, dI)) (ci := 8) (v := .int s0_triples) (C := RX8) (T := TX8) (N := 14) hx hb hts (hinX8) hown hK hP 0 rfl rfl 3 (by decide) (hts (.fieldLink RX8 39 "TripleJoinsModel" "triples" "I") (by decide +kernel)) (fun _ h9 => h9) rfl dX8_inOrder_23 ?_
            obtain ⟨ht_, hf_⟩ := h
            refine lv_icmp_ge (tgt := 62) hx hb dX8_inOrder_26 (by decide) (fun c_8 => ?_) (fun c_8 => ?_)
            · have h := ht_ c_8
              refine lv_iload hx hb dX8_inOrder_62 (lv_at hl 5 rfl) ?_
              refine lv_iload_n hx hb dX8_inOrder_64 rfl (lv_at hl 2 rfl) ?_
              obtain ⟨ht_, hf_⟩ := h
              refine lv_icmp_ne (tgt := 73) hx hb dX8_inOrder_65 (by decide) (fun c_9 => ?_) (fun c_9 => ?_)
              · have h := ht_ c_9
                refine lv_iload_n hx hb dX8_inOrder_73 rfl (lv_at hl 3 rfl) ?_
                refine lv_istore_n (lv' := [(3, .int v3_2), (0, .ref h0), (1, .int v1), (2, .int v2), (4, .int v4_3), (5, .int v5_6), (6, .int v6_7)]) hx hb dX8_inOrder_74 rfl hl (by decide) rfl (fun ls hl => ?_)
                refine lv_iinc (v := (v4_3 + (1 : Int32))) (lv' := [(4, .int (v4_3 + (1 : Int32))), (3, .int v3_2), (0, .ref h0), (1, .int v1), (2, .int v2), (5, .int v5_6), (6, .int v6_7)]) hx hb dX8_inOrder_75 hl (k := 4) rfl rfl (by decide) rfl (fun ls hl => ?_)
                refine lv_goto (tgt := 5) hx hb dX8_inOrder_78 (by decide) ?_
                have hl : lv_has ls 7 [(0, .ref h0), (1, .int v1), (2, .int v2), (3, .int v3_2), (4, .int (v4_3 + (1 : Int32)))] := lv_sub hl [2, 3, 4, 1, 0] rfl
                obtain ⟨k_10, hk_11, h⟩ := h
                exact ih_1 k_10 hk_11 v3_2 (v4_3 + (1 : Int32)) h _ _ hP hD hS _ hl
              · have h := hf_ c_9
                refine lv_iload hx hb dX8_inOrder_68 (lv_at hl 4 rfl) ?_
                refine lv_goto (tgt := 74) hx hb dX8_inOrder_70 (by decide) ?_
                refine lv_istore_n (lv' := [(3, .int v4_3), (0, .ref h0), (1, .int v1), (2, .int v2), (4, .int v4_3), (5, .int v5_6), (6, .int v6_7)]) hx hb dX8_inOrder_74 rfl hl (by decide) rfl (fun ls hl => ?_)
                refine lv_iinc (v := (v4_3 + (1 : Int32))) (lv' := [(4, .int (v4_3 + (1 : Int32))), (3, .int v4_3), (0, .ref h0), (1, .int v1), (2, .int v2), (5, .int v5_6), (6, .int v6_7)]) hx hb dX8_inOrder_75 hl (k := 4) rfl rfl (by decide) rfl (fun ls hl => ?_)
                refine lv_goto (tgt := 5) hx hb dX8_inOrder_78 (by decide) ?_
                have hl : lv_has ls 7 [(0, .ref h0), (1, .int v1), (2, .int v2), (3, .int v4_3), (4, .int (v4_3 + (1 : Int32)))] := lv_sub hl [2, 3, 4, 1, 0] rfl
                obtain ⟨k_12, hk_13, h⟩ := h
                exact ih_1 k_12 hk_13 v4_3 (v4_3 + (1 : Int32)) h _ _ hP hD hS _ hl
            · have h := hf_ c_8
              refine lv_iload hx hb dX8_inOrder_29 (lv_at hl 5 rfl) ?_
              refine lv_aload_n hx hb dX8_inOrder_31 rfl (lv_at hl 0 rfl) ?_
              refine lv_iload_n hx hb dX8_inOrder_32 rfl (lv_at hl 1 rfl) ?_
              refine lv_iload hx hb dX8_inOrder_33 (lv_at hl 6 rfl) ?_
              have hPc := hP.sub (ws' := [(h0, .inr (8, [.int s0_terms, .ref h0_1, .ref h0_2, .int s0_triples, .ref h0_3, .int s0_patterns, .ref h0_4, .ref h0_5, .int s0_found, .ref h0_6, .int s0_kept, .int s0_keptVariables, .ref h0_7, .int s0_thrown])), (h0_1, .inl (cI, 100, .inl s0_number)), (h0_2, .inl (cI, 40, .inl s0_term)), (h0_3, .inl (cI, 180, .inl s0_store)), (h0_4, .inl (cI, 9, .inl s0_query)), (h0_5, .inl (cI, 16, .inl s0_bound)), (h0_6, .inl (cI, 2000, .inl s0_work)), (h0_7, .inl (cI, 2000, .inl s0_answers))]) [0, 1, 2, 3, 4, 5, 6, 7] rfl
              have hDc := hD.sub (ws' := [(h0, .inr (8, [.int s0_terms, .ref h0_1, .ref h0_2, .int s0_triples, .ref h0_3, .int s0_patterns, .ref h0_4, .ref h0_5, .int s0_found, .ref h0_6, .int s0_kept, .int s0_keptVariables, .ref h0_7, .int s0_thrown])), (h0_1, .inl (cI, 100, .inl s0_number)), (h0_2, .inl (cI, 40, .inl s0_term)), (h0_3, .inl (cI, 180, .inl s0_store)), (h0_4, .inl (cI, 9, .inl s0_query)), (h0_5, .inl (cI, 16, .inl s0_bound)), (h0_6, .inl (cI, 2000, .inl s0_work)), (h0_7, .inl (cI, 2000, .inl s0_answers))]) [0, 1, 2, 3, 4, 5, 6, 7] (by decide) rfl
              have hFc := fr0 hA hS
              refine va_calli (va_runV (As := [.int v1, .int v6_7]) (rest := [.int v5_6]) ⟨hx, hb, hml, hown, hts⟩ (c_X8_rank l dC dI cI h0 h0_1 h0_2 h0_3 h0_4 h0_5 h0_6 h0_7 _ (s0_terms, s0_number, s0_term, s0_triples, s0_store, s0_patterns, s0_query, s0_bound, s0_found, s0_work, s0_kept, s0_keptVariables, s0_answers, s0_thrown) v1 v6_7 _ h) (cwV 2 hts gX8_inOrder_X8_rank rfl rfl rfl (by decide +kernel) ⟨Nat.le_of_ble_eq_true rfl, Nat.le_of_ble_eq_true rfl⟩) (pb_V hPc hK hDc hN (ci := 8) (q0 := 0) rfl rfl) rfl rfl hl.1 rfl (lv_room (Nat.le_of_ble_eq_true rfl)) dX8_inOrder_35 ⟨Nat.zero_le _, Nat.zero_le _⟩) hS (fun q _ h => hFc q h) hFc (fun r_15 u_14 t H locs ht hvm h hB hz1 hk1 hS => ?_)
              have hP := vaPk hP hk1
              refine lv_aload_n hx hb dX8_inOrder_38 rfl (lv_at hl 0 rfl) ?_
              refine lv_iload_n hx hb dX8_inOrder_39 rfl (lv_at hl 1 rfl) ?_
              refine lv_iload hx hb dX8_inOrder_40 (lv_at hl 4 rfl) ?_
              have hPc := hP.sub (ws' := [(h0, .inr (8, [.int s0_terms, .ref h0_1, .ref h0_2, .int s0_triples, .ref h0_3, .int s0_patterns, .ref h0_4, .ref h0_5, .int s0_found, .ref h0_6, .int s0_kept, .int s0_keptVariables, .ref h0_7, .int s0_thrown])), (h0_1, .inl (cI, 100, .inl s0_number)), (h0_2, .inl (cI, 40, .inl s0_term)), (h0_3, .inl (cI, 180, .inl s0_store)), (h0_4, .inl (cI, 9, .inl s0_query)), (h0_5, .inl (cI, 16, .inl s0_bound)), (h0_6, .inl (cI, 2000, .inl s0_work)), (h0_7, .inl (cI, 2000, .inl s0_answers))]) [0, 1, 2, 3, 4, 5, 6, 7] rfl
              have hDc := hD.sub (ws' := [(h0, .inr (8, [.int s0_terms, .ref h0_1, .ref h0_2, .int s0_triples, .ref h0_3, .int s0_patterns, .ref h0_4, .ref h0_5, .int s0_found, .ref h0_6, .int s0_kept, .int s0_keptVariables, .ref h0_7, .int s0_thrown])), (h0_1, .inl (cI, 100, .inl s0_number)), (h0_2, .inl (cI, 40, .inl s0_term)), (h0_3, .inl (cI, 180, .inl s0_store)), (h0_4, .inl (cI, 9, .inl s0_query)), (h0_5, .inl (cI, 16, .inl s0_bound)), (h0_6, .inl (cI, 2000, .inl s0_work)), (h0_7, .inl (cI, 2000, .inl s0_answers))]) [0, 1, 2, 3, 4, 5, 6, 7] (by decide) rfl
              have hFc := fr0 hA hS
              refine va_calli (va_runV (As := [.int v1, .int v4_3]) (rest := [.int r_15, .int v5_6]) ⟨hx, hb, hml, hown, hts⟩ (c_X8_rank l dC dI cI h0 h0_1 h0_2 h0_3 h0_4 h0_5 h0_6 h0_7 _ (s0_terms, s0_number, s0_term, s0_triples, s0_store, s0_patterns, s0_query, s0_bound, s0_found, s0_work, s0_kept, s0_keptVariables, s0_answers, s0_thrown) v1 v4_3 _ h) (cwV 2 hts gX8_inOrder_X8_rank rfl rfl rfl (by decide +kernel) ⟨Nat.le_of_ble_eq_true rfl, Nat.le_of_ble_eq_true rfl⟩) (pb_V hPc hK hDc hN (ci := 8) (q0 := 0) rfl rfl) rfl rfl hl.1 rfl (lv_room (Nat.le_of_ble_eq_true rfl)) dX8_inOrder_42 ⟨Nat.zero_le _, Nat.zero_le _⟩) hS (fun q _ h => hFc q h) hFc (fun r_17 u_16 t H locs ht hvm h hB hz1 hk1 hS => ?_)
              have hP := vaPk hP hk1
              obtain ⟨ht_, hf_⟩ := h
              refine lv_icmp_ge (tgt := 52) hx hb dX8_inOrder_45 (by decide) (fun c_18 => ?_) (fun c_18 => ?_)
              · have h := ht_ c_18
                refine lv_iconst (v := (0 : Int32)) hx hb dX8_inOrder_52 (by decide) ?_
                refine lv_iadd hx hb dX8_inOrder_53 ?_
                refine lv_istore (lv' := [(5, .int (v5_6 + (0 : Int32))), (0, .ref h0), (1, .int v1), (2, .int v2), (3, .int v3_2), (4, .int v4_3), (6, .int v6_7)]) hx hb dX8_inOrder_54 hl (by decide) rfl (fun ls hl => ?_)
                refine lv_iinc (v := (v6_7 + (1 : Int32))) (lv' := [(6, .int (v6_7 + (1 : Int32))), (5, .int (v5_6 + (0 : Int32))), (0, .ref h0), (1, .int v1), (2, .int v2), (3, .int v3_2), (4, .int v4_3)]) hx hb dX8_inOrder_56 hl (k := 6) rfl rfl (by decide) rfl (fun ls hl => ?_)
                refine lv_goto (tgt := 20) hx hb dX8_inOrder_59 (by decide) ?_
                have hl : lv_has ls 7 [(0, .ref h0), (1, .int v1), (2, .int v2), (3, .int v3_2), (4, .int v4_3), (5, .int (v5_6 + (0 : Int32))), (6, .int (v6_7 + (1 : Int32)))] := lv_sub hl [2, 3, 4, 5, 6, 1, 0] rfl
                obtain ⟨k_19, hk_20, h⟩ := h
                exact ih_5 k_19 hk_20 (v5_6 + (0 : Int32)) (v6_7 + (1 : Int32)) h _ _ hP hD hS _ hl
              · have h := hf_ c_18
                refine lv_iconst (v := (1 : Int32)) hx hb dX8_inOrder_48 (by decide) ?_
                refine lv_goto (tgt := 53) hx hb dX8_inOrder_49 (by decide) ?_
                refine lv_iadd hx hb dX8_inOrder_53 ?_
                refine lv_istore (lv' := [(5, .int (v5_6 + (1 : Int32))), (0, .ref h0), (1, .int v1), (2, .int v2), (3, .int v3_2), (4, .int v4_3), (6, .int v6_7)]) hx hb dX8_inOrder_54 hl (by decide) rfl (fun ls hl => ?_)
                refine lv_iinc (v := (v6_7 + (1 : Int32))) (lv' := [(6, .int (v6_7 + (1 : Int32))), (5, .int (v5_6 + (1 : Int32))), (0, .ref h0), (1, .int v1), (2, .int v2), (3, .int v3_2), (4, .int v4_3)]) hx hb dX8_inOrder_56 hl (k := 6) rfl rfl (by decide) rfl (fun ls hl => ?_)
                refine lv_goto (tgt := 20) hx hb dX8_inOrder_59 (by decide) ?_
                have hl : lv_has ls 7 [(0, .ref h0), (1, .int v1), (2, .int v2), (3, .int v3_2), (4, .int v4_3), (5, .int (v5_6 + (1 : Int32))), (6, .int (v6_7 + (1 : Int32)))] := lv_sub hl [2, 3, 4, 5, 6, 1, 0] rfl
                obtain ⟨k_21, hk_22, h⟩ := h
                exact ih_5 k_21 hk_22 (v5_6 + (1 : Int32)) (v6_7 + (1 : Int32)) h _ _ hP hD hS _ hl
        exact loop_5 n_5 (0 : Int32) (0 : Int32) h _ _ hP hD hS _ hl
  exact loop_1 n_1 (-1 : Int32) (0 : Int32) h _ _ hP hD hS _ hl
abbrev Q_X8_termAt (dC : Nat → ClassId) (dI : Nat → Nat → Nat) (cI : ClassId) (h0 h0_1 h0_2 h0_3 h0_4 h0_5 h0_6 h0_7 : Nat) (s0 : ModS) (A : Nat → Prop) (post : Int32 → ModS → Prop) : Array Value → State → Outcome → State → Prop := va_Qi post (fun (u : ModS) (t : State) => va_P (dC, dI) vwCl [(h0, .inr (8, [.int u.terms, .ref h0_1, .ref h0_2, .int u.triples, .ref h0_3, .int u.patterns, .ref h0_4, .ref h0_5, .int u.found, .ref h0_6, .int u.kept, .int u.keptVariables, .ref h0_7, .int u.thrown])), (h0_1, .inl (cI, 100, .inl u.number)), (h0_2, .inl (cI, 40, .inl u.term)), (h0_3, .inl (cI, 180, .inl u.store)), (h0_4, .inl (cI, 9, .inl u.query)), (h0_5, .inl (cI, 16, .inl u.bound)), (h0_6, .inl (cI, 2000, .inl u.work)), (h0_7, .inl (cI, 2000, .inl u.answers))] t.heap ∧ va_D A [(h0, .inr (8, [.int u.terms, .ref h0_1, .ref h0_2, .int u.triples, .ref h0_3, .int u.patterns, .ref h0_4, .ref h0_5, .int u.found, .ref h0_6, .int u.kept, .int u.keptVariables, .ref h0_7, .int u.thrown])), (h0_1, .inl (cI, 100, .inl u.number)), (h0_2, .inl (cI, 40, .inl u.term)), (h0_3, .inl (cI, 180, .inl u.store)), (h0_4, .inl (cI, 9, .inl u.query)), (h0_5, .inl (cI, 16, .inl u.bound)), (h0_6, .inl (cI, 2000, .inl u.work)), (h0_7, .inl (cI, 2000, .inl u.answers))]) A
abbrev rm_X8_termAt : Room := { frames := 2, cells := 0, slots := 0, locals := 49 }
set_option maxHeartbeats 4000000 in
set_option maxRecDepth 100000 in
theorem c_X8_termAt (l : Launch) (dC : Nat → ClassId) (dI : Nat → Nat → Nat) (cI : ClassId) (h0 h0_1 h0_2 h0_3 h0_4 h0_5 h0_6 h0_7 : Nat) (sz : Nat) (s0 : ModS) (v1 : Int32) (v2 : Int32) (v3 : Int32) (post : Int32 → ModS → Prop) (h : P_X8_termAt s0 v1 v2 v3 post) : Met l yX8_termAt wsX8_termAt rm_X8_termAt (va_Pc [.ref h0, .int v1, .int v2, .int v3] (cpre (dC, dI) [(cI, .int)] [(h0, .inr (8, [.int s0.terms, .ref h0_1, .ref h0_2, .int s0.triples, .ref h0_3, .int s0.patterns, .ref h0_4, .ref h0_5, .int s0.found, .ref h0_6, .int s0.kept, .int s0.keptVariables, .ref h0_7, .int s0.thrown])), (h0_1, .inl (cI, 100, .inl s0.number)), (h0_2, .inl (cI, 40, .inl s0.term)), (h0_3, .inl (cI, 180, .inl s0.store)), (h0_4, .inl (cI, 9, .inl s0.query)), (h0_5, .inl (cI, 16, .inl s0.bound)), (h0_6, .inl (cI, 2000, .inl s0.work)), (h0_7, .inl (cI, 2000, .inl s0.answers))] sz)) (Q_X8_termAt dC dI cI h0 h0_1 h0_2 h0_3 h0_4 h0_5 h0_6 h0_7 s0 (va_A [(h0, .inr (8, [.int s0.terms, .ref h0_1, .ref h0_2, .int s0.triples, .ref h0_3, .int s0.patterns, .ref h0_4, .ref h0_5, .int s0.found, .ref h0_6, .int s0.kept, .int s0.keptVariables, .ref h0_7, .int s0.thrown])), (h0_1, .inl (cI, 100, .inl s0.number)), (h0_2, .inl (cI, 40, .inl s0.term)), (h0_3, .inl (cI, 180, .inl s0.store)), (h0_4, .inl (cI, 9, .inl s0.query)), (h0_5, .inl (cI, 16, .inl s0.bound)), (h0_6, .inl (cI, 2000, .inl s0.work)), (h0_7, .inl (cI, 2000, .inl s0.answers))] sz) post) 0 0 (va_A [(h0, .inr (8, [.int s0.terms, .ref h0_1, .ref h0_2, .int s0.triples, .ref h0_3, .int s0.patterns, .ref h0_4, .ref h0_5, .int s0.found, .ref h0_6, .int s0.kept, .int s0.keptVariables, .ref h0_7, .int s0.thrown])), (h0_1, .inl (cI, 100, .inl s0.number)), (h0_2, .inl (cI, 40, .inl s0.term)), (h0_3, .inl (cI, 180, .inl s0.store)), (h0_4, .inl (cI, 9, .inl s0.query)), (h0_5, .inl (cI, 16, .inl s0.bound)), (h0_6, .inl (cI, 2000, .inl s0.work)), (h0_7, .inl (cI, 2000, .inl s0.answers))] sz) := by
  refine Met.ofW (cc := cX8_termAt) (maxL := 4) (ret := (some .int)) (by decide) rfl ?_
  intro p e s m args below meth c s₁ B hml hv
  obtain ⟨rfl, hsz, hP, hK, hD0, hN⟩ := hv
  have hx := B.exec
  have hb := B.bytes
  have hr := B.returns
  have hts := atoms_spec (ws := wsX8_termAt) B.pre
  have hown : s.vm.findClass RX8 = some m.cls := findClass_of_methodNamed B.named
  have hlocks := B.notSynchronized
  subst hsz
  have hD := hD0.self (sz := s.heap.size)
  generalize hAe : va_A [(h0, .inr (8, [.int s0.terms, .ref h0_1, .ref h0_2, .int s0.triples, .ref h0_3, .int s0.patterns, .ref h0_4, .ref h0_5, .int s0.found, .ref h0_6, .int s0.kept, .int s0.keptVariables, .ref h0_7, .int s0.thrown])), (h0_1, .inl (cI, 100, .inl s0.number)), (h0_2, .inl (cI, 40, .inl s0.term)), (h0_3, .inl (cI, 180, .inl s0.store)), (h0_4, .inl (cI, 9, .inl s0.query)), (h0_5, .inl (cI, 16, .inl s0.bound)), (h0_6, .inl (cI, 2000, .inl s0.work)), (h0_7, .inl (cI, 2000, .inl s0.answers))] s.heap.size = A at hD ⊢
  have hA : ∀ q : Nat, s.heap.size ≤ q → A q := fun q h => by rw [← hAe]; exact Or.inr h
  clear hAe hD0
  obtain ⟨s0_terms, s0_number, s0_term, s0_triples, s0_store, s0_patterns, s0_query, s0_bound, s0_found, s0_work, s0_kept, s0_keptVariables, s0_answers, s0_thrown⟩ := s0
  have hS : va_S A s.heap s.heap [] := va_S.rf
  have hP : va_P (dC, dI) vwCl [(h0, .inr (8, [.int s0_terms, .ref h0_1, .ref h0_2, .int s0_triples, .ref h0_3, .int s0_patterns, .ref h0_4, .ref h0_5, .int s0_found, .ref h0_6, .int s0_kept, .int s0_keptVariables, .ref h0_7, .int s0_thrown])), (h0_1, .inl (cI, 100, .inl s0_number)), (h0_2, .inl (cI, 40, .inl s0_term)), (h0_3, .inl (cI, 180, .inl s0_store)), (h0_4, .inl (cI, 9, .inl s0_query)), (h0_5, .inl (cI, 16, .inl s0_bound)), (h0_6, .inl (cI, 2000, .inl s0_work)), (h0_7, .inl (cI, 2000, .inl s0_answers))] s.heap := hP
  have hD : va_D A [(h0, .inr (8, [.int s0_terms, .ref h0_1, .ref h0_2, .int s0_triples, .ref h0_3, .int s0_patterns, .ref h0_4, .ref h0_5, .int s0_found, .ref h0_6, .int s0_kept, .int s0_keptVariables, .ref h0_7, .int s0_thrown])), (h0_1, .inl (cI, 100, .inl s0_number)), (h0_2, .inl (cI, 40, .inl s0_term)), (h0_3, .inl (cI, 180, .inl s0_store)), (h0_4, .inl (cI, 9, .inl s0_query)), (h0_5, .inl (cI, 16, .inl s0_bound)), (h0_6, .inl (cI, 2000, .inl s0_work)), (h0_7, .inl (cI, 2000, .inl s0_answers))] := hD
  have hl := lv_entry ([.ref h0, .int v1, .int v2, .int v3]) (n := 4) (Nat.le_of_ble_eq_true rfl)
  rw [lg_entry_eq]
  generalize (lg_sl ([.ref h0, .int v1, .int v2, .int v3]) ++ List.replicate (4 - (lg_sl ([.ref h0, .int v1, .int v2, .int v3])).length) Slot.unset).toArray = ls at hl ⊢
  have hl : lv_has ls 4 [(0, .ref h0), (1, .int v1), (2, .int v2), (3, .int v3)] := hl
  have hinX8 : ∀ w ∈ u_ws RX8 TX8 14, w ∈ wsX8_termAt := by decide +kernel
  have lab_42 : ∀ (s0_1_terms : Int32) (s0_1_number : Nat → Int32) (s0_1_term : Nat → Int32) (s0_1_triples : Int32) (s0_1_store : Nat → Int32) (s0_1_patterns : Int32) (s0_1_query : Nat → Int32) (s0_1_bound : Nat → Int32) (s0_1_found : Int32) (s0_1_work : Nat → Int32) (s0_1_kept : Int32) (s0_1_keptVariables : Int32) (s0_1_answers : Nat → Int32) (s0_1_thrown : Int32) (x0_2 : Int32) (h : P_X8_termAt_j42 (s0_1_terms, s0_1_number, s0_1_term, s0_1_triples, s0_1_store, s0_1_patterns, s0_1_query, s0_1_bound, s0_1_found, s0_1_work, s0_1_kept, s0_1_keptVariables, s0_1_answers, s0_1_thrown) v1 v2 v3 x0_2 post) (H : Heap) (locs : List Loc) (hP : va_P (dC, dI) vwCl [(h0, .inr (8, [.int s0_1_terms, .ref h0_1, .ref h0_2, .int s0_1_triples, .ref h0_3, .int s0_1_patterns, .ref h0_4, .ref h0_5, .int s0_1_found, .ref h0_6, .int s0_1_kept, .int s0_1_keptVariables, .ref h0_7, .int s0_1_thrown])), (h0_1, .inl (cI, 100, .inl s0_1_number)), (h0_2, .inl (cI, 40, .inl s0_1_term)), (h0_3, .inl (cI, 180, .inl s0_1_store)), (h0_4, .inl (cI, 9, .inl s0_1_query)), (h0_5, .inl (cI, 16, .inl s0_1_bound)), (h0_6, .inl (cI, 2000, .inl s0_1_work)), (h0_7, .inl (cI, 2000, .inl s0_1_answers))] H) (hD : va_D A [(h0, .inr (8, [.int s0_1_terms, .ref h0_1, .ref h0_2, .int s0_1_triples, .ref h0_3, .int s0_1_patterns, .ref h0_4, .ref h0_5, .int s0_1_found, .ref h0_6, .int s0_1_kept, .int s0_1_keptVariables, .ref h0_7, .int s0_1_thrown])), (h0_1, .inl (cI, 100, .inl s0_1_number)), (h0_2, .inl (cI, 40, .inl s0_1_term)), (h0_3, .inl (cI, 180, .inl s0_1_store)), (h0_4, .inl (cI, 9, .inl s0_1_query)), (h0_5, .inl (cI, 16, .inl s0_1_bound)), (h0_6, .inl (cI, 2000, .inl s0_1_work)), (h0_7, .inl (cI, 2000, .inl s0_1_answers))]) (hS : va_S A s.heap H locs) (ls : Array Slot) (hl : lv_has ls 4 [(0, .ref h0), (1, .int v1), (2, .int v2), (3, .int v3)]), W p l e rm_X8_termAt s m ([.ref h0, .int v1, .int v2, .int v3] : List Value).toArray below meth c H locs 0 0 (MQ below (Q_X8_termAt dC dI cI h0 h0_1 h0_2 h0_3 h0_4 h0_5 h0_6 h0_7 (s0_terms, s0_number, s0_term, s0_triples, s0_store, s0_patterns, s0_query, s0_bound, s0_found, s0_work, s0_kept, s0_keptVariables, s0_answers, s0_thrown) A post) (([.ref h0, .int v1, .int v2, .int v3] : List Value).toArray) s 0 0 A) (F0 m 42 ls [.int x0_2, .ref h0]) := by
    intro s0_1_terms s0_1_number s0_1_term s0_1_triples s0_1_store s0_1_patterns s0_1_query s0_1_bound s0_1_found s0_1_work s0_1_kept s0_1_keptVariables s0_1_answers s0_1_thrown x0_2 h H locs hP hD hS ls hl
    refine va_put (D := (dC, dI)) (ci := 8) (v := .int x0_2) (ty := .int) (C := RX8) (T := TX8) (N := 14) hx hb hts (hinX8) tyX8 tyX8_ok nmX8 hown hK hP hD hS 0 rfl rfl 13 (by decide) (hts (.fieldLink RX8 31 "TripleJoinsModel" "thrown" "I") (by decide +kernel)) (fun _ h9 => h9) rfl (by decide +kernel) rfl rfl (Nat.le_of_ble_eq_true rfl) dX8_termAt_42 (fun H locs hP hD hS => ?_)
    have hP : va_P (dC, dI) vwCl [(h0, .inr (8, [.int s0_1_terms, .ref h0_1, .ref h0_2, .int s0_1_triples, .ref h0_3, .int s0_1_patterns, .ref h0_4, .ref h0_5, .int s0_1_found, .ref h0_6, .int s0_1_kept, .int s0_1_keptVariables, .ref h0_7, .int x0_2])), (h0_1, .inl (cI, 100, .inl s0_1_number)), (h0_2, .inl (cI, 40, .inl s0_1_term)), (h0_3, .inl (cI, 180, .inl s0_1_store)), (h0_4, .inl (cI, 9, .inl s0_1_query)), (h0_5, .inl (cI, 16, .inl s0_1_bound)), (h0_6, .inl (cI, 2000, .inl s0_1_work)), (h0_7, .inl (cI, 2000, .inl s0_1_answers))] _ := hP
    have hD : va_D A [(h0, .inr (8, [.int s0_1_terms, .ref h0_1, .ref h0_2, .int s0_1_triples, .ref h0_3, .int s0_1_patterns, .ref h0_4, .ref h0_5, .int s0_1_found, .ref h0_6, .int s0_1_kept, .int s0_1_keptVariables, .ref h0_7, .int x0_2])), (h0_1, .inl (cI, 100, .inl s0_1_number)), (h0_2, .inl (cI, 40, .inl s0_1_term)), (h0_3, .inl (cI, 180, .inl s0_1_store)), (h0_4, .inl (cI, 9, .inl s0_1_query)), (h0_5, .inl (cI, 16, .inl s0_1_bound)), (h0_6, .inl (cI, 2000, .inl s0_1_work)), (h0_7, .inl (cI, 2000, .inl s0_1_answers))] := hD
    refine lv_aload_n hx hb dX8_termAt_45 rfl (lv_at hl 0 rfl) ?_
    refine va_get (D := (dC, dI)) (ci := 8) (v := .int x0_2) (C := RX8) (T := TX8) (N := 14) hx hb hts (hinX8) hown hK hP 0 rfl rfl 13 (by decide) (hts (.fieldLink RX8 31 "TripleJoinsModel" "thrown" "I") (by decide +kernel)) (fun _ h9 => h9) rfl dX8_termAt_46 ?_
    obtain ⟨ht_, hf_⟩ := h
    refine lv_if_le (tgt := 56) hx hb dX8_termAt_49 (by decide) (fun c_3 => ?_) (fun c_3 => ?_)
    · have h := ht_ c_3
      refine lv_aload_n hx hb dX8_termAt_56 rfl (lv_at hl 0 rfl) ?_
      refine va_get (D := (dC, dI)) (ci := 8) (v := .ref h0_2) (C := RX8) (T := TX8) (N := 14) hx hb hts (hinX8) hown hK hP 0 rfl rfl 2 (by decide) (hts (.fieldLink RX8 13 "TripleJoinsModel" "term" "[I") (by decide +kernel)) (fun _ h9 => h9) rfl dX8_termAt_57 ?_
      refine lv_aload_n hx hb dX8_termAt_60 rfl (lv_at hl 0 rfl) ?_
      refine va_get (D := (dC, dI)) (ci := 8) (v := .ref h0_3) (C := RX8) (T := TX8) (N := 14) hx hb hts (hinX8) hown hK hP 0 rfl rfl 4 (by decide) (hts (.fieldLink RX8 16 "TripleJoinsModel" "store" "[I") (by decide +kernel)) (fun _ h9 => h9) rfl dX8_termAt_61 ?_
      refine lv_iconst (v := (3 : Int32)) hx hb dX8_termAt_64 (by decide) ?_
      refine lv_aload_n hx hb dX8_termAt_65 rfl (lv_at hl 0 rfl) ?_
      refine lv_iload_n hx hb dX8_termAt_66 rfl (lv_at hl 1 rfl) ?_
      refine lv_iload_n hx hb dX8_termAt_67 rfl (lv_at hl 2 rfl) ?_
      have hPc := hP.sub (ws' := [(h0, .inr (8, [.int s0_1_terms, .ref h0_1, .ref h0_2, .int s0_1_triples, .ref h0_3, .int s0_1_patterns, .ref h0_4, .ref h0_5, .int s0_1_found, .ref h0_6, .int s0_1_kept, .int s0_1_keptVariables, .ref h0_7, .int x0_2])), (h0_1, .inl (cI, 100, .inl s0_1_number)), (h0_2, .inl (cI, 40, .inl s0_1_term)), (h0_3, .inl (cI, 180, .inl s0_1_store)), (h0_4, .inl (cI, 9, .inl s0_1_query)), (h0_5, .inl (cI, 16, .inl s0_1_bound)), (h0_6, .inl (cI, 2000, .inl s0_1_work)), (h0_7, .inl (cI, 2000, .inl s0_1_answers))]) [0, 1, 2, 3, 4, 5, 6, 7] rfl
      have hDc := hD.sub (ws' := [(h0, .inr (8, [.int s0_1_terms, .ref h0_1, .ref h0_2, .int s0_1_triples, .ref h0_3, .int s0_1_patterns, .ref h0_4, .ref h0_5, .int s0_1_found, .ref h0_6, .int s0_1_kept, .int s0_1_keptVariables, .ref h0_7, .int x0_2])), (h0_1, .inl (cI, 100, .inl s0_1_number)), (h0_2, .inl (cI, 40, .inl s0_1_term)), (h0_3, .inl (cI, 180, .inl s0_1_store)), (h0_4, .inl (cI, 9, .inl s0_1_query)), (h0_5, .inl (cI, 16, .inl s0_1_bound)), (h0_6, .inl (cI, 2000, .inl s0_1_work)), (h0_7, .inl (cI, 2000, .inl s0_1_answers))]) [0, 1, 2, 3, 4, 5, 6, 7] (by decide) rfl
      have hFc := fr0 hA hS
      refine va_calli (va_runV (As := [.int v1, .int v2]) (rest := [.int (3 : Int32), .ref h0_3, .ref h0_2]) ⟨hx, hb, hml, hown, hts⟩ (c_X8_inOrder l dC dI cI h0 h0_1 h0_2 h0_3 h0_4 h0_5 h0_6 h0_7 _ (s0_1_terms, s0_1_number, s0_1_term, s0_1_triples, s0_1_store, s0_1_patterns, s0_1_query, s0_1_bound, s0_1_found, s0_1_work, s0_1_kept, s0_1_keptVariables, s0_1_answers, x0_2) v1 v2 _ h) (cwV 2 hts gX8_termAt_X8_inOrder rfl rfl rfl (by decide +kernel) ⟨Nat.le_of_ble_eq_true rfl, Nat.le_of_ble_eq_true rfl⟩) (pb_V hPc hK hDc hN (ci := 8) (q0 := 0) rfl rfl) rfl rfl hl.1 rfl (lv_room (Nat.le_of_ble_eq_true rfl)) dX8_termAt_68 ⟨Nat.zero_le _, Nat.zero_le _⟩) hS (fun q _ h => hFc q h) hFc (fun r_5 u_4 t H locs ht hvm h hB hz1 hk1 hS => ?_)
      have hP := vaPk hP hk1
      refine lv_imul hx hb dX8_termAt_71 ?_
      refine lv_iload_n hx hb dX8_termAt_72 rfl (lv_at hl 3 rfl) ?_
      refine lv_iadd hx hb dX8_termAt_73 ?_
      obtain ⟨hin, h⟩ := h
      refine va_iald (n := 180) hx hb hK hP 3 0 rfl rfl hin dX8_termAt_74 ?_
      obtain ⟨hin, h⟩ := h
      refine va_iald (n := 40) hx hb hK hP 2 0 rfl rfl hin dX8_termAt_75 ?_
      exact W.iret (v := (s0_1_term ((s0_1_store ((((3 : Int32) * r_5) + v3)).toNatClampNeg)).toNatClampNeg)) hx hb hr (fun t ht hW => ⟨⟨(s0_1_term ((s0_1_store ((((3 : Int32) * r_5) + v3)).toNatClampNeg)).toNatClampNeg), (s0_1_terms, s0_1_number, s0_1_term, s0_1_triples, s0_1_store, s0_1_patterns, s0_1_query, s0_1_bound, s0_1_found, s0_1_work, s0_1_kept, s0_1_keptVariables, s0_1_answers, x0_2), rfl, h, ⟨by rw [ht]; exact hP, hD⟩⟩, hS.F ht⟩) hS.2.2 dX8_termAt_76
    · have h := hf_ c_3
      refine lv_iconst (v := (0 : Int32)) hx hb dX8_termAt_52 (by decide) ?_
      refine lv_goto (tgt := 76) hx hb dX8_termAt_53 (by decide) ?_
      exact W.iret (v := (0 : Int32)) hx hb hr (fun t ht hW => ⟨⟨(0 : Int32), (s0_1_terms, s0_1_number, s0_1_term, s0_1_triples, s0_1_store, s0_1_patterns, s0_1_query, s0_1_bound, s0_1_found, s0_1_work, s0_1_kept, s0_1_keptVariables, s0_1_answers, x0_2), rfl, h, ⟨by rw [ht]; exact hP, hD⟩⟩, hS.F ht⟩) hS.2.2 dX8_termAt_76
  have lab_19 : ∀ (s0_6_terms : Int32) (s0_6_number : Nat → Int32) (s0_6_term : Nat → Int32) (s0_6_triples : Int32) (s0_6_store : Nat → Int32) (s0_6_patterns : Int32) (s0_6_query : Nat → Int32) (s0_6_bound : Nat → Int32) (s0_6_found : Int32) (s0_6_work : Nat → Int32) (s0_6_kept : Int32) (s0_6_keptVariables : Int32) (s0_6_answers : Nat → Int32) (s0_6_thrown : Int32) (h : P_X8_termAt_j19 (s0_6_terms, s0_6_number, s0_6_term, s0_6_triples, s0_6_store, s0_6_patterns, s0_6_query, s0_6_bound, s0_6_found, s0_6_work, s0_6_kept, s0_6_keptVariables, s0_6_answers, s0_6_thrown) v1 v2 v3 post) (H : Heap) (locs : List Loc) (hP : va_P (dC, dI) vwCl [(h0, .inr (8, [.int s0_6_terms, .ref h0_1, .ref h0_2, .int s0_6_triples, .ref h0_3, .int s0_6_patterns, .ref h0_4, .ref h0_5, .int s0_6_found, .ref h0_6, .int s0_6_kept, .int s0_6_keptVariables, .ref h0_7, .int s0_6_thrown])), (h0_1, .inl (cI, 100, .inl s0_6_number)), (h0_2, .inl (cI, 40, .inl s0_6_term)), (h0_3, .inl (cI, 180, .inl s0_6_store)), (h0_4, .inl (cI, 9, .inl s0_6_query)), (h0_5, .inl (cI, 16, .inl s0_6_bound)), (h0_6, .inl (cI, 2000, .inl s0_6_work)), (h0_7, .inl (cI, 2000, .inl s0_6_answers))] H) (hD : va_D A [(h0, .inr (8, [.int s0_6_terms, .ref h0_1, .ref h0_2, .int s0_6_triples, .ref h0_3, .int s0_6_patterns, .ref h0_4, .ref h0_5, .int s0_6_found, .ref h0_6, .int s0_6_kept, .int s0_6_keptVariables, .ref h0_7, .int s0_6_thrown])), (h0_1, .inl (cI, 100, .inl s0_6_number)), (h0_2, .inl (cI, 40, .inl s0_6_term)), (h0_3, .inl (cI, 180, .inl s0_6_store)), (h0_4, .inl (cI, 9, .inl s0_6_query)), (h0_5, .inl (cI, 16, .inl s0_6_bound)), (h0_6, .inl (cI, 2000, .inl s0_6_work)), (h0_7, .inl (cI, 2000, .inl s0_6_answers))]) (hS : va_S A s.heap H locs) (ls : Array Slot) (hl : lv_has ls 4 [(0, .ref h0), (1, .int v1), (2, .int v2), (3, .int v3)]), W p l e rm_X8_termAt s m ([.ref h0, .int v1, .int v2, .int v3] : List Value).toArray below meth c H locs 0 0 (MQ below (Q_X8_termAt dC dI cI h0 h0_1 h0_2 h0_3 h0_4 h0_5 h0_6 h0_7 (s0_terms, s0_number, s0_term, s0_triples, s0_store, s0_patterns, s0_query, s0_bound, s0_found, s0_work, s0_kept, s0_keptVariables, s0_answers, s0_thrown) A post) (([.ref h0, .int v1, .int v2, .int v3] : List Value).toArray) s 0 0 A) (F0 m 19 ls [.ref h0]) := by
    intro s0_6_terms s0_6_number s0_6_term s0_6_triples s0_6_store s0_6_patterns s0_6_query s0_6_bound s0_6_found s0_6_work s0_6_kept s0_6_keptVariables s0_6_answers s0_6_thrown h H locs hP hD hS ls hl
    refine lv_iconst (v := (1 : Int32)) hx hb dX8_termAt_19 (by decide) ?_
    refine lv_goto (tgt := 42) hx hb dX8_termAt_20 (by decide) ?_
    exact lab_42 s0_6_terms s0_6_number s0_6_term s0_6_triples s0_6_store s0_6_patterns s0_6_query s0_6_bound s0_6_found s0_6_work s0_6_kept s0_6_keptVariables s0_6_answers s0_6_thrown (1 : Int32) h _ _ hP hD hS _ hl
  refine lv_aload_n hx hb dX8_termAt_0 rfl (lv_at hl 0 rfl) ?_
  refine lv_iload_n hx hb dX8_termAt_1 rfl (lv_at hl 1 rfl) ?_
  refine lv_iconst (v := (0 : Int32)) hx hb dX8_termAt_2 (by decide) ?_
  refine lv_iconst (v := (2 : Int32)) hx hb dX8_termAt_3 (by decide) ?_
  have hPc := hP.sub (ws' := []) [] rfl
  have hDc := hD.sub (ws' := []) [] (by decide) rfl
  have hFc := fr0 hA hS
  refine va_calli (va_runS (As := [.int v1, .int (0 : Int32), .int (2 : Int32)]) (rest := [.ref h0]) ⟨hx, hb, hml, hown, hts⟩ (c_X8_isIn l dC dI cI  _ v1 (0 : Int32) (2 : Int32) _ h) (va_cwS 3 hts gX8_termAt_X8_isIn rfl rfl rfl (by decide +kernel) ⟨Nat.le_of_ble_eq_true rfl, Nat.le_of_ble_eq_true rfl⟩) (pb_S hPc hK hDc hN) rfl rfl hl.1 rfl (lv_room (Nat.le_of_ble_eq_true rfl)) dX8_termAt_4 ⟨Nat.zero_le _, Nat.zero_le _⟩) hS (fun q _ h => hFc q h) hFc (fun r_8 u_7 t H locs ht hvm h hB hz1 hk1 hS => ?_)
  have hP := vaPk hP hk1
  obtain ⟨ht_, hf_⟩ := h
  refine lv_if_eq (tgt := 19) hx hb dX8_termAt_7 (by decide) (fun c_9 => ?_) (fun c_9 => ?_)
  · have h := ht_ c_9
    exact lab_19 s0_terms s0_number s0_term s0_triples s0_store s0_patterns s0_query s0_bound s0_found s0_work s0_kept s0_keptVariables s0_answers s0_thrown h _ _ hP hD hS _ hl
  · have h := hf_ c_9
    refine lv_iload_n hx hb dX8_termAt_10 rfl (lv_at hl 3 rfl) ?_
    refine lv_iconst (v := (0 : Int32)) hx hb dX8_termAt_11 (by decide) ?_
    refine lv_iconst (v := (2 : Int32)) hx hb dX8_termAt_12 (by decide) ?_
    have hPc := hP.sub (ws' := []) [] rfl
    have hDc := hD.sub (ws' := []) [] (by decide) rfl
    have hFc := fr0 hA hS
    refine va_calli (va_runS (As := [.int v3, .int (0 : Int32), .int (2 : Int32)]) (rest := [.ref h0]) ⟨hx, hb, hml, hown, hts⟩ (c_X8_isIn l dC dI cI  _ v3 (0 : Int32) (2 : Int32) _ h) (va_cwS 3 hts gX8_termAt_X8_isIn rfl rfl rfl (by decide +kernel) ⟨Nat.le_of_ble_eq_true rfl, Nat.le_of_ble_eq_true rfl⟩) (pb_S hPc hK hDc hN) rfl rfl hl.1 rfl (lv_room (Nat.le_of_ble_eq_true rfl)) dX8_termAt_13 ⟨Nat.zero_le _, Nat.zero_le _⟩) hS (fun q _ h => hFc q h) hFc (fun r_11 u_10 t H locs ht hvm h hB hz1 hk1 hS => ?_)
    have hP := vaPk hP hk1
    obtain ⟨ht_, hf_⟩ := h
    refine lv_if_ne (tgt := 23) hx hb dX8_termAt_16 (by decide) (fun c_12 => ?_) (fun c_12 => ?_)
    · have h := ht_ c_12
      refine lv_iload_n hx hb dX8_termAt_23 rfl (lv_at hl 2 rfl) ?_
      refine lv_iconst (v := (0 : Int32)) hx hb dX8_termAt_24 (by decide) ?_
      refine lv_aload_n hx hb dX8_termAt_25 rfl (lv_at hl 0 rfl) ?_
      refine va_get (D := (dC, dI)) (ci := 8) (v := .int s0_triples) (C := RX8) (T := TX8) (N := 14) hx hb hts (hinX8) hown hK hP 0 rfl rfl 3 (by decide) (hts (.fieldLink RX8 39 "TripleJoinsModel" "triples" "I") (by decide +kernel)) (fun _ h9 => h9) rfl dX8_termAt_26 ?_
      refine lv_iconst (v := (1 : Int32)) hx hb dX8_termAt_29 (by decide) ?_
      refine lv_isub hx hb dX8_termAt_30 ?_
      have hPc := hP.sub (ws' := []) [] rfl
      have hDc := hD.sub (ws' := []) [] (by decide) rfl
      have hFc := fr0 hA hS
      refine va_calli (va_runS (As := [.int v2, .int (0 : Int32), .int (s0_triples - (1 : Int32))]) (rest := [.ref h0]) ⟨hx, hb, hml, hown, hts⟩ (c_X8_isIn l dC dI cI  _ v2 (0 : Int32) (s0_triples - (1 : Int32)) _ h) (va_cwS 3 hts gX8_termAt_X8_isIn rfl rfl rfl (by decide +kernel) ⟨Nat.le_of_ble_eq_true rfl, Nat.le_of_ble_eq_true rfl⟩) (pb_S hPc hK hDc hN) rfl rfl hl.1 rfl (lv_room (Nat.le_of_ble_eq_true rfl)) dX8_termAt_31 ⟨Nat.zero_le _, Nat.zero_le _⟩) hS (fun q _ h => hFc q h) hFc (fun r_14 u_13 t H locs ht hvm h hB hz1 hk1 hS => ?_)
      have hP := vaPk hP hk1
      obtain ⟨ht_, hf_⟩ := h
      refine lv_if_eq (tgt := 41) hx hb dX8_termAt_34 (by decide) (fun c_15 => ?_) (fun c_15 => ?_)
      · have h := ht_ c_15
        refine lv_iconst (v := (2 : Int32)) hx hb dX8_termAt_41 (by decide) ?_
        exact lab_42 s0_terms s0_number s0_term s0_triples s0_store s0_patterns s0_query s0_bound s0_found s0_work s0_kept s0_keptVariables s0_answers s0_thrown (2 : Int32) h _ _ hP hD hS _ hl
      · have h := hf_ c_15
        refine lv_iconst (v := (0 : Int32)) hx hb dX8_termAt_37 (by decide) ?_
        refine lv_goto (tgt := 42) hx hb dX8_termAt_38 (by decide) ?_
        exact lab_42 s0_terms s0_number s0_term s0_triples s0_store s0_patterns s0_query s0_bound s0_found s0_work s0_kept s0_keptVariables s0_answers s0_thrown (0 : Int32) h _ _ hP hD hS _ hl
    · have h := hf_ c_12
      exact lab_19 s0_terms s0_number s0_term s0_triples s0_store s0_patterns s0_query s0_bound s0_found s0_work s0_kept s0_keptVariables s0_answers s0_thrown h _ _ hP hD hS _ hl
abbrev Q_X8_terms (dC : Nat → ClassId) (dI : Nat → Nat → Nat) (cI : ClassId) (h0 h0_1 h0_2 h0_3 h0_4 h0_5 h0_6 h0_7 : Nat) (s0 : ModS) (A : Nat → Prop) (post : Int32 → ModS → Prop) : Array Value → State → Outcome → State → Prop := va_Qi post (fun (u : ModS) (t : State) => va_P (dC, dI) vwCl [(h0, .inr (8, [.int u.terms, .ref h0_1, .ref h0_2, .int u.triples, .ref h0_3, .int u.patterns, .ref h0_4, .ref h0_5, .int u.found, .ref h0_6, .int u.kept, .int u.keptVariables, .ref h0_7, .int u.thrown])), (h0_1, .inl (cI, 100, .inl u.number)), (h0_2, .inl (cI, 40, .inl u.term)), (h0_3, .inl (cI, 180, .inl u.store)), (h0_4, .inl (cI, 9, .inl u.query)), (h0_5, .inl (cI, 16, .inl u.bound)), (h0_6, .inl (cI, 2000, .inl u.work)), (h0_7, .inl (cI, 2000, .inl u.answers))] t.heap ∧ va_D A [(h0, .inr (8, [.int u.terms, .ref h0_1, .ref h0_2, .int u.triples, .ref h0_3, .int u.patterns, .ref h0_4, .ref h0_5, .int u.found, .ref h0_6, .int u.kept, .int u.keptVariables, .ref h0_7, .int u.thrown])), (h0_1, .inl (cI, 100, .inl u.number)), (h0_2, .inl (cI, 40, .inl u.term)), (h0_3, .inl (cI, 180, .inl u.store)), (h0_4, .inl (cI, 9, .inl u.query)), (h0_5, .inl (cI, 16, .inl u.bound)), (h0_6, .inl (cI, 2000, .inl u.work)), (h0_7, .inl (cI, 2000, .inl u.answers))]) A
abbrev rm_X8_terms : Room := { frames := 0, cells := 0, slots := 0, locals := 0 }
set_option maxHeartbeats 4000000 in
set_option maxRecDepth 100000 in
theorem c_X8_terms (l : Launch) (dC : Nat → ClassId) (dI : Nat → Nat → Nat) (cI : ClassId) (h0 h0_1 h0_2 h0_3 h0_4 h0_5 h0_6 h0_7 : Nat) (sz : Nat) (s0 : ModS) (post : Int32 → ModS → Prop) (h : P_X8_terms s0 post) : Met l yX8_terms wsX8_terms rm_X8_terms (va_Pc [.ref h0] (cpre (dC, dI) [(cI, .int)] [(h0, .inr (8, [.int s0.terms, .ref h0_1, .ref h0_2, .int s0.triples, .ref h0_3, .int s0.patterns, .ref h0_4, .ref h0_5, .int s0.found, .ref h0_6, .int s0.kept, .int s0.keptVariables, .ref h0_7, .int s0.thrown])), (h0_1, .inl (cI, 100, .inl s0.number)), (h0_2, .inl (cI, 40, .inl s0.term)), (h0_3, .inl (cI, 180, .inl s0.store)), (h0_4, .inl (cI, 9, .inl s0.query)), (h0_5, .inl (cI, 16, .inl s0.bound)), (h0_6, .inl (cI, 2000, .inl s0.work)), (h0_7, .inl (cI, 2000, .inl s0.answers))] sz)) (Q_X8_terms dC dI cI h0 h0_1 h0_2 h0_3 h0_4 h0_5 h0_6 h0_7 s0 (va_A [(h0, .inr (8, [.int s0.terms, .ref h0_1, .ref h0_2, .int s0.triples, .ref h0_3, .int s0.patterns, .ref h0_4, .ref h0_5, .int s0.found, .ref h0_6, .int s0.kept, .int s0.keptVariables, .ref h0_7, .int s0.thrown])), (h0_1, .inl (cI, 100, .inl s0.number)), (h0_2, .inl (cI, 40, .inl s0.term)), (h0_3, .inl (cI, 180, .inl s0.store)), (h0_4, .inl (cI, 9, .inl s0.query)), (h0_5, .inl (cI, 16, .inl s0.bound)), (h0_6, .inl (cI, 2000, .inl s0.work)), (h0_7, .inl (cI, 2000, .inl s0.answers))] sz) post) 0 0 (va_A [(h0, .inr (8, [.int s0.terms, .ref h0_1, .ref h0_2, .int s0.triples, .ref h0_3, .int s0.patterns, .ref h0_4, .ref h0_5, .int s0.found, .ref h0_6, .int s0.kept, .int s0.keptVariables, .ref h0_7, .int s0.thrown])), (h0_1, .inl (cI, 100, .inl s0.number)), (h0_2, .inl (cI, 40, .inl s0.term)), (h0_3, .inl (cI, 180, .inl s0.store)), (h0_4, .inl (cI, 9, .inl s0.query)), (h0_5, .inl (cI, 16, .inl s0.bound)), (h0_6, .inl (cI, 2000, .inl s0.work)), (h0_7, .inl (cI, 2000, .inl s0.answers))] sz) := by
  refine Met.ofW (cc := cX8_terms) (maxL := 1) (ret := (some .int)) (by decide) rfl ?_
  intro p e s m args below meth c s₁ B hml hv
  obtain ⟨rfl, hsz, hP, hK, hD0, hN⟩ := hv
  have hx := B.exec
  have hb := B.bytes
  have hr := B.returns
  have hts := atoms_spec (ws := wsX8_terms) B.pre
  have hown : s.vm.findClass RX8 = some m.cls := findClass_of_methodNamed B.named
  have hlocks := B.notSynchronized
  subst hsz
  have hD := hD0.self (sz := s.heap.size)
  generalize hAe : va_A [(h0, .inr (8, [.int s0.terms, .ref h0_1, .ref h0_2, .int s0.triples, .ref h0_3, .int s0.patterns, .ref h0_4, .ref h0_5, .int s0.found, .ref h0_6, .int s0.kept, .int s0.keptVariables, .ref h0_7, .int s0.thrown])), (h0_1, .inl (cI, 100, .inl s0.number)), (h0_2, .inl (cI, 40, .inl s0.term)), (h0_3, .inl (cI, 180, .inl s0.store)), (h0_4, .inl (cI, 9, .inl s0.query)), (h0_5, .inl (cI, 16, .inl s0.bound)), (h0_6, .inl (cI, 2000, .inl s0.work)), (h0_7, .inl (cI, 2000, .inl s0.answers))] s.heap.size = A at hD ⊢
  have hA : ∀ q : Nat, s.heap.size ≤ q → A q := fun q h => by rw [← hAe]; exact Or.inr h
  clear hAe hD0
  obtain ⟨s0_terms, s0_number, s0_term, s0_triples, s0_store, s0_patterns, s0_query, s0_bound, s0_found, s0_work, s0_kept, s0_keptVariables, s0_answers, s0_thrown⟩ := s0
  have hS : va_S A s.heap s.heap [] := va_S.rf
  have hP : va_P (dC, dI) vwCl [(h0, .inr (8, [.int s0_terms, .ref h0_1, .ref h0_2, .int s0_triples, .ref h0_3, .int s0_patterns, .ref h0_4, .ref h0_5, .int s0_found, .ref h0_6, .int s0_kept, .int s0_keptVariables, .ref h0_7, .int s0_thrown])), (h0_1, .inl (cI, 100, .inl s0_number)), (h0_2, .inl (cI, 40, .inl s0_term)), (h0_3, .inl (cI, 180, .inl s0_store)), (h0_4, .inl (cI, 9, .inl s0_query)), (h0_5, .inl (cI, 16, .inl s0_bound)), (h0_6, .inl (cI, 2000, .inl s0_work)), (h0_7, .inl (cI, 2000, .inl s0_answers))] s.heap := hP
  have hD : va_D A [(h0, .inr (8, [.int s0_terms, .ref h0_1, .ref h0_2, .int s0_triples, .ref h0_3, .int s0_patterns, .ref h0_4, .ref h0_5, .int s0_found, .ref h0_6, .int s0_kept, .int s0_keptVariables, .ref h0_7, .int s0_thrown])), (h0_1, .inl (cI, 100, .inl s0_number)), (h0_2, .inl (cI, 40, .inl s0_term)), (h0_3, .inl (cI, 180, .inl s0_store)), (h0_4, .inl (cI, 9, .inl s0_query)), (h0_5, .inl (cI, 16, .inl s0_bound)), (h0_6, .inl (cI, 2000, .inl s0_work)), (h0_7, .inl (cI, 2000, .inl s0_answers))] := hD
  have hl := lv_entry ([.ref h0]) (n := 1) (Nat.le_of_ble_eq_true rfl)
  rw [lg_entry_eq]
  generalize (lg_sl ([.ref h0]) ++ List.replicate (1 - (lg_sl ([.ref h0])).length) Slot.unset).toArray = ls at hl ⊢
  have hl : lv_has ls 1 [(0, .ref h0)] := hl
  have hinX8 : ∀ w ∈ u_ws RX8 TX8 14, w ∈ wsX8_terms := by decide +kernel
  refine lv_aload_n hx hb dX8_terms_0 rfl (lv_at hl 0 rfl) ?_
  refine lv_iconst (v := (0 : Int32)) hx hb dX8_terms_1 (by decide) ?_
  refine va_put (D := (dC, dI)) (ci := 8) (v := .int (0 : Int32)) (ty := .int) (C := RX8) (T := TX8) (N := 14) hx hb hts (hinX8) tyX8 tyX8_ok nmX8 hown hK hP hD hS 0 rfl rfl 13 (by decide) (hts (.fieldLink RX8 31 "TripleJoinsModel" "thrown" "I") (by decide +kernel)) (fun _ h9 => h9) rfl (by decide +kernel) rfl rfl (Nat.le_of_ble_eq_true rfl) dX8_terms_2 (fun H locs hP hD hS => ?_)
  have hP : va_P (dC, dI) vwCl [(h0, .inr (8, [.int s0_terms, .ref h0_1, .ref h0_2, .int s0_triples, .ref h0_3, .int s0_patterns, .ref h0_4, .ref h0_5, .int s0_found, .ref h0_6, .int s0_kept, .int s0_keptVariables, .ref h0_7, .int (0 : Int32)])), (h0_1, .inl (cI, 100, .inl s0_number)), (h0_2, .inl (cI, 40, .inl s0_term)), (h0_3, .inl (cI, 180, .inl s0_store)), (h0_4, .inl (cI, 9, .inl s0_query)), (h0_5, .inl (cI, 16, .inl s0_bound)), (h0_6, .inl (cI, 2000, .inl s0_work)), (h0_7, .inl (cI, 2000, .inl s0_answers))] _ := hP
  have hD : va_D A [(h0, .inr (8, [.int s0_terms, .ref h0_1, .ref h0_2, .int s0_triples, .ref h0_3, .int s0_patterns, .ref h0_4, .ref h0_5, .int s0_found, .ref h0_6, .int s0_kept, .int s0_keptVariables, .ref h0_7, .int (0 : Int32)])), (h0_1, .inl (cI, 100, .inl s0_number)), (h0_2, .inl (cI, 40, .inl s0_term)), (h0_3, .inl (cI, 180, .inl s0_store)), (h0_4, .inl (cI, 9, .inl s0_query)), (h0_5, .inl (cI, 16, .inl s0_bound)), (h0_6, .inl (cI, 2000, .inl s0_work)), (h0_7, .inl (cI, 2000, .inl s0_answers))] := hD
  refine lv_aload_n hx hb dX8_terms_5 rfl (lv_at hl 0 rfl) ?_
  refine va_get (D := (dC, dI)) (ci := 8) (v := .int s0_terms) (C := RX8) (T := TX8) (N := 14) hx hb hts (hinX8) hown hK hP 0 rfl rfl 0 (by decide) (hts (.fieldLink RX8 42 "TripleJoinsModel" "terms" "I") (by decide +kernel)) (fun _ h9 => h9) rfl dX8_terms_6 ?_
  exact W.iret (v := s0_terms) hx hb hr (fun t ht hW => ⟨⟨s0_terms, (s0_terms, s0_number, s0_term, s0_triples, s0_store, s0_patterns, s0_query, s0_bound, s0_found, s0_work, s0_kept, s0_keptVariables, s0_answers, (0 : Int32)), rfl, h, ⟨by rw [ht]; exact hP, hD⟩⟩, hS.F ht⟩) hS.2.2 dX8_terms_9
abbrev Q_X8_numberOf (dC : Nat → ClassId) (dI : Nat → Nat → Nat) (cI : ClassId) (h0 h0_1 h0_2 h0_3 h0_4 h0_5 h0_6 h0_7 : Nat) (s0 : ModS) (A : Nat → Prop) (post : Int32 → ModS → Prop) : Array Value → State → Outcome → State → Prop := va_Qi post (fun (u : ModS) (t : State) => va_P (dC, dI) vwCl [(h0, .inr (8, [.int u.terms, .ref h0_1, .ref h0_2, .int u.triples, .ref h0_3, .int u.patterns, .ref h0_4, .ref h0_5, .int u.found, .ref h0_6, .int u.kept, .int u.keptVariables, .ref h0_7, .int u.thrown])), (h0_1, .inl (cI, 100, .inl u.number)), (h0_2, .inl (cI, 40, .inl u.term)), (h0_3, .inl (cI, 180, .inl u.store)), (h0_4, .inl (cI, 9, .inl u.query)), (h0_5, .inl (cI, 16, .inl u.bound)), (h0_6, .inl (cI, 2000, .inl u.work)), (h0_7, .inl (cI, 2000, .inl u.answers))] t.heap ∧ va_D A [(h0, .inr (8, [.int u.terms, .ref h0_1, .ref h0_2, .int u.triples, .ref h0_3, .int u.patterns, .ref h0_4, .ref h0_5, .int u.found, .ref h0_6, .int u.kept, .int u.keptVariables, .ref h0_7, .int u.thrown])), (h0_1, .inl (cI, 100, .inl u.number)), (h0_2, .inl (cI, 40, .inl u.term)), (h0_3, .inl (cI, 180, .inl u.store)), (h0_4, .inl (cI, 9, .inl u.query)), (h0_5, .inl (cI, 16, .inl u.bound)), (h0_6, .inl (cI, 2000, .inl u.work)), (h0_7, .inl (cI, 2000, .inl u.answers))]) A
abbrev rm_X8_numberOf : Room := { frames := 1, cells := 0, slots := 0, locals := 22 }
set_option maxHeartbeats 4000000 in
set_option maxRecDepth 100000 in
theorem c_X8_numberOf (l : Launch) (dC : Nat → ClassId) (dI : Nat → Nat → Nat) (cI : ClassId) (h0 h0_1 h0_2 h0_3 h0_4 h0_5 h0_6 h0_7 : Nat) (sz : Nat) (s0 : ModS) (v1 : Int32) (post : Int32 → ModS → Prop) (h : P_X8_numberOf s0 v1 post) : Met l yX8_numberOf wsX8_numberOf rm_X8_numberOf (va_Pc [.ref h0, .int v1] (cpre (dC, dI) [(cI, .int)] [(h0, .inr (8, [.int s0.terms, .ref h0_1, .ref h0_2, .int s0.triples, .ref h0_3, .int s0.patterns, .ref h0_4, .ref h0_5, .int s0.found, .ref h0_6, .int s0.kept, .int s0.keptVariables, .ref h0_7, .int s0.thrown])), (h0_1, .inl (cI, 100, .inl s0.number)), (h0_2, .inl (cI, 40, .inl s0.term)), (h0_3, .inl (cI, 180, .inl s0.store)), (h0_4, .inl (cI, 9, .inl s0.query)), (h0_5, .inl (cI, 16, .inl s0.bound)), (h0_6, .inl (cI, 2000, .inl s0.work)), (h0_7, .inl (cI, 2000, .inl s0.answers))] sz)) (Q_X8_numberOf dC dI cI h0 h0_1 h0_2 h0_3 h0_4 h0_5 h0_6 h0_7 s0 (va_A [(h0, .inr (8, [.int s0.terms, .ref h0_1, .ref h0_2, .int s0.triples, .ref h0_3, .int s0.patterns, .ref h0_4, .ref h0_5, .int s0.found, .ref h0_6, .int s0.kept, .int s0.keptVariables, .ref h0_7, .int s0.thrown])), (h0_1, .inl (cI, 100, .inl s0.number)), (h0_2, .inl (cI, 40, .inl s0.term)), (h0_3, .inl (cI, 180, .inl s0.store)), (h0_4, .inl (cI, 9, .inl s0.query)), (h0_5, .inl (cI, 16, .inl s0.bound)), (h0_6, .inl (cI, 2000, .inl s0.work)), (h0_7, .inl (cI, 2000, .inl s0.answers))] sz) post) 0 0 (va_A [(h0, .inr (8, [.int s0.terms, .ref h0_1, .ref h0_2, .int s0.triples, .ref h0_3, .int s0.patterns, .ref h0_4, .ref h0_5, .int s0.found, .ref h0_6, .int s0.kept, .int s0.keptVariables, .ref h0_7, .int s0.thrown])), (h0_1, .inl (cI, 100, .inl s0.number)), (h0_2, .inl (cI, 40, .inl s0.term)), (h0_3, .inl (cI, 180, .inl s0.store)), (h0_4, .inl (cI, 9, .inl s0.query)), (h0_5, .inl (cI, 16, .inl s0.bound)), (h0_6, .inl (cI, 2000, .inl s0.work)), (h0_7, .inl (cI, 2000, .inl s0.answers))] sz) := by
  refine Met.ofW (cc := cX8_numberOf) (maxL := 2) (ret := (some .int)) (by decide) rfl ?_
  intro p e s m args below meth c s₁ B hml hv
  obtain ⟨rfl, hsz, hP, hK, hD0, hN⟩ := hv
  have hx := B.exec
  have hb := B.bytes
  have hr := B.returns
  have hts := atoms_spec (ws := wsX8_numberOf) B.pre
  have hown : s.vm.findClass RX8 = some m.cls := findClass_of_methodNamed B.named
  have hlocks := B.notSynchronized
  subst hsz
  have hD := hD0.self (sz := s.heap.size)
  generalize hAe : va_A [(h0, .inr (8, [.int s0.terms, .ref h0_1, .ref h0_2, .int s0.triples, .ref h0_3, .int s0.patterns, .ref h0_4, .ref h0_5, .int s0.found, .ref h0_6, .int s0.kept, .int s0.keptVariables, .ref h0_7, .int s0.thrown])), (h0_1, .inl (cI, 100, .inl s0.number)), (h0_2, .inl (cI, 40, .inl s0.term)), (h0_3, .inl (cI, 180, .inl s0.store)), (h0_4, .inl (cI, 9, .inl s0.query)), (h0_5, .inl (cI, 16, .inl s0.bound)), (h0_6, .inl (cI, 2000, .inl s0.work)), (h0_7, .inl (cI, 2000, .inl s0.answers))] s.heap.size = A at hD ⊢
  have hA : ∀ q : Nat, s.heap.size ≤ q → A q := fun q h => by rw [← hAe]; exact Or.inr h
  clear hAe hD0
  obtain ⟨s0_terms, s0_number, s0_term, s0_triples, s0_store, s0_patterns, s0_query, s0_bound, s0_found, s0_work, s0_kept, s0_keptVariables, s0_answers, s0_thrown⟩ := s0
  have hS : va_S A s.heap s.heap [] := va_S.rf
  have hP : va_P (dC, dI) vwCl [(h0, .inr (8, [.int s0_terms, .ref h0_1, .ref h0_2, .int s0_triples, .ref h0_3, .int s0_patterns, .ref h0_4, .ref h0_5, .int s0_found, .ref h0_6, .int s0_kept, .int s0_keptVariables, .ref h0_7, .int s0_thrown])), (h0_1, .inl (cI, 100, .inl s0_number)), (h0_2, .inl (cI, 40, .inl s0_term)), (h0_3, .inl (cI, 180, .inl s0_store)), (h0_4, .inl (cI, 9, .inl s0_query)), (h0_5, .inl (cI, 16, .inl s0_bound)), (h0_6, .inl (cI, 2000, .inl s0_work)), (h0_7, .inl (cI, 2000, .inl s0_answers))] s.heap := hP
  have hD : va_D A [(h0, .inr (8, [.int s0_terms, .ref h0_1, .ref h0_2, .int s0_triples, .ref h0_3, .int s0_patterns, .ref h0_4, .ref h0_5, .int s0_found, .ref h0_6, .int s0_kept, .int s0_keptVariables, .ref h0_7, .int s0_thrown])), (h0_1, .inl (cI, 100, .inl s0_number)), (h0_2, .inl (cI, 40, .inl s0_term)), (h0_3, .inl (cI, 180, .inl s0_store)), (h0_4, .inl (cI, 9, .inl s0_query)), (h0_5, .inl (cI, 16, .inl s0_bound)), (h0_6, .inl (cI, 2000, .inl s0_work)), (h0_7, .inl (cI, 2000, .inl s0_answers))] := hD
  have hl := lv_entry ([.ref h0, .int v1]) (n := 2) (Nat.le_of_ble_eq_true rfl)
  rw [lg_entry_eq]
  generalize (lg_sl ([.ref h0, .int v1]) ++ List.replicate (2 - (lg_sl ([.ref h0, .int v1])).length) Slot.unset).toArray = ls at hl ⊢
  have hl : lv_has ls 2 [(0, .ref h0), (1, .int v1)] := hl
  have hinX8 : ∀ w ∈ u_ws RX8 TX8 14, w ∈ wsX8_numberOf := by decide +kernel
  have lab_16 : ∀ (s0_1_terms : Int32) (s0_1_number : Nat → Int32) (s0_1_term : Nat → Int32) (s0_1_triples : Int32) (s0_1_store : Nat → Int32) (s0_1_patterns : Int32) (s0_1_query : Nat → Int32) (s0_1_bound : Nat → Int32) (s0_1_found : Int32) (s0_1_work : Nat → Int32) (s0_1_kept : Int32) (s0_1_keptVariables : Int32) (s0_1_answers : Nat → Int32) (s0_1_thrown : Int32) (x0_2 : Int32) (h : P_X8_numberOf_j16 (s0_1_terms, s0_1_number, s0_1_term, s0_1_triples, s0_1_store, s0_1_patterns, s0_1_query, s0_1_bound, s0_1_found, s0_1_work, s0_1_kept, s0_1_keptVariables, s0_1_answers, s0_1_thrown) v1 x0_2 post) (H : Heap) (locs : List Loc) (hP : va_P (dC, dI) vwCl [(h0, .inr (8, [.int s0_1_terms, .ref h0_1, .ref h0_2, .int s0_1_triples, .ref h0_3, .int s0_1_patterns, .ref h0_4, .ref h0_5, .int s0_1_found, .ref h0_6, .int s0_1_kept, .int s0_1_keptVariables, .ref h0_7, .int s0_1_thrown])), (h0_1, .inl (cI, 100, .inl s0_1_number)), (h0_2, .inl (cI, 40, .inl s0_1_term)), (h0_3, .inl (cI, 180, .inl s0_1_store)), (h0_4, .inl (cI, 9, .inl s0_1_query)), (h0_5, .inl (cI, 16, .inl s0_1_bound)), (h0_6, .inl (cI, 2000, .inl s0_1_work)), (h0_7, .inl (cI, 2000, .inl s0_1_answers))] H) (hD : va_D A [(h0, .inr (8, [.int s0_1_terms, .ref h0_1, .ref h0_2, .int s0_1_triples, .ref h0_3, .int s0_1_patterns, .ref h0_4, .ref h0_5, .int s0_1_found, .ref h0_6, .int s0_1_kept, .int s0_1_keptVariables, .ref h0_7, .int s0_1_thrown])), (h0_1, .inl (cI, 100, .inl s0_1_number)), (h0_2, .inl (cI, 40, .inl s0_1_term)), (h0_3, .inl (cI, 180, .inl s0_1_store)), (h0_4, .inl (cI, 9, .inl s0_1_query)), (h0_5, .inl (cI, 16, .inl s0_1_bound)), (h0_6, .inl (cI, 2000, .inl s0_1_work)), (h0_7, .inl (cI, 2000, .inl s0_1_answers))]) (hS : va_S A s.heap H locs) (ls : Array Slot) (hl : lv_has ls 2 [(0, .ref h0), (1, .int v1)]), W p l e rm_X8_numberOf s m ([.ref h0, .int v1] : List Value).toArray below meth c H locs 0 0 (MQ below (Q_X8_numberOf dC dI cI h0 h0_1 h0_2 h0_3 h0_4 h0_5 h0_6 h0_7 (s0_terms, s0_number, s0_term, s0_triples, s0_store, s0_patterns, s0_query, s0_bound, s0_found, s0_work, s0_kept, s0_keptVariables, s0_answers, s0_thrown) A post) (([.ref h0, .int v1] : List Value).toArray) s 0 0 A) (F0 m 16 ls [.int x0_2, .ref h0]) := by
    intro s0_1_terms s0_1_number s0_1_term s0_1_triples s0_1_store s0_1_patterns s0_1_query s0_1_bound s0_1_found s0_1_work s0_1_kept s0_1_keptVariables s0_1_answers s0_1_thrown x0_2 h H locs hP hD hS ls hl
    refine va_put (D := (dC, dI)) (ci := 8) (v := .int x0_2) (ty := .int) (C := RX8) (T := TX8) (N := 14) hx hb hts (hinX8) tyX8 tyX8_ok nmX8 hown hK hP hD hS 0 rfl rfl 13 (by decide) (hts (.fieldLink RX8 31 "TripleJoinsModel" "thrown" "I") (by decide +kernel)) (fun _ h9 => h9) rfl (by decide +kernel) rfl rfl (Nat.le_of_ble_eq_true rfl) dX8_numberOf_16 (fun H locs hP hD hS => ?_)
    have hP : va_P (dC, dI) vwCl [(h0, .inr (8, [.int s0_1_terms, .ref h0_1, .ref h0_2, .int s0_1_triples, .ref h0_3, .int s0_1_patterns, .ref h0_4, .ref h0_5, .int s0_1_found, .ref h0_6, .int s0_1_kept, .int s0_1_keptVariables, .ref h0_7, .int x0_2])), (h0_1, .inl (cI, 100, .inl s0_1_number)), (h0_2, .inl (cI, 40, .inl s0_1_term)), (h0_3, .inl (cI, 180, .inl s0_1_store)), (h0_4, .inl (cI, 9, .inl s0_1_query)), (h0_5, .inl (cI, 16, .inl s0_1_bound)), (h0_6, .inl (cI, 2000, .inl s0_1_work)), (h0_7, .inl (cI, 2000, .inl s0_1_answers))] _ := hP
    have hD : va_D A [(h0, .inr (8, [.int s0_1_terms, .ref h0_1, .ref h0_2, .int s0_1_triples, .ref h0_3, .int s0_1_patterns, .ref h0_4, .ref h0_5, .int s0_1_found, .ref h0_6, .int s0_1_kept, .int s0_1_keptVariables, .ref h0_7, .int x0_2])), (h0_1, .inl (cI, 100, .inl s0_1_number)), (h0_2, .inl (cI, 40, .inl s0_1_term)), (h0_3, .inl (cI, 180, .inl s0_1_store)), (h0_4, .inl (cI, 9, .inl s0_1_query)), (h0_5, .inl (cI, 16, .inl s0_1_bound)), (h0_6, .inl (cI, 2000, .inl s0_1_work)), (h0_7, .inl (cI, 2000, .inl s0_1_answers))] := hD
    refine lv_aload_n hx hb dX8_numberOf_19 rfl (lv_at hl 0 rfl) ?_
    refine va_get (D := (dC, dI)) (ci := 8) (v := .int x0_2) (C := RX8) (T := TX8) (N := 14) hx hb hts (hinX8) hown hK hP 0 rfl rfl 13 (by decide) (hts (.fieldLink RX8 31 "TripleJoinsModel" "thrown" "I") (by decide +kernel)) (fun _ h9 => h9) rfl dX8_numberOf_20 ?_
    obtain ⟨ht_, hf_⟩ := h
    refine lv_if_le (tgt := 30) hx hb dX8_numberOf_23 (by decide) (fun c_3 => ?_) (fun c_3 => ?_)
    · have h := ht_ c_3
      refine lv_aload_n hx hb dX8_numberOf_30 rfl (lv_at hl 0 rfl) ?_
      refine va_get (D := (dC, dI)) (ci := 8) (v := .ref h0_1) (C := RX8) (T := TX8) (N := 14) hx hb hts (hinX8) hown hK hP 0 rfl rfl 1 (by decide) (hts (.fieldLink RX8 7 "TripleJoinsModel" "number" "[I") (by decide +kernel)) (fun _ h9 => h9) rfl dX8_numberOf_31 ?_
      refine lv_iload_n hx hb dX8_numberOf_34 rfl (lv_at hl 1 rfl) ?_
      obtain ⟨hin, h⟩ := h
      refine va_iald (n := 100) hx hb hK hP 1 0 rfl rfl hin dX8_numberOf_35 ?_
      exact W.iret (v := (s0_1_number (v1).toNatClampNeg)) hx hb hr (fun t ht hW => ⟨⟨(s0_1_number (v1).toNatClampNeg), (s0_1_terms, s0_1_number, s0_1_term, s0_1_triples, s0_1_store, s0_1_patterns, s0_1_query, s0_1_bound, s0_1_found, s0_1_work, s0_1_kept, s0_1_keptVariables, s0_1_answers, x0_2), rfl, h, ⟨by rw [ht]; exact hP, hD⟩⟩, hS.F ht⟩) hS.2.2 dX8_numberOf_36
    · have h := hf_ c_3
      refine lv_iconst (v := (0 : Int32)) hx hb dX8_numberOf_26 (by decide) ?_
      refine lv_goto (tgt := 36) hx hb dX8_numberOf_27 (by decide) ?_
      exact W.iret (v := (0 : Int32)) hx hb hr (fun t ht hW => ⟨⟨(0 : Int32), (s0_1_terms, s0_1_number, s0_1_term, s0_1_triples, s0_1_store, s0_1_patterns, s0_1_query, s0_1_bound, s0_1_found, s0_1_work, s0_1_kept, s0_1_keptVariables, s0_1_answers, x0_2), rfl, h, ⟨by rw [ht]; exact hP, hD⟩⟩, hS.F ht⟩) hS.2.2 dX8_numberOf_36
  refine lv_aload_n hx hb dX8_numberOf_0 rfl (lv_at hl 0 rfl) ?_
  refine lv_iload_n hx hb dX8_numberOf_1 rfl (lv_at hl 1 rfl) ?_
  refine lv_iconst (v := (0 : Int32)) hx hb dX8_numberOf_2 (by decide) ?_
  refine lv_bipush (v := (99 : Int32)) hx hb dX8_numberOf_3 (by decide) ?_
  have hPc := hP.sub (ws' := []) [] rfl
  have hDc := hD.sub (ws' := []) [] (by decide) rfl
  have hFc := fr0 hA hS
  refine va_calli (va_runS (As := [.int v1, .int (0 : Int32), .int (99 : Int32)]) (rest := [.ref h0]) ⟨hx, hb, hml, hown, hts⟩ (c_X8_isIn l dC dI cI  _ v1 (0 : Int32) (99 : Int32) _ h) (va_cwS 3 hts gX8_numberOf_X8_isIn rfl rfl rfl (by decide +kernel) ⟨Nat.le_of_ble_eq_true rfl, Nat.le_of_ble_eq_true rfl⟩) (pb_S hPc hK hDc hN) rfl rfl hl.1 rfl (lv_room (Nat.le_of_ble_eq_true rfl)) dX8_numberOf_5 ⟨Nat.zero_le _, Nat.zero_le _⟩) hS (fun q _ h => hFc q h) hFc (fun r_5 u_4 t H locs ht hvm h hB hz1 hk1 hS => ?_)
  have hP := vaPk hP hk1
  obtain ⟨ht_, hf_⟩ := h
  refine lv_if_eq (tgt := 15) hx hb dX8_numberOf_8 (by decide) (fun c_6 => ?_) (fun c_6 => ?_)
  · have h := ht_ c_6
    refine lv_iconst (v := (1 : Int32)) hx hb dX8_numberOf_15 (by decide) ?_
    exact lab_16 s0_terms s0_number s0_term s0_triples s0_store s0_patterns s0_query s0_bound s0_found s0_work s0_kept s0_keptVariables s0_answers s0_thrown (1 : Int32) h _ _ hP hD hS _ hl
  · have h := hf_ c_6
    refine lv_iconst (v := (0 : Int32)) hx hb dX8_numberOf_11 (by decide) ?_
    refine lv_goto (tgt := 16) hx hb dX8_numberOf_12 (by decide) ?_
    exact lab_16 s0_terms s0_number s0_term s0_triples s0_store s0_patterns s0_query s0_bound s0_found s0_work s0_kept s0_keptVariables s0_answers s0_thrown (0 : Int32) h _ _ hP hD hS _ hl
abbrev Q_X8_termOf (dC : Nat → ClassId) (dI : Nat → Nat → Nat) (cI : ClassId) (h0 h0_1 h0_2 h0_3 h0_4 h0_5 h0_6 h0_7 : Nat) (s0 : ModS) (A : Nat → Prop) (post : Int32 → ModS → Prop) : Array Value → State → Outcome → State → Prop := va_Qi post (fun (u : ModS) (t : State) => va_P (dC, dI) vwCl [(h0, .inr (8, [.int u.terms, .ref h0_1, .ref h0_2, .int u.triples, .ref h0_3, .int u.patterns, .ref h0_4, .ref h0_5, .int u.found, .ref h0_6, .int u.kept, .int u.keptVariables, .ref h0_7, .int u.thrown])), (h0_1, .inl (cI, 100, .inl u.number)), (h0_2, .inl (cI, 40, .inl u.term)), (h0_3, .inl (cI, 180, .inl u.store)), (h0_4, .inl (cI, 9, .inl u.query)), (h0_5, .inl (cI, 16, .inl u.bound)), (h0_6, .inl (cI, 2000, .inl u.work)), (h0_7, .inl (cI, 2000, .inl u.answers))] t.heap ∧ va_D A [(h0, .inr (8, [.int u.terms, .ref h0_1, .ref h0_2, .int u.triples, .ref h0_3, .int u.patterns, .ref h0_4, .ref h0_5, .int u.found, .ref h0_6, .int u.kept, .int u.keptVariables, .ref h0_7, .int u.thrown])), (h0_1, .inl (cI, 100, .inl u.number)), (h0_2, .inl (cI, 40, .inl u.term)), (h0_3, .inl (cI, 180, .inl u.store)), (h0_4, .inl (cI, 9, .inl u.query)), (h0_5, .inl (cI, 16, .inl u.bound)), (h0_6, .inl (cI, 2000, .inl u.work)), (h0_7, .inl (cI, 2000, .inl u.answers))]) A
abbrev rm_X8_termOf : Room := { frames := 1, cells := 0, slots := 0, locals := 22 }
set_option maxHeartbeats 4000000 in
set_option maxRecDepth 100000 in
theorem c_X8_termOf (l : Launch) (dC : Nat → ClassId) (dI : Nat → Nat → Nat) (cI : ClassId) (h0 h0_1 h0_2 h0_3 h0_4 h0_5 h0_6 h0_7 : Nat) (sz : Nat) (s0 : ModS) (v1 : Int32) (post : Int32 → ModS → Prop) (h : P_X8_termOf s0 v1 post) : Met l yX8_termOf wsX8_termOf rm_X8_termOf (va_Pc [.ref h0, .int v1] (cpre (dC, dI) [(cI, .int)] [(h0, .inr (8, [.int s0.terms, .ref h0_1, .ref h0_2, .int s0.triples, .ref h0_3, .int s0.patterns, .ref h0_4, .ref h0_5, .int s0.found, .ref h0_6, .int s0.kept, .int s0.keptVariables, .ref h0_7, .int s0.thrown])), (h0_1, .inl (cI, 100, .inl s0.number)), (h0_2, .inl (cI, 40, .inl s0.term)), (h0_3, .inl (cI, 180, .inl s0.store)), (h0_4, .inl (cI, 9, .inl s0.query)), (h0_5, .inl (cI, 16, .inl s0.bound)), (h0_6, .inl (cI, 2000, .inl s0.work)), (h0_7, .inl (cI, 2000, .inl s0.answers))] sz)) (Q_X8_termOf dC dI cI h0 h0_1 h0_2 h0_3 h0_4 h0_5 h0_6 h0_7 s0 (va_A [(h0, .inr (8, [.int s0.terms, .ref h0_1, .ref h0_2, .int s0.triples, .ref h0_3, .int s0.patterns, .ref h0_4, .ref h0_5, .int s0.found, .ref h0_6, .int s0.kept, .int s0.keptVariables, .ref h0_7, .int s0.thrown])), (h0_1, .inl (cI, 100, .inl s0.number)), (h0_2, .inl (cI, 40, .inl s0.term)), (h0_3, .inl (cI, 180, .inl s0.store)), (h0_4, .inl (cI, 9, .inl s0.query)), (h0_5, .inl (cI, 16, .inl s0.bound)), (h0_6, .inl (cI, 2000, .inl s0.work)), (h0_7, .inl (cI, 2000, .inl s0.answers))] sz) post) 0 0 (va_A [(h0, .inr (8, [.int s0.terms, .ref h0_1, .ref h0_2, .int s0.triples, .ref h0_3, .int s0.patterns, .ref h0_4, .ref h0_5, .int s0.found, .ref h0_6, .int s0.kept, .int s0.keptVariables, .ref h0_7, .int s0.thrown])), (h0_1, .inl (cI, 100, .inl s0.number)), (h0_2, .inl (cI, 40, .inl s0.term)), (h0_3, .inl (cI, 180, .inl s0.store)), (h0_4, .inl (cI, 9, .inl s0.query)), (h0_5, .inl (cI, 16, .inl s0.bound)), (h0_6, .inl (cI, 2000, .inl s0.work)), (h0_7, .inl (cI, 2000, .inl s0.answers))] sz) := by
  refine Met.ofW (cc := cX8_termOf) (maxL := 2) (ret := (some .int)) (by decide) rfl ?_
  intro p e s m args below meth c s₁ B hml hv
  obtain ⟨rfl, hsz, hP, hK, hD0, hN⟩ := hv
  have hx := B.exec
  have hb := B.bytes
  have hr := B.returns
  have hts := atoms_spec (ws := wsX8_termOf) B.pre
  have hown : s.vm.findClass RX8 = some m.cls := findClass_of_methodNamed B.named
  have hlocks := B.notSynchronized
  subst hsz
  have hD := hD0.self (sz := s.heap.size)
  generalize hAe : va_A [(h0, .inr (8, [.int s0.terms, .ref h0_1, .ref h0_2, .int s0.triples, .ref h0_3, .int s0.patterns, .ref h0_4, .ref h0_5, .int s0.found, .ref h0_6, .int s0.kept, .int s0.keptVariables, .ref h0_7, .int s0.thrown])), (h0_1, .inl (cI, 100, .inl s0.number)), (h0_2, .inl (cI, 40, .inl s0.term)), (h0_3, .inl (cI, 180, .inl s0.store)), (h0_4, .inl (cI, 9, .inl s0.query)), (h0_5, .inl (cI, 16, .inl s0.bound)), (h0_6, .inl (cI, 2000, .inl s0.work)), (h0_7, .inl (cI, 2000, .inl s0.answers))] s.heap.size = A at hD ⊢
  have hA : ∀ q : Nat, s.heap.size ≤ q → A q := fun q h => by rw [← hAe]; exact Or.inr h
  clear hAe hD0
  obtain ⟨s0_terms, s0_number, s0_term, s0_triples, s0_store, s0_patterns, s0_query, s0_bound, s0_found, s0_work, s0_kept, s0_keptVariables, s0_answers, s0_thrown⟩ := s0
  have hS : va_S A s.heap s.heap [] := va_S.rf
  have hP : va_P (dC, dI) vwCl [(h0, .inr (8, [.int s0_terms, .ref h0_1, .ref h0_2, .int s0_triples, .ref h0_3, .int s0_patterns, .ref h0_4, .ref h0_5, .int s0_found, .ref h0_6, .int s0_kept, .int s0_keptVariables, .ref h0_7, .int s0_thrown])), (h0_1, .inl (cI, 100, .inl s0_number)), (h0_2, .inl (cI, 40, .inl s0_term)), (h0_3, .inl (cI, 180, .inl s0_store)), (h0_4, .inl (cI, 9, .inl s0_query)), (h0_5, .inl (cI, 16, .inl s0_bound)), (h0_6, .inl (cI, 2000, .inl s0_work)), (h0_7, .inl (cI, 2000, .inl s0_answers))] s.heap := hP
  have hD : va_D A [(h0, .inr (8, [.int s0_terms, .ref h0_1, .ref h0_2, .int s0_triples, .ref h0_3, .int s0_patterns, .ref h0_4, .ref h0_5, .int s0_found, .ref h0_6, .int s0_kept, .int s0_keptVariables, .ref h0_7, .int s0_thrown])), (h0_1, .inl (cI, 100, .inl s0_number)), (h0_2, .inl (cI, 40, .inl s0_term)), (h0_3, .inl (cI, 180, .inl s0_store)), (h0_4, .inl (cI, 9, .inl s0_query)), (h0_5, .inl (cI, 16, .inl s0_bound)), (h0_6, .inl (cI, 2000, .inl s0_work)), (h0_7, .inl (cI, 2000, .inl s0_answers))] := hD
  have hl := lv_entry ([.ref h0, .int v1]) (n := 2) (Nat.le_of_ble_eq_true rfl)
  rw [lg_entry_eq]
  generalize (lg_sl ([.ref h0, .int v1]) ++ List.replicate (2 - (lg_sl ([.ref h0, .int v1])).length) Slot.unset).toArray = ls at hl ⊢
  have hl : lv_has ls 2 [(0, .ref h0), (1, .int v1)] := hl
  have hinX8 : ∀ w ∈ u_ws RX8 TX8 14, w ∈ wsX8_termOf := by decide +kernel
  have lab_20 : ∀ (s0_1_terms : Int32) (s0_1_number : Nat → Int32) (s0_1_term : Nat → Int32) (s0_1_triples : Int32) (s0_1_store : Nat → Int32) (s0_1_patterns : Int32) (s0_1_query : Nat → Int32) (s0_1_bound : Nat → Int32) (s0_1_found : Int32) (s0_1_work : Nat → Int32) (s0_1_kept : Int32) (s0_1_keptVariables : Int32) (s0_1_answers : Nat → Int32) (s0_1_thrown : Int32) (x0_2 : Int32) (h : P_X8_termOf_j20 (s0_1_terms, s0_1_number, s0_1_term, s0_1_triples, s0_1_store, s0_1_patterns, s0_1_query, s0_1_bound, s0_1_found, s0_1_work, s0_1_kept, s0_1_keptVariables, s0_1_answers, s0_1_thrown) v1 x0_2 post) (H : Heap) (locs : List Loc) (hP : va_P (dC, dI) vwCl [(h0, .inr (8, [.int s0_1_terms, .ref h0_1, .ref h0_2, .int s0_1_triples, .ref h0_3, .int s0_1_patterns, .ref h0_4, .ref h0_5, .int s0_1_found, .ref h0_6, .int s0_1_kept, .int s0_1_keptVariables, .ref h0_7, .int s0_1_thrown])), (h0_1, .inl (cI, 100, .inl s0_1_number)), (h0_2, .inl (cI, 40, .inl s0_1_term)), (h0_3, .inl (cI, 180, .inl s0_1_store)), (h0_4, .inl (cI, 9, .inl s0_1_query)), (h0_5, .inl (cI, 16, .inl s0_1_bound)), (h0_6, .inl (cI, 2000, .inl s0_1_work)), (h0_7, .inl (cI, 2000, .inl s0_1_answers))] H) (hD : va_D A [(h0, .inr (8, [.int s0_1_terms, .ref h0_1, .ref h0_2, .int s0_1_triples, .ref h0_3, .int s0_1_patterns, .ref h0_4, .ref h0_5, .int s0_1_found, .ref h0_6, .int s0_1_kept, .int s0_1_keptVariables, .ref h0_7, .int s0_1_thrown])), (h0_1, .inl (cI, 100, .inl s0_1_number)), (h0_2, .inl (cI, 40, .inl s0_1_term)), (h0_3, .inl (cI, 180, .inl s0_1_store)), (h0_4, .inl (cI, 9, .inl s0_1_query)), (h0_5, .inl (cI, 16, .inl s0_1_bound)), (h0_6, .inl (cI, 2000, .inl s0_1_work)), (h0_7, .inl (cI, 2000, .inl s0_1_answers))]) (hS : va_S A s.heap H locs) (ls : Array Slot) (hl : lv_has ls 2 [(0, .ref h0), (1, .int v1)]), W p l e rm_X8_termOf s m ([.ref h0, .int v1] : List Value).toArray below meth c H locs 0 0 (MQ below (Q_X8_termOf dC dI cI h0 h0_1 h0_2 h0_3 h0_4 h0_5 h0_6 h0_7 (s0_terms, s0_number, s0_term, s0_triples, s0_store, s0_patterns, s0_query, s0_bound, s0_found, s0_work, s0_kept, s0_keptVariables, s0_answers, s0_thrown) A post) (([.ref h0, .int v1] : List Value).toArray) s 0 0 A) (F0 m 20 ls [.int x0_2, .ref h0]) := by
    intro s0_1_terms s0_1_number s0_1_term s0_1_triples s0_1_store s0_1_patterns s0_1_query s0_1_bound s0_1_found s0_1_work s0_1_kept s0_1_keptVariables s0_1_answers s0_1_thrown x0_2 h H locs hP hD hS ls hl
    refine va_put (D := (dC, dI)) (ci := 8) (v := .int x0_2) (ty := .int) (C := RX8) (T := TX8) (N := 14) hx hb hts (hinX8) tyX8 tyX8_ok nmX8 hown hK hP hD hS 0 rfl rfl 13 (by decide) (hts (.fieldLink RX8 31 "TripleJoinsModel" "thrown" "I") (by decide +kernel)) (fun _ h9 => h9) rfl (by decide +kernel) rfl rfl (Nat.le_of_ble_eq_true rfl) dX8_termOf_20 (fun H locs hP hD hS => ?_)
    have hP : va_P (dC, dI) vwCl [(h0, .inr (8, [.int s0_1_terms, .ref h0_1, .ref h0_2, .int s0_1_triples, .ref h0_3, .int s0_1_patterns, .ref h0_4, .ref h0_5, .int s0_1_found, .ref h0_6, .int s0_1_kept, .int s0_1_keptVariables, .ref h0_7, .int x0_2])), (h0_1, .inl (cI, 100, .inl s0_1_number)), (h0_2, .inl (cI, 40, .inl s0_1_term)), (h0_3, .inl (cI, 180, .inl s0_1_store)), (h0_4, .inl (cI, 9, .inl s0_1_query)), (h0_5, .inl (cI, 16, .inl s0_1_bound)), (h0_6, .inl (cI, 2000, .inl s0_1_work)), (h0_7, .inl (cI, 2000, .inl s0_1_answers))] _ := hP
    have hD : va_D A [(h0, .inr (8, [.int s0_1_terms, .ref h0_1, .ref h0_2, .int s0_1_triples, .ref h0_3, .int s0_1_patterns, .ref h0_4, .ref h0_5, .int s0_1_found, .ref h0_6, .int s0_1_kept, .int s0_1_keptVariables, .ref h0_7, .int x0_2])), (h0_1, .inl (cI, 100, .inl s0_1_number)), (h0_2, .inl (cI, 40, .inl s0_1_term)), (h0_3, .inl (cI, 180, .inl s0_1_store)), (h0_4, .inl (cI, 9, .inl s0_1_query)), (h0_5, .inl (cI, 16, .inl s0_1_bound)), (h0_6, .inl (cI, 2000, .inl s0_1_work)), (h0_7, .inl (cI, 2000, .inl s0_1_answers))] := hD
    refine lv_aload_n hx hb dX8_termOf_23 rfl (lv_at hl 0 rfl) ?_
    refine va_get (D := (dC, dI)) (ci := 8) (v := .int x0_2) (C := RX8) (T := TX8) (N := 14) hx hb hts (hinX8) hown hK hP 0 rfl rfl 13 (by decide) (hts (.fieldLink RX8 31 "TripleJoinsModel" "thrown" "I") (by decide +kernel)) (fun _ h9 => h9) rfl dX8_termOf_24 ?_
    obtain ⟨ht_, hf_⟩ := h
    refine lv_if_le (tgt := 34) hx hb dX8_termOf_27 (by decide) (fun c_3 => ?_) (fun c_3 => ?_)
    · have h := ht_ c_3
      refine lv_aload_n hx hb dX8_termOf_34 rfl (lv_at hl 0 rfl) ?_
      refine va_get (D := (dC, dI)) (ci := 8) (v := .ref h0_2) (C := RX8) (T := TX8) (N := 14) hx hb hts (hinX8) hown hK hP 0 rfl rfl 2 (by decide) (hts (.fieldLink RX8 13 "TripleJoinsModel" "term" "[I") (by decide +kernel)) (fun _ h9 => h9) rfl dX8_termOf_35 ?_
      refine lv_iload_n hx hb dX8_termOf_38 rfl (lv_at hl 1 rfl) ?_
      obtain ⟨hin, h⟩ := h
      refine va_iald (n := 40) hx hb hK hP 2 0 rfl rfl hin dX8_termOf_39 ?_
      exact W.iret (v := (s0_1_term (v1).toNatClampNeg)) hx hb hr (fun t ht hW => ⟨⟨(s0_1_term (v1).toNatClampNeg), (s0_1_terms, s0_1_number, s0_1_term, s0_1_triples, s0_1_store, s0_1_patterns, s0_1_query, s0_1_bound, s0_1_found, s0_1_work, s0_1_kept, s0_1_keptVariables, s0_1_answers, x0_2), rfl, h, ⟨by rw [ht]; exact hP, hD⟩⟩, hS.F ht⟩) hS.2.2 dX8_termOf_40
    · have h := hf_ c_3
      refine lv_iconst (v := (0 : Int32)) hx hb dX8_termOf_30 (by decide) ?_
      refine lv_goto (tgt := 40) hx hb dX8_termOf_31 (by decide) ?_
      exact W.iret (v := (0 : Int32)) hx hb hr (fun t ht hW => ⟨⟨(0 : Int32), (s0_1_terms, s0_1_number, s0_1_term, s0_1_triples, s0_1_store, s0_1_patterns, s0_1_query, s0_1_bound, s0_1_found, s0_1_work, s0_1_kept, s0_1_keptVariables, s0_1_answers, x0_2), rfl, h, ⟨by rw [ht]; exact hP, hD⟩⟩, hS.F ht⟩) hS.2.2 dX8_termOf_40
  refine lv_aload_n hx hb dX8_termOf_0 rfl (lv_at hl 0 rfl) ?_
  refine lv_iload_n hx hb dX8_termOf_1 rfl (lv_at hl 1 rfl) ?_
  refine lv_iconst (v := (0 : Int32)) hx hb dX8_termOf_2 (by decide) ?_
  refine lv_aload_n hx hb dX8_termOf_3 rfl (lv_at hl 0 rfl) ?_
  refine va_get (D := (dC, dI)) (ci := 8) (v := .int s0_terms) (C := RX8) (T := TX8) (N := 14) hx hb hts (hinX8) hown hK hP 0 rfl rfl 0 (by decide) (hts (.fieldLink RX8 42 "TripleJoinsModel" "terms" "I") (by decide +kernel)) (fun _ h9 => h9) rfl dX8_termOf_4 ?_
  refine lv_iconst (v := (1 : Int32)) hx hb dX8_termOf_7 (by decide) ?_
  refine lv_isub hx hb dX8_termOf_8 ?_
  have hPc := hP.sub (ws' := []) [] rfl
  have hDc := hD.sub (ws' := []) [] (by decide) rfl
  have hFc := fr0 hA hS
  refine va_calli (va_runS (As := [.int v1, .int (0 : Int32), .int (s0_terms - (1 : Int32))]) (rest := [.ref h0]) ⟨hx, hb, hml, hown, hts⟩ (c_X8_isIn l dC dI cI  _ v1 (0 : Int32) (s0_terms - (1 : Int32)) _ h) (va_cwS 3 hts gX8_termOf_X8_isIn rfl rfl rfl (by decide +kernel) ⟨Nat.le_of_ble_eq_true rfl, Nat.le_of_ble_eq_true rfl⟩) (pb_S hPc hK hDc hN) rfl rfl hl.1 rfl (lv_room (Nat.le_of_ble_eq_true rfl)) dX8_termOf_9 ⟨Nat.zero_le _, Nat.zero_le _⟩) hS (fun q _ h => hFc q h) hFc (fun r_5 u_4 t H locs ht hvm h hB hz1 hk1 hS => ?_)
  have hP := vaPk hP hk1
  obtain ⟨ht_, hf_⟩ := h
  refine lv_if_eq (tgt := 19) hx hb dX8_termOf_12 (by decide) (fun c_6 => ?_) (fun c_6 => ?_)
  · have h := ht_ c_6
    refine lv_iconst (v := (1 : Int32)) hx hb dX8_termOf_19 (by decide) ?_
    exact lab_20 s0_terms s0_number s0_term s0_triples s0_store s0_patterns s0_query s0_bound s0_found s0_work s0_kept s0_keptVariables s0_answers s0_thrown (1 : Int32) h _ _ hP hD hS _ hl
  · have h := hf_ c_6
    refine lv_iconst (v := (0 : Int32)) hx hb dX8_termOf_15 (by decide) ?_
    refine lv_goto (tgt := 20) hx hb dX8_termOf_16 (by decide) ?_
    exact lab_20 s0_terms s0_number s0_term s0_triples s0_store s0_patterns s0_query s0_bound s0_found s0_work s0_kept s0_keptVariables s0_answers s0_thrown (0 : Int32) h _ _ hP hD hS _ hl
abbrev Q_X8_count (dC : Nat → ClassId) (dI : Nat → Nat → Nat) (cI : ClassId) (h0 h0_1 h0_2 h0_3 h0_4 h0_5 h0_6 h0_7 : Nat) (s0 : ModS) (A : Nat → Prop) (post : Int32 → ModS → Prop) : Array Value → State → Outcome → State → Prop := va_Qi post (fun (u : ModS) (t : State) => va_P (dC, dI) vwCl [(h0, .inr (8, [.int u.terms, .ref h0_1, .ref h0_2, .int u.triples, .ref h0_3, .int u.patterns, .ref h0_4, .ref h0_5, .int u.found, .ref h0_6, .int u.kept, .int u.keptVariables, .ref h0_7, .int u.thrown])), (h0_1, .inl (cI, 100, .inl u.number)), (h0_2, .inl (cI, 40, .inl u.term)), (h0_3, .inl (cI, 180, .inl u.store)), (h0_4, .inl (cI, 9, .inl u.query)), (h0_5, .inl (cI, 16, .inl u.bound)), (h0_6, .inl (cI, 2000, .inl u.work)), (h0_7, .inl (cI, 2000, .inl u.answers))] t.heap ∧ va_D A [(h0, .inr (8, [.int u.terms, .ref h0_1, .ref h0_2, .int u.triples, .ref h0_3, .int u.patterns, .ref h0_4, .ref h0_5, .int u.found, .ref h0_6, .int u.kept, .int u.keptVariables, .ref h0_7, .int u.thrown])), (h0_1, .inl (cI, 100, .inl u.number)), (h0_2, .inl (cI, 40, .inl u.term)), (h0_3, .inl (cI, 180, .inl u.store)), (h0_4, .inl (cI, 9, .inl u.query)), (h0_5, .inl (cI, 16, .inl u.bound)), (h0_6, .inl (cI, 2000, .inl u.work)), (h0_7, .inl (cI, 2000, .inl u.answers))]) A
abbrev rm_X8_count : Room := { frames := 2, cells := 0, slots := 0, locals := 45 }
set_option maxHeartbeats 4000000 in
set_option maxRecDepth 100000 in
theorem c_X8_count (l : Launch) (dC : Nat → ClassId) (dI : Nat → Nat → Nat) (cI : ClassId) (h0 h0_1 h0_2 h0_3 h0_4 h0_5 h0_6 h0_7 : Nat) (sz : Nat) (s0 : ModS) (v1 : Int32) (v2 : Int32) (v3 : Int32) (post : Int32 → ModS → Prop) (h : P_X8_count s0 v1 v2 v3 post) : Met l yX8_count wsX8_count rm_X8_count (va_Pc [.ref h0, .int v1, .int v2, .int v3] (cpre (dC, dI) [(cI, .int)] [(h0, .inr (8, [.int s0.terms, .ref h0_1, .ref h0_2, .int s0.triples, .ref h0_3, .int s0.patterns, .ref h0_4, .ref h0_5, .int s0.found, .ref h0_6, .int s0.kept, .int s0.keptVariables, .ref h0_7, .int s0.thrown])), (h0_1, .inl (cI, 100, .inl s0.number)), (h0_2, .inl (cI, 40, .inl s0.term)), (h0_3, .inl (cI, 180, .inl s0.store)), (h0_4, .inl (cI, 9, .inl s0.query)), (h0_5, .inl (cI, 16, .inl s0.bound)), (h0_6, .inl (cI, 2000, .inl s0.work)), (h0_7, .inl (cI, 2000, .inl s0.answers))] sz)) (Q_X8_count dC dI cI h0 h0_1 h0_2 h0_3 h0_4 h0_5 h0_6 h0_7 s0 (va_A [(h0, .inr (8, [.int s0.terms, .ref h0_1, .ref h0_2, .int s0.triples, .ref h0_3, .int s0.patterns, .ref h0_4, .ref h0_5, .int s0.found, .ref h0_6, .int s0.kept, .int s0.keptVariables, .ref h0_7, .int s0.thrown])), (h0_1, .inl (cI, 100, .inl s0.number)), (h0_2, .inl (cI, 40, .inl s0.term)), (h0_3, .inl (cI, 180, .inl s0.store)), (h0_4, .inl (cI, 9, .inl s0.query)), (h0_5, .inl (cI, 16, .inl s0.bound)), (h0_6, .inl (cI, 2000, .inl s0.work)), (h0_7, .inl (cI, 2000, .inl s0.answers))] sz) post) 0 0 (va_A [(h0, .inr (8, [.int s0.terms, .ref h0_1, .ref h0_2, .int s0.triples, .ref h0_3, .int s0.patterns, .ref h0_4, .ref h0_5, .int s0.found, .ref h0_6, .int s0.kept, .int s0.keptVariables, .ref h0_7, .int s0.thrown])), (h0_1, .inl (cI, 100, .inl s0.number)), (h0_2, .inl (cI, 40, .inl s0.term)), (h0_3, .inl (cI, 180, .inl s0.store)), (h0_4, .inl (cI, 9, .inl s0.query)), (h0_5, .inl (cI, 16, .inl s0.bound)), (h0_6, .inl (cI, 2000, .inl s0.work)), (h0_7, .inl (cI, 2000, .inl s0.answers))] sz) := by
  refine Met.ofW (cc := cX8_count) (maxL := 7) (ret := (some .int)) (by decide) rfl ?_
  intro p e s m args below meth c s₁ B hml hv
  obtain ⟨rfl, hsz, hP, hK, hD0, hN⟩ := hv
  have hx := B.exec
  have hb := B.bytes
  have hr := B.returns
  have hts := atoms_spec (ws := wsX8_count) B.pre
  have hown : s.vm.findClass RX8 = some m.cls := findClass_of_methodNamed B.named
  have hlocks := B.notSynchronized
  subst hsz
  have hD := hD0.self (sz := s.heap.size)
  generalize hAe : va_A [(h0, .inr (8, [.int s0.terms, .ref h0_1, .ref h0_2, .int s0.triples, .ref h0_3, .int s0.patterns, .ref h0_4, .ref h0_5, .int s0.found, .ref h0_6, .int s0.kept, .int s0.keptVariables, .ref h0_7, .int s0.thrown])), (h0_1, .inl (cI, 100, .inl s0.number)), (h0_2, .inl (cI, 40, .inl s0.term)), (h0_3, .inl (cI, 180, .inl s0.store)), (h0_4, .inl (cI, 9, .inl s0.query)), (h0_5, .inl (cI, 16, .inl s0.bound)), (h0_6, .inl (cI, 2000, .inl s0.work)), (h0_7, .inl (cI, 2000, .inl s0.answers))] s.heap.size = A at hD ⊢
  have hA : ∀ q : Nat, s.heap.size ≤ q → A q := fun q h => by rw [← hAe]; exact Or.inr h
  clear hAe hD0
  obtain ⟨s0_terms, s0_number, s0_term, s0_triples, s0_store, s0_patterns, s0_query, s0_bound, s0_found, s0_work, s0_kept, s0_keptVariables, s0_answers, s0_thrown⟩ := s0
  have hS : va_S A s.heap s.heap [] := va_S.rf
  have hP : va_P (dC, dI) vwCl [(h0, .inr (8, [.int s0_terms, .ref h0_1, .ref h0_2, .int s0_triples, .ref h0_3, .int s0_patterns, .ref h0_4, .ref h0_5, .int s0_found, .ref h0_6, .int s0_kept, .int s0_keptVariables, .ref h0_7, .int s0_thrown])), (h0_1, .inl (cI, 100, .inl s0_number)), (h0_2, .inl (cI, 40, .inl s0_term)), (h0_3, .inl (cI, 180, .inl s0_store)), (h0_4, .inl (cI, 9, .inl s0_query)), (h0_5, .inl (cI, 16, .inl s0_bound)), (h0_6, .inl (cI, 2000, .inl s0_work)), (h0_7, .inl (cI, 2000, .inl s0_answers))] s.heap := hP
  have hD : va_D A [(h0, .inr (8, [.int s0_terms, .ref h0_1, .ref h0_2, .int s0_triples, .ref h0_3, .int s0_patterns, .ref h0_4, .ref h0_5, .int s0_found, .ref h0_6, .int s0_kept, .int s0_keptVariables, .ref h0_7, .int s0_thrown])), (h0_1, .inl (cI, 100, .inl s0_number)), (h0_2, .inl (cI, 40, .inl s0_term)), (h0_3, .inl (cI, 180, .inl s0_store)), (h0_4, .inl (cI, 9, .inl s0_query)), (h0_5, .inl (cI, 16, .inl s0_bound)), (h0_6, .inl (cI, 2000, .inl s0_work)), (h0_7, .inl (cI, 2000, .inl s0_answers))] := hD
  have hl := lv_entry ([.ref h0, .int v1, .int v2, .int v3]) (n := 7) (Nat.le_of_ble_eq_true rfl)
  rw [lg_entry_eq]
  generalize (lg_sl ([.ref h0, .int v1, .int v2, .int v3]) ++ List.replicate (7 - (lg_sl ([.ref h0, .int v1, .int v2, .int v3])).length) Slot.unset).toArray = ls at hl ⊢
  have hl : lv_has ls 7 [(0, .ref h0), (1, .int v1), (2, .int v2), (3, .int v3)] := hl
  have hinX8 : ∀ w ∈ u_ws RX8 TX8 14, w ∈ wsX8_count := by decide +kernel
  have lab_16 : ∀ (s0_1_terms : Int32) (s0_1_number : Nat → Int32) (s0_1_term : Nat → Int32) (s0_1_triples : Int32) (s0_1_store : Nat → Int32) (s0_1_patterns : Int32) (s0_1_query : Nat → Int32) (s0_1_bound : Nat → Int32) (s0_1_found : Int32) (s0_1_work : Nat → Int32) (s0_1_kept : Int32) (s0_1_keptVariables : Int32) (s0_1_answers : Nat → Int32) (s0_1_thrown : Int32) (x0_2 : Int32) (h : P_X8_count_j16 (s0_1_terms, s0_1_number, s0_1_term, s0_1_triples, s0_1_store, s0_1_patterns, s0_1_query, s0_1_bound, s0_1_found, s0_1_work, s0_1_kept, s0_1_keptVariables, s0_1_answers, s0_1_thrown) v1 v2 v3 x0_2 post) (H : Heap) (locs : List Loc) (hP : va_P (dC, dI) vwCl [(h0, .inr (8, [.int s0_1_terms, .ref h0_1, .ref h0_2, .int s0_1_triples, .ref h0_3, .int s0_1_patterns, .ref h0_4, .ref h0_5, .int s0_1_found, .ref h0_6, .int s0_1_kept, .int s0_1_keptVariables, .ref h0_7, .int s0_1_thrown])), (h0_1, .inl (cI, 100, .inl s0_1_number)), (h0_2, .inl (cI, 40, .inl s0_1_term)), (h0_3, .inl (cI, 180, .inl s0_1_store)), (h0_4, .inl (cI, 9, .inl s0_1_query)), (h0_5, .inl (cI, 16, .inl s0_1_bound)), (h0_6, .inl (cI, 2000, .inl s0_1_work)), (h0_7, .inl (cI, 2000, .inl s0_1_answers))] H) (hD : va_D A [(h0, .inr (8, [.int s0_1_terms, .ref h0_1, .ref h0_2, .int s0_1_triples, .ref h0_3, .int s0_1_patterns, .ref h0_4, .ref h0_5, .int s0_1_found, .ref h0_6, .int s0_1_kept, .int s0_1_keptVariables, .ref h0_7, .int s0_1_thrown])), (h0_1, .inl (cI, 100, .inl s0_1_number)), (h0_2, .inl (cI, 40, .inl s0_1_term)), (h0_3, .inl (cI, 180, .inl s0_1_store)), (h0_4, .inl (cI, 9, .inl s0_1_query)), (h0_5, .inl (cI, 16, .inl s0_1_bound)), (h0_6, .inl (cI, 2000, .inl s0_1_work)), (h0_7, .inl (cI, 2000, .inl s0_1_answers))]) (hS : va_S A s.heap H locs) (ls : Array Slot) (hl : lv_has ls 7 [(0, .ref h0), (1, .int v1), (2, .int v2), (3, .int v3)]), W p l e rm_X8_count s m ([.ref h0, .int v1, .int v2, .int v3] : List Value).toArray below meth c H locs 0 0 (MQ below (Q_X8_count dC dI cI h0 h0_1 h0_2 h0_3 h0_4 h0_5 h0_6 h0_7 (s0_terms, s0_number, s0_term, s0_triples, s0_store, s0_patterns, s0_query, s0_bound, s0_found, s0_work, s0_kept, s0_keptVariables, s0_answers, s0_thrown) A post) (([.ref h0, .int v1, .int v2, .int v3] : List Value).toArray) s 0 0 A) (F0 m 16 ls [.int x0_2, .ref h0]) := by
    intro s0_1_terms s0_1_number s0_1_term s0_1_triples s0_1_store s0_1_patterns s0_1_query s0_1_bound s0_1_found s0_1_work s0_1_kept s0_1_keptVariables s0_1_answers s0_1_thrown x0_2 h H locs hP hD hS ls hl
    refine va_put (D := (dC, dI)) (ci := 8) (v := .int x0_2) (ty := .int) (C := RX8) (T := TX8) (N := 14) hx hb hts (hinX8) tyX8 tyX8_ok nmX8 hown hK hP hD hS 0 rfl rfl 13 (by decide) (hts (.fieldLink RX8 31 "TripleJoinsModel" "thrown" "I") (by decide +kernel)) (fun _ h9 => h9) rfl (by decide +kernel) rfl rfl (Nat.le_of_ble_eq_true rfl) dX8_count_16 (fun H locs hP hD hS => ?_)
    have hP : va_P (dC, dI) vwCl [(h0, .inr (8, [.int s0_1_terms, .ref h0_1, .ref h0_2, .int s0_1_triples, .ref h0_3, .int s0_1_patterns, .ref h0_4, .ref h0_5, .int s0_1_found, .ref h0_6, .int s0_1_kept, .int s0_1_keptVariables, .ref h0_7, .int x0_2])), (h0_1, .inl (cI, 100, .inl s0_1_number)), (h0_2, .inl (cI, 40, .inl s0_1_term)), (h0_3, .inl (cI, 180, .inl s0_1_store)), (h0_4, .inl (cI, 9, .inl s0_1_query)), (h0_5, .inl (cI, 16, .inl s0_1_bound)), (h0_6, .inl (cI, 2000, .inl s0_1_work)), (h0_7, .inl (cI, 2000, .inl s0_1_answers))] _ := hP
    have hD : va_D A [(h0, .inr (8, [.int s0_1_terms, .ref h0_1, .ref h0_2, .int s0_1_triples, .ref h0_3, .int s0_1_patterns, .ref h0_4, .ref h0_5, .int s0_1_found, .ref h0_6, .int s0_1_kept, .int s0_1_keptVariables, .ref h0_7, .int x0_2])), (h0_1, .inl (cI, 100, .inl s0_1_number)), (h0_2, .inl (cI, 40, .inl s0_1_term)), (h0_3, .inl (cI, 180, .inl s0_1_store)), (h0_4, .inl (cI, 9, .inl s0_1_query)), (h0_5, .inl (cI, 16, .inl s0_1_bound)), (h0_6, .inl (cI, 2000, .inl s0_1_work)), (h0_7, .inl (cI, 2000, .inl s0_1_answers))] := hD
    refine lv_iconst (v := (0 : Int32)) hx hb dX8_count_19 (by decide) ?_
    refine lv_istore (lv' := [(4, .int (0 : Int32)), (0, .ref h0), (1, .int v1), (2, .int v2), (3, .int v3)]) hx hb dX8_count_20 hl (by decide) rfl (fun ls hl => ?_)
    refine lv_iconst (v := (0 : Int32)) hx hb dX8_count_22 (by decide) ?_
    refine lv_istore (lv' := [(5, .int (0 : Int32)), (4, .int (0 : Int32)), (0, .ref h0), (1, .int v1), (2, .int v2), (3, .int v3)]) hx hb dX8_count_23 hl (by decide) rfl (fun ls hl => ?_)
    have hl : lv_has ls 7 [(0, .ref h0), (1, .int v1), (2, .int v2), (3, .int v3), (4, .int (0 : Int32)), (5, .int (0 : Int32))] := lv_sub hl [2, 3, 4, 5, 1, 0] rfl
    obtain ⟨I_3, hI_3, n_3, h⟩ := h
    have loop_3 : ∀ (n_3 : Nat) (v4_4 : Int32) (v5_5 : Int32) (h : I_3 n_3 (v4_4, v5_5)) (H : Heap) (locs : List Loc) (hP : va_P (dC, dI) vwCl [(h0, .inr (8, [.int s0_1_terms, .ref h0_1, .ref h0_2, .int s0_1_triples, .ref h0_3, .int s0_1_patterns, .ref h0_4, .ref h0_5, .int s0_1_found, .ref h0_6, .int s0_1_kept, .int s0_1_keptVariables, .ref h0_7, .int x0_2])), (h0_1, .inl (cI, 100, .inl s0_1_number)), (h0_2, .inl (cI, 40, .inl s0_1_term)), (h0_3, .inl (cI, 180, .inl s0_1_store)), (h0_4, .inl (cI, 9, .inl s0_1_query)), (h0_5, .inl (cI, 16, .inl s0_1_bound)), (h0_6, .inl (cI, 2000, .inl s0_1_work)), (h0_7, .inl (cI, 2000, .inl s0_1_answers))] H) (hD : va_D A [(h0, .inr (8, [.int s0_1_terms, .ref h0_1, .ref h0_2, .int s0_1_triples, .ref h0_3, .int s0_1_patterns, .ref h0_4, .ref h0_5, .int s0_1_found, .ref h0_6, .int s0_1_kept, .int s0_1_keptVariables, .ref h0_7, .int x0_2])), (h0_1, .inl (cI, 100, .inl s0_1_number)), (h0_2, .inl (cI, 40, .inl s0_1_term)), (h0_3, .inl (cI, 180, .inl s0_1_store)), (h0_4, .inl (cI, 9, .inl s0_1_query)), (h0_5, .inl (cI, 16, .inl s0_1_bound)), (h0_6, .inl (cI, 2000, .inl s0_1_work)), (h0_7, .inl (cI, 2000, .inl s0_1_answers))]) (hS : va_S A s.heap H locs) (ls : Array Slot) (hl : lv_has ls 7 [(0, .ref h0), (1, .int v1), (2, .int v2), (3, .int v3), (4, .int v4_4), (5, .int v5_5)]), W p l e rm_X8_count s m ([.ref h0, .int v1, .int v2, .int v3] : List Value).toArray below meth c H locs 0 0 (MQ below (Q_X8_count dC dI cI h0 h0_1 h0_2 h0_3 h0_4 h0_5 h0_6 h0_7 (s0_terms, s0_number, s0_term, s0_triples, s0_store, s0_patterns, s0_query, s0_bound, s0_found, s0_work, s0_kept, s0_keptVariables, s0_answers, s0_thrown) A post) (([.ref h0, .int v1, .int v2, .int v3] : List Value).toArray) s 0 0 A) (F0 m 25 ls []) := by
      intro n_3
      induction n_3 using Nat.strongRecOn with
      | ind n_3 ih_3 =>
        intro v4_4 v5_5 h H locs hP hD hS ls hl
        have h := hI_3 n_3 _ h
        have lab_135 : ∀ (v4_6 : Int32) (v5_7 : Int32) (x0_8 : Int32) (x1_9 : Int32) (h : P_X8_count_j135 (s0_1_terms, s0_1_number, s0_1_term, s0_1_triples, s0_1_store, s0_1_patterns, s0_1_query, s0_1_bound, s0_1_found, s0_1_work, s0_1_kept, s0_1_keptVariables, s0_1_answers, x0_2) v1 v2 v3 v4_6 v5_7 x0_8 x1_9 (fun w => ∃ k, k < n_3 ∧ I_3 k w) post) (H : Heap) (locs : List Loc) (hP : va_P (dC, dI) vwCl [(h0, .inr (8, [.int s0_1_terms, .ref h0_1, .ref h0_2, .int s0_1_triples, .ref h0_3, .int s0_1_patterns, .ref h0_4, .ref h0_5, .int s0_1_found, .ref h0_6, .int s0_1_kept, .int s0_1_keptVariables, .ref h0_7, .int x0_2])), (h0_1, .inl (cI, 100, .inl s0_1_number)), (h0_2, .inl (cI, 40, .inl s0_1_term)), (h0_3, .inl (cI, 180, .inl s0_1_store)), (h0_4, .inl (cI, 9, .inl s0_1_query)), (h0_5, .inl (cI, 16, .inl s0_1_bound)), (h0_6, .inl (cI, 2000, .inl s0_1_work)), (h0_7, .inl (cI, 2000, .inl s0_1_answers))] H) (hD : va_D A [(h0, .inr (8, [.int s0_1_terms, .ref h0_1, .ref h0_2, .int s0_1_triples, .ref h0_3, .int s0_1_patterns, .ref h0_4, .ref h0_5, .int s0_1_found, .ref h0_6, .int s0_1_kept, .int s0_1_keptVariables, .ref h0_7, .int x0_2])), (h0_1, .inl (cI, 100, .inl s0_1_number)), (h0_2, .inl (cI, 40, .inl s0_1_term)), (h0_3, .inl (cI, 180, .inl s0_1_store)), (h0_4, .inl (cI, 9, .inl s0_1_query)), (h0_5, .inl (cI, 16, .inl s0_1_bound)), (h0_6, .inl (cI, 2000, .inl s0_1_work)), (h0_7, .inl (cI, 2000, .inl s0_1_answers))]) (hS : va_S A s.heap H locs) (ls : Array Slot) (hl : lv_has ls 7 [(0, .ref h0), (1, .int v1), (2, .int v2), (3, .int v3), (4, .int v4_6), (5, .int v5_7)]), W p l e rm_X8_count s m ([.ref h0, .int v1, .int v2, .int v3] : List Value).toArray below meth c H locs 0 0 (MQ below (Q_X8_count dC dI cI h0 h0_1 h0_2 h0_3 h0_4 h0_5 h0_6 h0_7 (s0_terms, s0_number, s0_term, s0_triples, s0_store, s0_patterns, s0_query, s0_bound, s0_found, s0_work, s0_kept, s0_keptVariables, s0_answers, s0_thrown) A post) (([.ref h0, .int v1, .int v2, .int v3] : List Value).toArray) s 0 0 A) (F0 m 135 ls [.int x0_8, .int x1_9]) := by
          intro v4_6 v5_7 x0_8 x1_9 h H locs hP hD hS ls hl
          refine lv_iand hx hb dX8_count_135 ?_
          refine lv_istore (lv' := [(6, .int (x1_9 &&& x0_8)), (0, .ref h0), (1, .int v1), (2, .int v2), (3, .int v3), (4, .int v4_6), (5, .int v5_7)]) hx hb dX8_count_136 hl (by decide) rfl (fun ls hl => ?_)
          refine lv_iload hx hb dX8_count_138 (lv_at hl 5 rfl) ?_
          refine lv_iload hx hb dX8_count_140 (lv_at hl 0 rfl) ?_
          obtain ⟨ht_, hf_⟩ := h
          refine lv_if_eq (tgt := 149) hx hb dX8_count_142 (by decide) (fun c_10 => ?_) (fun c_10 => ?_)
          · have h := ht_ c_10
            refine lv_iconst (v := (0 : Int32)) hx hb dX8_count_149 (by decide) ?_
            refine lv_iadd hx hb dX8_count_150 ?_
            refine lv_istore (lv' := [(4, .int (v4_6 + (0 : Int32))), (6, .int (x1_9 &&& x0_8)), (0, .ref h0), (1, .int v1), (2, .int v2), (3, .int v3), (5, .int v5_7)]) hx hb dX8_count_151 hl (by decide) rfl (fun ls hl => ?_)
            refine lv_iinc (v := (v5_7 + (1 : Int32))) (lv' := [(5, .int (v5_7 + (1 : Int32))), (4, .int (v4_6 + (0 : Int32))), (6, .int (x1_9 &&& x0_8)), (0, .ref h0), (1, .int v1), (2, .int v2), (3, .int v3)]) hx hb dX8_count_153 hl (k := 6) rfl rfl (by decide) rfl (fun ls hl => ?_)
            refine lv_goto (tgt := 25) hx hb dX8_count_156 (by decide) ?_
            have hl : lv_has ls 7 [(0, .ref h0), (1, .int v1), (2, .int v2), (3, .int v3), (4, .int (v4_6 + (0 : Int32))), (5, .int (v5_7 + (1 : Int32)))] := lv_sub hl [3, 4, 5, 6, 1, 0] rfl
            obtain ⟨k_11, hk_12, h⟩ := h
            exact ih_3 k_11 hk_12 (v4_6 + (0 : Int32)) (v5_7 + (1 : Int32)) h _ _ hP hD hS _ hl
          · have h := hf_ c_10
            refine lv_iconst (v := (1 : Int32)) hx hb dX8_count_145 (by decide) ?_
            refine lv_goto (tgt := 150) hx hb dX8_count_146 (by decide) ?_
            refine lv_iadd hx hb dX8_count_150 ?_
            refine lv_istore (lv' := [(4, .int (v4_6 + (1 : Int32))), (6, .int (x1_9 &&& x0_8)), (0, .ref h0), (1, .int v1), (2, .int v2), (3, .int v3), (5, .int v5_7)]) hx hb dX8_count_151 hl (by decide) rfl (fun ls hl => ?_)
            refine lv_iinc (v := (v5_7 + (1 : Int32))) (lv' := [(5, .int (v5_7 + (1 : Int32))), (4, .int (v4_6 + (1 : Int32))), (6, .int (x1_9 &&& x0_8)), (0, .ref h0), (1, .int v1), (2, .int v2), (3, .int v3)]) hx hb dX8_count_153 hl (k := 6) rfl rfl (by decide) rfl (fun ls hl => ?_)
            refine lv_goto (tgt := 25) hx hb dX8_count_156 (by decide) ?_
            have hl : lv_has ls 7 [(0, .ref h0), (1, .int v1), (2, .int v2), (3, .int v3), (4, .int (v4_6 + (1 : Int32))), (5, .int (v5_7 + (1 : Int32)))] := lv_sub hl [3, 4, 5, 6, 1, 0] rfl
            obtain ⟨k_13, hk_14, h⟩ := h
            exact ih_3 k_13 hk_14 (v4_6 + (1 : Int32)) (v5_7 + (1 : Int32)) h _ _ hP hD hS _ hl
        have lab_130 : ∀ (v4_15 : Int32) (v5_16 : Int32) (x0_17 : Int32) (h : P_X8_count_j130 (s0_1_terms, s0_1_number, s0_1_term, s0_1_triples, s0_1_store, s0_1_patterns, s0_1_query, s0_1_bound, s0_1_found, s0_1_work, s0_1_kept, s0_1_keptVariables, s0_1_answers, x0_2) v1 v2 v3 v4_15 v5_16 x0_17 (fun w => ∃ k, k < n_3 ∧ I_3 k w) post) (H : Heap) (locs : List Loc) (hP : va_P (dC, dI) vwCl [(h0, .inr (8, [.int s0_1_terms, .ref h0_1, .ref h0_2, .int s0_1_triples, .ref h0_3, .int s0_1_patterns, .ref h0_4, .ref h0_5, .int s0_1_found, .ref h0_6, .int s0_1_kept, .int s0_1_keptVariables, .ref h0_7, .int x0_2])), (h0_1, .inl (cI, 100, .inl s0_1_number)), (h0_2, .inl (cI, 40, .inl s0_1_term)), (h0_3, .inl (cI, 180, .inl s0_1_store)), (h0_4, .inl (cI, 9, .inl s0_1_query)), (h0_5, .inl (cI, 16, .inl s0_1_bound)), (h0_6, .inl (cI, 2000, .inl s0_1_work)), (h0_7, .inl (cI, 2000, .inl s0_1_answers))] H) (hD : va_D A [(h0, .inr (8, [.int s0_1_terms, .ref h0_1, .ref h0_2, .int s0_1_triples, .ref h0_3, .int s0_1_patterns, .ref h0_4, .ref h0_5, .int s0_1_found, .ref h0_6, .int s0_1_kept, .int s0_1_keptVariables, .ref h0_7, .int x0_2])), (h0_1, .inl (cI, 100, .inl s0_1_number)), (h0_2, .inl (cI, 40, .inl s0_1_term)), (h0_3, .inl (cI, 180, .inl s0_1_store)), (h0_4, .inl (cI, 9, .inl s0_1_query)), (h0_5, .inl (cI, 16, .inl s0_1_bound)), (h0_6, .inl (cI, 2000, .inl s0_1_work)), (h0_7, .inl (cI, 2000, .inl s0_1_answers))]) (hS : va_S A s.heap H locs) (ls : Array Slot) (hl : lv_has ls 7 [(0, .ref h0), (1, .int v1), (2, .int v2), (3, .int v3), (4, .int v4_15), (5, .int v5_16)]), W p l e rm_X8_count s m ([.ref h0, .int v1, .int v2, .int v3] : List Value).toArray below meth c H locs 0 0 (MQ below (Q_X8_count dC dI cI h0 h0_1 h0_2 h0_3 h0_4 h0_5 h0_6 h0_7 (s0_terms, s0_number, s0_term, s0_triples, s0_store, s0_patterns, s0_query, s0_bound, s0_found, s0_work, s0_kept, s0_keptVariables, s0_answers, s0_thrown) A post) (([.ref h0, .int v1, .int v2, .int v3] : List Value).toArray) s 0 0 A) (F0 m 130 ls [.int x0_17]) := by
          intro v4_15 v5_16 x0_17 h H locs hP hD hS ls hl
          refine lv_iconst (v := (1 : Int32)) hx hb dX8_count_130 (by decide) ?_
          refine lv_goto (tgt := 135) hx hb dX8_count_131 (by decide) ?_
          exact lab_135 v4_15 v5_16 (1 : Int32) x0_17 h _ _ hP hD hS _ hl
        have lab_101 : ∀ (v4_18 : Int32) (v5_19 : Int32) (x0_20 : Int32) (x1_21 : Int32) (h : P_X8_count_j101 (s0_1_terms, s0_1_number, s0_1_term, s0_1_triples, s0_1_store, s0_1_patterns, s0_1_query, s0_1_bound, s0_1_found, s0_1_work, s0_1_kept, s0_1_keptVariables, s0_1_answers, x0_2) v1 v2 v3 v4_18 v5_19 x0_20 x1_21 (fun w => ∃ k, k < n_3 ∧ I_3 k w) post) (H : Heap) (locs : List Loc) (hP : va_P (dC, dI) vwCl [(h0, .inr (8, [.int s0_1_terms, .ref h0_1, .ref h0_2, .int s0_1_triples, .ref h0_3, .int s0_1_patterns, .ref h0_4, .ref h0_5, .int s0_1_found, .ref h0_6, .int s0_1_kept, .int s0_1_keptVariables, .ref h0_7, .int x0_2])), (h0_1, .inl (cI, 100, .inl s0_1_number)), (h0_2, .inl (cI, 40, .inl s0_1_term)), (h0_3, .inl (cI, 180, .inl s0_1_store)), (h0_4, .inl (cI, 9, .inl s0_1_query)), (h0_5, .inl (cI, 16, .inl s0_1_bound)), (h0_6, .inl (cI, 2000, .inl s0_1_work)), (h0_7, .inl (cI, 2000, .inl s0_1_answers))] H) (hD : va_D A [(h0, .inr (8, [.int s0_1_terms, .ref h0_1, .ref h0_2, .int s0_1_triples, .ref h0_3, .int s0_1_patterns, .ref h0_4, .ref h0_5, .int s0_1_found, .ref h0_6, .int s0_1_kept, .int s0_1_keptVariables, .ref h0_7, .int x0_2])), (h0_1, .inl (cI, 100, .inl s0_1_number)), (h0_2, .inl (cI, 40, .inl s0_1_term)), (h0_3, .inl (cI, 180, .inl s0_1_store)), (h0_4, .inl (cI, 9, .inl s0_1_query)), (h0_5, .inl (cI, 16, .inl s0_1_bound)), (h0_6, .inl (cI, 2000, .inl s0_1_work)), (h0_7, .inl (cI, 2000, .inl s0_1_answers))]) (hS : va_S A s.heap H locs) (ls : Array Slot) (hl : lv_has ls 7 [(0, .ref h0), (1, .int v1), (2, .int v2), (3, .int v3), (4, .int v4_18), (5, .int v5_19)]), W p l e rm_X8_count s m ([.ref h0, .int v1, .int v2, .int v3] : List Value).toArray below meth c H locs 0 0 (MQ below (Q_X8_count dC dI cI h0 h0_1 h0_2 h0_3 h0_4 h0_5 h0_6 h0_7 (s0_terms, s0_number, s0_term, s0_triples, s0_store, s0_patterns, s0_query, s0_bound, s0_found, s0_work, s0_kept, s0_keptVariables, s0_answers, s0_thrown) A post) (([.ref h0, .int v1, .int v2, .int v3] : List Value).toArray) s 0 0 A) (F0 m 101 ls [.int x0_20, .int x1_21]) := by
          intro v4_18 v5_19 x0_20 x1_21 h H locs hP hD hS ls hl
          refine lv_iand hx hb dX8_count_101 ?_
          refine lv_istore (lv' := [(6, .int (x1_21 &&& x0_20)), (0, .ref h0), (1, .int v1), (2, .int v2), (3, .int v3), (4, .int v4_18), (5, .int v5_19)]) hx hb dX8_count_102 hl (by decide) rfl (fun ls hl => ?_)
          refine lv_iload hx hb dX8_count_104 (lv_at hl 0 rfl) ?_
          refine lv_iload_n hx hb dX8_count_106 rfl (lv_at hl 4 rfl) ?_
          obtain ⟨ht_, hf_⟩ := h
          refine lv_if_lt (tgt := 130) hx hb dX8_count_107 (by decide) (fun c_22 => ?_) (fun c_22 => ?_)
          · have h := ht_ c_22
            have hl : lv_has ls 7 [(0, .ref h0), (1, .int v1), (2, .int v2), (3, .int v3), (4, .int v4_18), (5, .int v5_19)] := lv_sub hl [1, 2, 3, 4, 5, 6] rfl
            exact lab_130 v4_18 v5_19 (x1_21 &&& x0_20) h _ _ hP hD hS _ hl
          · have h := hf_ c_22
            refine lv_aload_n hx hb dX8_count_110 rfl (lv_at hl 1 rfl) ?_
            refine va_get (D := (dC, dI)) (ci := 8) (v := .ref h0_2) (C := RX8) (T := TX8) (N := 14) hx hb hts (hinX8) hown hK hP 0 rfl rfl 2 (by decide) (hts (.fieldLink RX8 13 "TripleJoinsModel" "term" "[I") (by decide +kernel)) (fun _ h9 => h9) rfl dX8_count_111 ?_
            refine lv_aload_n hx hb dX8_count_114 rfl (lv_at hl 1 rfl) ?_
            refine va_get (D := (dC, dI)) (ci := 8) (v := .ref h0_3) (C := RX8) (T := TX8) (N := 14) hx hb hts (hinX8) hown hK hP 0 rfl rfl 4 (by decide) (hts (.fieldLink RX8 16 "TripleJoinsModel" "store" "[I") (by decide +kernel)) (fun _ h9 => h9) rfl dX8_count_115 ?_
            refine lv_iconst (v := (3 : Int32)) hx hb dX8_count_118 (by decide) ?_
            refine lv_iload hx hb dX8_count_119 (lv_at hl 6 rfl) ?_
            refine lv_imul hx hb dX8_count_121 ?_
            refine lv_iconst (v := (2 : Int32)) hx hb dX8_count_122 (by decide) ?_
            refine lv_iadd hx hb dX8_count_123 ?_
            obtain ⟨hin, h⟩ := h
            refine va_iald (n := 180) hx hb hK hP 3 0 rfl rfl hin dX8_count_124 ?_
            obtain ⟨hin, h⟩ := h
            refine va_iald (n := 40) hx hb hK hP 2 0 rfl rfl hin dX8_count_125 ?_
            refine lv_iload_n hx hb dX8_count_126 rfl (lv_at hl 4 rfl) ?_
            obtain ⟨ht_, hf_⟩ := h
            refine lv_icmp_ne (tgt := 134) hx hb dX8_count_127 (by decide) (fun c_23 => ?_) (fun c_23 => ?_)
            · have h := ht_ c_23
              refine lv_iconst (v := (0 : Int32)) hx hb dX8_count_134 (by decide) ?_
              have hl : lv_has ls 7 [(0, .ref h0), (1, .int v1), (2, .int v2), (3, .int v3), (4, .int v4_18), (5, .int v5_19)] := lv_sub hl [1, 2, 3, 4, 5, 6] rfl
              exact lab_135 v4_18 v5_19 (0 : Int32) (x1_21 &&& x0_20) h _ _ hP hD hS _ hl
            · have h := hf_ c_23
              have hl : lv_has ls 7 [(0, .ref h0), (1, .int v1), (2, .int v2), (3, .int v3), (4, .int v4_18), (5, .int v5_19)] := lv_sub hl [1, 2, 3, 4, 5, 6] rfl
              exact lab_130 v4_18 v5_19 (x1_21 &&& x0_20) h _ _ hP hD hS _ hl
        have lab_96 : ∀ (v4_24 : Int32) (v5_25 : Int32) (x0_26 : Int32) (h : P_X8_count_j96 (s0_1_terms, s0_1_number, s0_1_term, s0_1_triples, s0_1_store, s0_1_patterns, s0_1_query, s0_1_bound, s0_1_found, s0_1_work, s0_1_kept, s0_1_keptVariables, s0_1_answers, x0_2) v1 v2 v3 v4_24 v5_25 x0_26 (fun w => ∃ k, k < n_3 ∧ I_3 k w) post) (H : Heap) (locs : List Loc) (hP : va_P (dC, dI) vwCl [(h0, .inr (8, [.int s0_1_terms, .ref h0_1, .ref h0_2, .int s0_1_triples, .ref h0_3, .int s0_1_patterns, .ref h0_4, .ref h0_5, .int s0_1_found, .ref h0_6, .int s0_1_kept, .int s0_1_keptVariables, .ref h0_7, .int x0_2])), (h0_1, .inl (cI, 100, .inl s0_1_number)), (h0_2, .inl (cI, 40, .inl s0_1_term)), (h0_3, .inl (cI, 180, .inl s0_1_store)), (h0_4, .inl (cI, 9, .inl s0_1_query)), (h0_5, .inl (cI, 16, .inl s0_1_bound)), (h0_6, .inl (cI, 2000, .inl s0_1_work)), (h0_7, .inl (cI, 2000, .inl s0_1_answers))] H) (hD : va_D A [(h0, .inr (8, [.int s0_1_terms, .ref h0_1, .ref h0_2, .int s0_1_triples, .ref h0_3, .int s0_1_patterns, .ref h0_4, .ref h0_5, .int s0_1_found, .ref h0_6, .int s0_1_kept, .int s0_1_keptVariables, .ref h0_7, .int x0_2])), (h0_1, .inl (cI, 100, .inl s0_1_number)), (h0_2, .inl (cI, 40, .inl s0_1_term)), (h0_3, .inl (cI, 180, .inl s0_1_store)), (h0_4, .inl (cI, 9, .inl s0_1_query)), (h0_5, .inl (cI, 16, .inl s0_1_bound)), (h0_6, .inl (cI, 2000, .inl s0_1_work)), (h0_7, .inl (cI, 2000, .inl s0_1_answers))]) (hS : va_S A s.heap H locs) (ls : Array Slot) (hl : lv_has ls 7 [(0, .ref h0), (1, .int v1), (2, .int v2), (3, .int v3), (4, .int v4_24), (5, .int v5_25)]), W p l e rm_X8_count s m ([.ref h0, .int v1, .int v2, .int v3] : List Value).toArray below meth c H locs 0 0 (MQ below (Q_X8_count dC dI cI h0 h0_1 h0_2 h0_3 h0_4 h0_5 h0_6 h0_7 (s0_terms, s0_number, s0_term, s0_triples, s0_store, s0_patterns, s0_query, s0_bound, s0_found, s0_work, s0_kept, s0_keptVariables, s0_answers, s0_thrown) A post) (([.ref h0, .int v1, .int v2, .int v3] : List Value).toArray) s 0 0 A) (F0 m 96 ls [.int x0_26]) := by
          intro v4_24 v5_25 x0_26 h H locs hP hD hS ls hl
          refine lv_iconst (v := (1 : Int32)) hx hb dX8_count_96 (by decide) ?_
          refine lv_goto (tgt := 101) hx hb dX8_count_97 (by decide) ?_
          exact lab_101 v4_24 v5_25 (1 : Int32) x0_26 h _ _ hP hD hS _ hl
        have lab_68 : ∀ (v4_27 : Int32) (v5_28 : Int32) (x0_29 : Int32) (h : P_X8_count_j68 (s0_1_terms, s0_1_number, s0_1_term, s0_1_triples, s0_1_store, s0_1_patterns, s0_1_query, s0_1_bound, s0_1_found, s0_1_work, s0_1_kept, s0_1_keptVariables, s0_1_answers, x0_2) v1 v2 v3 v4_27 v5_28 x0_29 (fun w => ∃ k, k < n_3 ∧ I_3 k w) post) (H : Heap) (locs : List Loc) (hP : va_P (dC, dI) vwCl [(h0, .inr (8, [.int s0_1_terms, .ref h0_1, .ref h0_2, .int s0_1_triples, .ref h0_3, .int s0_1_patterns, .ref h0_4, .ref h0_5, .int s0_1_found, .ref h0_6, .int s0_1_kept, .int s0_1_keptVariables, .ref h0_7, .int x0_2])), (h0_1, .inl (cI, 100, .inl s0_1_number)), (h0_2, .inl (cI, 40, .inl s0_1_term)), (h0_3, .inl (cI, 180, .inl s0_1_store)), (h0_4, .inl (cI, 9, .inl s0_1_query)), (h0_5, .inl (cI, 16, .inl s0_1_bound)), (h0_6, .inl (cI, 2000, .inl s0_1_work)), (h0_7, .inl (cI, 2000, .inl s0_1_answers))] H) (hD : va_D A [(h0, .inr (8, [.int s0_1_terms, .ref h0_1, .ref h0_2, .int s0_1_triples, .ref h0_3, .int s0_1_patterns, .ref h0_4, .ref h0_5, .int s0_1_found, .ref h0_6, .int s0_1_kept, .int s0_1_keptVariables, .ref h0_7, .int x0_2])), (h0_1, .inl (cI, 100, .inl s0_1_number)), (h0_2, .inl (cI, 40, .inl s0_1_term)), (h0_3, .inl (cI, 180, .inl s0_1_store)), (h0_4, .inl (cI, 9, .inl s0_1_query)), (h0_5, .inl (cI, 16, .inl s0_1_bound)), (h0_6, .inl (cI, 2000, .inl s0_1_work)), (h0_7, .inl (cI, 2000, .inl s0_1_answers))]) (hS : va_S A s.heap H locs) (ls : Array Slot) (hl : lv_has ls 7 [(0, .ref h0), (1, .int v1), (2, .int v2), (3, .int v3), (4, .int v4_27), (5, .int v5_28)]), W p l e rm_X8_count s m ([.ref h0, .int v1, .int v2, .int v3] : List Value).toArray below meth c H locs 0 0 (MQ below (Q_X8_count dC dI cI h0 h0_1 h0_2 h0_3 h0_4 h0_5 h0_6 h0_7 (s0_terms, s0_number, s0_term, s0_triples, s0_store, s0_patterns, s0_query, s0_bound, s0_found, s0_work, s0_kept, s0_keptVariables, s0_answers, s0_thrown) A post) (([.ref h0, .int v1, .int v2, .int v3] : List Value).toArray) s 0 0 A) (F0 m 68 ls [.int x0_29]) := by
          intro v4_27 v5_28 x0_29 h H locs hP hD hS ls hl
          refine lv_istore (lv' := [(6, .int x0_29), (0, .ref h0), (1, .int v1), (2, .int v2), (3, .int v3), (4, .int v4_27), (5, .int v5_28)]) hx hb dX8_count_68 hl (by decide) rfl (fun ls hl => ?_)
          refine lv_iload hx hb dX8_count_70 (lv_at hl 0 rfl) ?_
          refine lv_iload_n hx hb dX8_count_72 rfl (lv_at hl 3 rfl) ?_
          obtain ⟨ht_, hf_⟩ := h
          refine lv_if_lt (tgt := 96) hx hb dX8_count_73 (by decide) (fun c_30 => ?_) (fun c_30 => ?_)
          · have h := ht_ c_30
            have hl : lv_has ls 7 [(0, .ref h0), (1, .int v1), (2, .int v2), (3, .int v3), (4, .int v4_27), (5, .int v5_28)] := lv_sub hl [1, 2, 3, 4, 5, 6] rfl
            exact lab_96 v4_27 v5_28 x0_29 h _ _ hP hD hS _ hl
          · have h := hf_ c_30
            refine lv_aload_n hx hb dX8_count_76 rfl (lv_at hl 1 rfl) ?_
            refine va_get (D := (dC, dI)) (ci := 8) (v := .ref h0_2) (C := RX8) (T := TX8) (N := 14) hx hb hts (hinX8) hown hK hP 0 rfl rfl 2 (by decide) (hts (.fieldLink RX8 13 "TripleJoinsModel" "term" "[I") (by decide +kernel)) (fun _ h9 => h9) rfl dX8_count_77 ?_
            refine lv_aload_n hx hb dX8_count_80 rfl (lv_at hl 1 rfl) ?_
            refine va_get (D := (dC, dI)) (ci := 8) (v := .ref h0_3) (C := RX8) (T := TX8) (N := 14) hx hb hts (hinX8) hown hK hP 0 rfl rfl 4 (by decide) (hts (.fieldLink RX8 16 "TripleJoinsModel" "store" "[I") (by decide +kernel)) (fun _ h9 => h9) rfl dX8_count_81 ?_
            refine lv_iconst (v := (3 : Int32)) hx hb dX8_count_84 (by decide) ?_
            refine lv_iload hx hb dX8_count_85 (lv_at hl 6 rfl) ?_
            refine lv_imul hx hb dX8_count_87 ?_
            refine lv_iconst (v := (1 : Int32)) hx hb dX8_count_88 (by decide) ?_
            refine lv_iadd hx hb dX8_count_89 ?_
            obtain ⟨hin, h⟩ := h
            refine va_iald (n := 180) hx hb hK hP 3 0 rfl rfl hin dX8_count_90 ?_
            obtain ⟨hin, h⟩ := h
            refine va_iald (n := 40) hx hb hK hP 2 0 rfl rfl hin dX8_count_91 ?_
            refine lv_iload_n hx hb dX8_count_92 rfl (lv_at hl 3 rfl) ?_
            obtain ⟨ht_, hf_⟩ := h
            refine lv_icmp_ne (tgt := 100) hx hb dX8_count_93 (by decide) (fun c_31 => ?_) (fun c_31 => ?_)
            · have h := ht_ c_31
              refine lv_iconst (v := (0 : Int32)) hx hb dX8_count_100 (by decide) ?_
              have hl : lv_has ls 7 [(0, .ref h0), (1, .int v1), (2, .int v2), (3, .int v3), (4, .int v4_27), (5, .int v5_28)] := lv_sub hl [1, 2, 3, 4, 5, 6] rfl
              exact lab_101 v4_27 v5_28 (0 : Int32) x0_29 h _ _ hP hD hS _ hl
            · have h := hf_ c_31
              have hl : lv_has ls 7 [(0, .ref h0), (1, .int v1), (2, .int v2), (3, .int v3), (4, .int v4_27), (5, .int v5_28)] := lv_sub hl [1, 2, 3, 4, 5, 6] rfl
              exact lab_96 v4_27 v5_28 x0_29 h _ _ hP hD hS _ hl
        have lab_63 : ∀ (v4_32 : Int32) (v5_33 : Int32) (h : P_X8_count_j63 (s0_1_terms, s0_1_number, s0_1_term, s0_1_triples, s0_1_store, s0_1_patterns, s0_1_query, s0_1_bound, s0_1_found, s0_1_work, s0_1_kept, s0_1_keptVariables, s0_1_answers, x0_2) v1 v2 v3 v4_32 v5_33 (fun w => ∃ k, k < n_3 ∧ I_3 k w) post) (H : Heap) (locs : List Loc) (hP : va_P (dC, dI) vwCl [(h0, .inr (8, [.int s0_1_terms, .ref h0_1, .ref h0_2, .int s0_1_triples, .ref h0_3, .int s0_1_patterns, .ref h0_4, .ref h0_5, .int s0_1_found, .ref h0_6, .int s0_1_kept, .int s0_1_keptVariables, .ref h0_7, .int x0_2])), (h0_1, .inl (cI, 100, .inl s0_1_number)), (h0_2, .inl (cI, 40, .inl s0_1_term)), (h0_3, .inl (cI, 180, .inl s0_1_store)), (h0_4, .inl (cI, 9, .inl s0_1_query)), (h0_5, .inl (cI, 16, .inl s0_1_bound)), (h0_6, .inl (cI, 2000, .inl s0_1_work)), (h0_7, .inl (cI, 2000, .inl s0_1_answers))] H) (hD : va_D A [(h0, .inr (8, [.int s0_1_terms, .ref h0_1, .ref h0_2, .int s0_1_triples, .ref h0_3, .int s0_1_patterns, .ref h0_4, .ref h0_5, .int s0_1_found, .ref h0_6, .int s0_1_kept, .int s0_1_keptVariables, .ref h0_7, .int x0_2])), (h0_1, .inl (cI, 100, .inl s0_1_number)), (h0_2, .inl (cI, 40, .inl s0_1_term)), (h0_3, .inl (cI, 180, .inl s0_1_store)), (h0_4, .inl (cI, 9, .inl s0_1_query)), (h0_5, .inl (cI, 16, .inl s0_1_bound)), (h0_6, .inl (cI, 2000, .inl s0_1_work)), (h0_7, .inl (cI, 2000, .inl s0_1_answers))]) (hS : va_S A s.heap H locs) (ls : Array Slot) (hl : lv_has ls 7 [(0, .ref h0), (1, .int v1), (2, .int v2), (3, .int v3), (4, .int v4_32), (5, .int v5_33)]), W p l e rm_X8_count s m ([.ref h0, .int v1, .int v2, .int v3] : List Value).toArray below meth c H locs 0 0 (MQ below (Q_X8_count dC dI cI h0 h0_1 h0_2 h0_3 h0_4 h0_5 h0_6 h0_7 (s0_terms, s0_number, s0_term, s0_triples, s0_store, s0_patterns, s0_query, s0_bound, s0_found, s0_work, s0_kept, s0_keptVariables, s0_answers, s0_thrown) A post) (([.ref h0, .int v1, .int v2, .int v3] : List Value).toArray) s 0 0 A) (F0 m 63 ls []) := by
          intro v4_32 v5_33 h H locs hP hD hS ls hl
          refine lv_iconst (v := (1 : Int32)) hx hb dX8_count_63 (by decide) ?_
          refine lv_goto (tgt := 68) hx hb dX8_count_64 (by decide) ?_
          exact lab_68 v4_32 v5_33 (1 : Int32) h _ _ hP hD hS _ hl
        refine lv_iload hx hb dX8_count_25 (lv_at hl 5 rfl) ?_
        refine lv_aload_n hx hb dX8_count_27 rfl (lv_at hl 0 rfl) ?_
        refine va_get (D := (dC, dI)) (ci := 8) (v := .int s0_1_triples) (C := RX8) (T := TX8) (N := 14) hx hb hts (hinX8) hown hK hP 0 rfl rfl 3 (by decide) (hts (.fieldLink RX8 39 "TripleJoinsModel" "triples" "I") (by decide +kernel)) (fun _ h9 => h9) rfl dX8_count_28 ?_
        obtain ⟨ht_, hf_⟩ := h
        refine lv_icmp_ge (tgt := 159) hx hb dX8_count_31 (by decide) (fun c_34 => ?_) (fun c_34 => ?_)
        · have h := ht_ c_34
          refine lv_iload hx hb dX8_count_159 (lv_at hl 4 rfl) ?_
          exact W.iret (v := v4_4) hx hb hr (fun t ht hW => ⟨⟨v4_4, (s0_1_terms, s0_1_number, s0_1_term, s0_1_triples, s0_1_store, s0_1_patterns, s0_1_query, s0_1_bound, s0_1_found, s0_1_work, s0_1_kept, s0_1_keptVariables, s0_1_answers, x0_2), rfl, h, ⟨by rw [ht]; exact hP, hD⟩⟩, hS.F ht⟩) hS.2.2 dX8_count_161
        · have h := hf_ c_34
          refine lv_aload_n hx hb dX8_count_34 rfl (lv_at hl 0 rfl) ?_
          refine va_get (D := (dC, dI)) (ci := 8) (v := .int x0_2) (C := RX8) (T := TX8) (N := 14) hx hb hts (hinX8) hown hK hP 0 rfl rfl 13 (by decide) (hts (.fieldLink RX8 31 "TripleJoinsModel" "thrown" "I") (by decide +kernel)) (fun _ h9 => h9) rfl dX8_count_35 ?_
          obtain ⟨ht_, hf_⟩ := h
          refine lv_if_ne (tgt := 159) hx hb dX8_count_38 (by decide) (fun c_35 => ?_) (fun c_35 => ?_)
          · have h := ht_ c_35
            refine lv_iload hx hb dX8_count_159 (lv_at hl 4 rfl) ?_
            exact W.iret (v := v4_4) hx hb hr (fun t ht hW => ⟨⟨v4_4, (s0_1_terms, s0_1_number, s0_1_term, s0_1_triples, s0_1_store, s0_1_patterns, s0_1_query, s0_1_bound, s0_1_found, s0_1_work, s0_1_kept, s0_1_keptVariables, s0_1_answers, x0_2), rfl, h, ⟨by rw [ht]; exact hP, hD⟩⟩, hS.F ht⟩) hS.2.2 dX8_count_161
          · have h := hf_ c_35
            refine lv_iload_n hx hb dX8_count_41 rfl (lv_at hl 1 rfl) ?_
            obtain ⟨ht_, hf_⟩ := h
            refine lv_if_lt (tgt := 63) hx hb dX8_count_42 (by decide) (fun c_36 => ?_) (fun c_36 => ?_)
            · have h := ht_ c_36
              exact lab_63 v4_4 v5_5 h _ _ hP hD hS _ hl
            · have h := hf_ c_36
              refine lv_aload_n hx hb dX8_count_45 rfl (lv_at hl 0 rfl) ?_
              refine va_get (D := (dC, dI)) (ci := 8) (v := .ref h0_2) (C := RX8) (T := TX8) (N := 14) hx hb hts (hinX8) hown hK hP 0 rfl rfl 2 (by decide) (hts (.fieldLink RX8 13 "TripleJoinsModel" "term" "[I") (by decide +kernel)) (fun _ h9 => h9) rfl dX8_count_46 ?_
              refine lv_aload_n hx hb dX8_count_49 rfl (lv_at hl 0 rfl) ?_
              refine va_get (D := (dC, dI)) (ci := 8) (v := .ref h0_3) (C := RX8) (T := TX8) (N := 14) hx hb hts (hinX8) hown hK hP 0 rfl rfl 4 (by decide) (hts (.fieldLink RX8 16 "TripleJoinsModel" "store" "[I") (by decide +kernel)) (fun _ h9 => h9) rfl dX8_count_50 ?_
              refine lv_iconst (v := (3 : Int32)) hx hb dX8_count_53 (by decide) ?_
              refine lv_iload hx hb dX8_count_54 (lv_at hl 5 rfl) ?_
              refine lv_imul hx hb dX8_count_56 ?_
              obtain ⟨hin, h⟩ := h
              refine va_iald (n := 180) hx hb hK hP 3 0 rfl rfl hin dX8_count_57 ?_
              obtain ⟨hin, h⟩ := h
              refine va_iald (n := 40) hx hb hK hP 2 0 rfl rfl hin dX8_count_58 ?_
              refine lv_iload_n hx hb dX8_count_59 rfl (lv_at hl 1 rfl) ?_
              obtain ⟨ht_, hf_⟩ := h
              refine lv_icmp_ne (tgt := 67) hx hb dX8_count_60 (by decide) (fun c_37 => ?_) (fun c_37 => ?_)
              · have h := ht_ c_37
                refine lv_iconst (v := (0 : Int32)) hx hb dX8_count_67 (by decide) ?_
                exact lab_68 v4_4 v5_5 (0 : Int32) h _ _ hP hD hS _ hl
              · have h := hf_ c_37
                exact lab_63 v4_4 v5_5 h _ _ hP hD hS _ hl
    exact loop_3 n_3 (0 : Int32) (0 : Int32) h _ _ hP hD hS _ hl
  refine lv_aload_n hx hb dX8_count_0 rfl (lv_at hl 0 rfl) ?_
  refine lv_iload_n hx hb dX8_count_1 rfl (lv_at hl 1 rfl) ?_
  refine lv_iload_n hx hb dX8_count_2 rfl (lv_at hl 2 rfl) ?_
  refine lv_iload_n hx hb dX8_count_3 rfl (lv_at hl 3 rfl) ?_
  refine lv_iconst (v := (-1 : Int32)) hx hb dX8_count_4 (by decide) ?_
  have hPc := hP.sub (ws' := []) [] rfl
  have hDc := hD.sub (ws' := []) [] (by decide) rfl
  have hFc := fr0 hA hS
  refine va_calli (va_runS (As := [.int v1, .int v2, .int v3, .int (-1 : Int32)]) (rest := [.ref h0]) ⟨hx, hb, hml, hown, hts⟩ (c_X8_areTerms l dC dI cI  _ v1 v2 v3 (-1 : Int32) _ h) (va_cwS 4 hts gX8_count_X8_areTerms rfl rfl rfl (by decide +kernel) ⟨Nat.le_of_ble_eq_true rfl, Nat.le_of_ble_eq_true rfl⟩) (pb_S hPc hK hDc hN) rfl rfl hl.1 rfl (lv_room (Nat.le_of_ble_eq_true rfl)) dX8_count_5 ⟨Nat.zero_le _, Nat.zero_le _⟩) hS (fun q _ h => hFc q h) hFc (fun r_39 u_38 t H locs ht hvm h hB hz1 hk1 hS => ?_)
  have hP := vaPk hP hk1
  obtain ⟨ht_, hf_⟩ := h
  refine lv_if_eq (tgt := 15) hx hb dX8_count_8 (by decide) (fun c_40 => ?_) (fun c_40 => ?_)
  · have h := ht_ c_40
    refine lv_iconst (v := (1 : Int32)) hx hb dX8_count_15 (by decide) ?_
    exact lab_16 s0_terms s0_number s0_term s0_triples s0_store s0_patterns s0_query s0_bound s0_found s0_work s0_kept s0_keptVariables s0_answers s0_thrown (1 : Int32) h _ _ hP hD hS _ hl
  · have h := hf_ c_40
    refine lv_iconst (v := (0 : Int32)) hx hb dX8_count_11 (by decide) ?_
    refine lv_goto (tgt := 16) hx hb dX8_count_12 (by decide) ?_
    exact lab_16 s0_terms s0_number s0_term s0_triples s0_store s0_patterns s0_query s0_bound s0_found s0_work s0_kept s0_keptVariables s0_answers s0_thrown (0 : Int32) h _ _ hP hD hS _ hl
abbrev Q_X8_orderFor (dC : Nat → ClassId) (dI : Nat → Nat → Nat) (cI : ClassId) (h0 h0_1 h0_2 h0_3 h0_4 h0_5 h0_6 h0_7 : Nat) (s0 : ModS) (A : Nat → Prop) (post : Int32 → ModS → Prop) : Array Value → State → Outcome → State → Prop := va_Qi post (fun (u : ModS) (t : State) => va_P (dC, dI) vwCl [(h0, .inr (8, [.int u.terms, .ref h0_1, .ref h0_2, .int u.triples, .ref h0_3, .int u.patterns, .ref h0_4, .ref h0_5, .int u.found, .ref h0_6, .int u.kept, .int u.keptVariables, .ref h0_7, .int u.thrown])), (h0_1, .inl (cI, 100, .inl u.number)), (h0_2, .inl (cI, 40, .inl u.term)), (h0_3, .inl (cI, 180, .inl u.store)), (h0_4, .inl (cI, 9, .inl u.query)), (h0_5, .inl (cI, 16, .inl u.bound)), (h0_6, .inl (cI, 2000, .inl u.work)), (h0_7, .inl (cI, 2000, .inl u.answers))] t.heap ∧ va_D A [(h0, .inr (8, [.int u.terms, .ref h0_1, .ref h0_2, .int u.triples, .ref h0_3, .int u.patterns, .ref h0_4, .ref h0_5, .int u.found, .ref h0_6, .int u.kept, .int u.keptVariables, .ref h0_7, .int u.thrown])), (h0_1, .inl (cI, 100, .inl u.number)), (h0_2, .inl (cI, 40, .inl u.term)), (h0_3, .inl (cI, 180, .inl u.store)), (h0_4, .inl (cI, 9, .inl u.query)), (h0_5, .inl (cI, 16, .inl u.bound)), (h0_6, .inl (cI, 2000, .inl u.work)), (h0_7, .inl (cI, 2000, .inl u.answers))]) A
abbrev rm_X8_orderFor : Room := { frames := 0, cells := 0, slots := 0, locals := 0 }
set_option maxHeartbeats 4000000 in
set_option maxRecDepth 100000 in
theorem c_X8_orderFor (l : Launch) (dC : Nat → ClassId) (dI : Nat → Nat → Nat) (cI : ClassId) (h0 h0_1 h0_2 h0_3 h0_4 h0_5 h0_6 h0_7 : Nat) (sz : Nat) (s0 : ModS) (v1 : Int32) (v2 : Int32) (v3 : Int32) (post : Int32 → ModS → Prop) (h : P_X8_orderFor s0 v1 v2 v3 post) : Met l yX8_orderFor wsX8_orderFor rm_X8_orderFor (va_Pc [.ref h0, .int v1, .int v2, .int v3] (cpre (dC, dI) [(cI, .int)] [(h0, .inr (8, [.int s0.terms, .ref h0_1, .ref h0_2, .int s0.triples, .ref h0_3, .int s0.patterns, .ref h0_4, .ref h0_5, .int s0.found, .ref h0_6, .int s0.kept, .int s0.keptVariables, .ref h0_7, .int s0.thrown])), (h0_1, .inl (cI, 100, .inl s0.number)), (h0_2, .inl (cI, 40, .inl s0.term)), (h0_3, .inl (cI, 180, .inl s0.store)), (h0_4, .inl (cI, 9, .inl s0.query)), (h0_5, .inl (cI, 16, .inl s0.bound)), (h0_6, .inl (cI, 2000, .inl s0.work)), (h0_7, .inl (cI, 2000, .inl s0.answers))] sz)) (Q_X8_orderFor dC dI cI h0 h0_1 h0_2 h0_3 h0_4 h0_5 h0_6 h0_7 s0 (va_A [(h0, .inr (8, [.int s0.terms, .ref h0_1, .ref h0_2, .int s0.triples, .ref h0_3, .int s0.patterns, .ref h0_4, .ref h0_5, .int s0.found, .ref h0_6, .int s0.kept, .int s0.keptVariables, .ref h0_7, .int s0.thrown])), (h0_1, .inl (cI, 100, .inl s0.number)), (h0_2, .inl (cI, 40, .inl s0.term)), (h0_3, .inl (cI, 180, .inl s0.store)), (h0_4, .inl (cI, 9, .inl s0.query)), (h0_5, .inl (cI, 16, .inl s0.bound)), (h0_6, .inl (cI, 2000, .inl s0.work)), (h0_7, .inl (cI, 2000, .inl s0.answers))] sz) post) 0 0 (va_A [(h0, .inr (8, [.int s0.terms, .ref h0_1, .ref h0_2, .int s0.triples, .ref h0_3, .int s0.patterns, .ref h0_4, .ref h0_5, .int s0.found, .ref h0_6, .int s0.kept, .int s0.keptVariables, .ref h0_7, .int s0.thrown])), (h0_1, .inl (cI, 100, .inl s0.number)), (h0_2, .inl (cI, 40, .inl s0.term)), (h0_3, .inl (cI, 180, .inl s0.store)), (h0_4, .inl (cI, 9, .inl s0.query)), (h0_5, .inl (cI, 16, .inl s0.bound)), (h0_6, .inl (cI, 2000, .inl s0.work)), (h0_7, .inl (cI, 2000, .inl s0.answers))] sz) := by
  refine Met.ofW (cc := cX8_orderFor) (maxL := 4) (ret := (some .int)) (by decide) rfl ?_
  intro p e s m args below meth c s₁ B hml hv
  obtain ⟨rfl, hsz, hP, hK, hD0, hN⟩ := hv
  have hx := B.exec
  have hb := B.bytes
  have hr := B.returns
  have hts := atoms_spec (ws := wsX8_orderFor) B.pre
  have hown : s.vm.findClass RX8 = some m.cls := findClass_of_methodNamed B.named
  have hlocks := B.notSynchronized
  subst hsz
  have hD := hD0.self (sz := s.heap.size)
  generalize hAe : va_A [(h0, .inr (8, [.int s0.terms, .ref h0_1, .ref h0_2, .int s0.triples, .ref h0_3, .int s0.patterns, .ref h0_4, .ref h0_5, .int s0.found, .ref h0_6, .int s0.kept, .int s0.keptVariables, .ref h0_7, .int s0.thrown])), (h0_1, .inl (cI, 100, .inl s0.number)), (h0_2, .inl (cI, 40, .inl s0.term)), (h0_3, .inl (cI, 180, .inl s0.store)), (h0_4, .inl (cI, 9, .inl s0.query)), (h0_5, .inl (cI, 16, .inl s0.bound)), (h0_6, .inl (cI, 2000, .inl s0.work)), (h0_7, .inl (cI, 2000, .inl s0.answers))] s.heap.size = A at hD ⊢
  have hA : ∀ q : Nat, s.heap.size ≤ q → A q := fun q h => by rw [← hAe]; exact Or.inr h
  clear hAe hD0
  obtain ⟨s0_terms, s0_number, s0_term, s0_triples, s0_store, s0_patterns, s0_query, s0_bound, s0_found, s0_work, s0_kept, s0_keptVariables, s0_answers, s0_thrown⟩ := s0
  have hS : va_S A s.heap s.heap [] := va_S.rf
  have hP : va_P (dC, dI) vwCl [(h0, .inr (8, [.int s0_terms, .ref h0_1, .ref h0_2, .int s0_triples, .ref h0_3, .int s0_patterns, .ref h0_4, .ref h0_5, .int s0_found, .ref h0_6, .int s0_kept, .int s0_keptVariables, .ref h0_7, .int s0_thrown])), (h0_1, .inl (cI, 100, .inl s0_number)), (h0_2, .inl (cI, 40, .inl s0_term)), (h0_3, .inl (cI, 180, .inl s0_store)), (h0_4, .inl (cI, 9, .inl s0_query)), (h0_5, .inl (cI, 16, .inl s0_bound)), (h0_6, .inl (cI, 2000, .inl s0_work)), (h0_7, .inl (cI, 2000, .inl s0_answers))] s.heap := hP
  have hD : va_D A [(h0, .inr (8, [.int s0_terms, .ref h0_1, .ref h0_2, .int s0_triples, .ref h0_3, .int s0_patterns, .ref h0_4, .ref h0_5, .int s0_found, .ref h0_6, .int s0_kept, .int s0_keptVariables, .ref h0_7, .int s0_thrown])), (h0_1, .inl (cI, 100, .inl s0_number)), (h0_2, .inl (cI, 40, .inl s0_term)), (h0_3, .inl (cI, 180, .inl s0_store)), (h0_4, .inl (cI, 9, .inl s0_query)), (h0_5, .inl (cI, 16, .inl s0_bound)), (h0_6, .inl (cI, 2000, .inl s0_work)), (h0_7, .inl (cI, 2000, .inl s0_answers))] := hD
  have hl := lv_entry ([.ref h0, .int v1, .int v2, .int v3]) (n := 4) (Nat.le_of_ble_eq_true rfl)
  rw [lg_entry_eq]
  generalize (lg_sl ([.ref h0, .int v1, .int v2, .int v3]) ++ List.replicate (4 - (lg_sl ([.ref h0, .int v1, .int v2, .int v3])).length) Slot.unset).toArray = ls at hl ⊢
  have hl : lv_has ls 4 [(0, .ref h0), (1, .int v1), (2, .int v2), (3, .int v3)] := hl
  have hinX8 : ∀ w ∈ u_ws RX8 TX8 14, w ∈ wsX8_orderFor := by decide +kernel
  refine lv_aload_n hx hb dX8_orderFor_0 rfl (lv_at hl 0 rfl) ?_
  refine lv_iconst (v := (0 : Int32)) hx hb dX8_orderFor_1 (by decide) ?_
  refine va_put (D := (dC, dI)) (ci := 8) (v := .int (0 : Int32)) (ty := .int) (C := RX8) (T := TX8) (N := 14) hx hb hts (hinX8) tyX8 tyX8_ok nmX8 hown hK hP hD hS 0 rfl rfl 13 (by decide) (hts (.fieldLink RX8 31 "TripleJoinsModel" "thrown" "I") (by decide +kernel)) (fun _ h9 => h9) rfl (by decide +kernel) rfl rfl (Nat.le_of_ble_eq_true rfl) dX8_orderFor_2 (fun H locs hP hD hS => ?_)
  have hP : va_P (dC, dI) vwCl [(h0, .inr (8, [.int s0_terms, .ref h0_1, .ref h0_2, .int s0_triples, .ref h0_3, .int s0_patterns, .ref h0_4, .ref h0_5, .int s0_found, .ref h0_6, .int s0_kept, .int s0_keptVariables, .ref h0_7, .int (0 : Int32)])), (h0_1, .inl (cI, 100, .inl s0_number)), (h0_2, .inl (cI, 40, .inl s0_term)), (h0_3, .inl (cI, 180, .inl s0_store)), (h0_4, .inl (cI, 9, .inl s0_query)), (h0_5, .inl (cI, 16, .inl s0_bound)), (h0_6, .inl (cI, 2000, .inl s0_work)), (h0_7, .inl (cI, 2000, .inl s0_answers))] _ := hP
  have hD : va_D A [(h0, .inr (8, [.int s0_terms, .ref h0_1, .ref h0_2, .int s0_triples, .ref h0_3, .int s0_patterns, .ref h0_4, .ref h0_5, .int s0_found, .ref h0_6, .int s0_kept, .int s0_keptVariables, .ref h0_7, .int (0 : Int32)])), (h0_1, .inl (cI, 100, .inl s0_number)), (h0_2, .inl (cI, 40, .inl s0_term)), (h0_3, .inl (cI, 180, .inl s0_store)), (h0_4, .inl (cI, 9, .inl s0_query)), (h0_5, .inl (cI, 16, .inl s0_bound)), (h0_6, .inl (cI, 2000, .inl s0_work)), (h0_7, .inl (cI, 2000, .inl s0_answers))] := hD
  refine lv_iload_n hx hb dX8_orderFor_5 rfl (lv_at hl 1 rfl) ?_
  obtain ⟨ht_, hf_⟩ := h
  refine lv_if_eq (tgt := 23) hx hb dX8_orderFor_6 (by decide) (fun c_1 => ?_) (fun c_1 => ?_)
  · have h := ht_ c_1
    refine lv_iload_n hx hb dX8_orderFor_23 rfl (lv_at hl 2 rfl) ?_
    obtain ⟨ht_, hf_⟩ := h
    refine lv_if_eq (tgt := 31) hx hb dX8_orderFor_24 (by decide) (fun c_2 => ?_) (fun c_2 => ?_)
    · have h := ht_ c_2
      refine lv_iload_n hx hb dX8_orderFor_31 rfl (lv_at hl 3 rfl) ?_
      obtain ⟨ht_, hf_⟩ := h
      refine lv_if_eq (tgt := 39) hx hb dX8_orderFor_32 (by decide) (fun c_3 => ?_) (fun c_3 => ?_)
      · have h := ht_ c_3
        refine lv_iconst (v := (0 : Int32)) hx hb dX8_orderFor_39 (by decide) ?_
        exact W.iret (v := (0 : Int32)) hx hb hr (fun t ht hW => ⟨⟨(0 : Int32), (s0_terms, s0_number, s0_term, s0_triples, s0_store, s0_patterns, s0_query, s0_bound, s0_found, s0_work, s0_kept, s0_keptVariables, s0_answers, (0 : Int32)), rfl, h, ⟨by rw [ht]; exact hP, hD⟩⟩, hS.F ht⟩) hS.2.2 dX8_orderFor_40
      · have h := hf_ c_3
        refine lv_iconst (v := (2 : Int32)) hx hb dX8_orderFor_35 (by decide) ?_
        refine lv_goto (tgt := 40) hx hb dX8_orderFor_36 (by decide) ?_
        exact W.iret (v := (2 : Int32)) hx hb hr (fun t ht hW => ⟨⟨(2 : Int32), (s0_terms, s0_number, s0_term, s0_triples, s0_store, s0_patterns, s0_query, s0_bound, s0_found, s0_work, s0_kept, s0_keptVariables, s0_answers, (0 : Int32)), rfl, h, ⟨by rw [ht]; exact hP, hD⟩⟩, hS.F ht⟩) hS.2.2 dX8_orderFor_40
    · have h := hf_ c_2
      refine lv_iconst (v := (1 : Int32)) hx hb dX8_orderFor_27 (by decide) ?_
      refine lv_goto (tgt := 40) hx hb dX8_orderFor_28 (by decide) ?_
      exact W.iret (v := (1 : Int32)) hx hb hr (fun t ht hW => ⟨⟨(1 : Int32), (s0_terms, s0_number, s0_term, s0_triples, s0_store, s0_patterns, s0_query, s0_bound, s0_found, s0_work, s0_kept, s0_keptVariables, s0_answers, (0 : Int32)), rfl, h, ⟨by rw [ht]; exact hP, hD⟩⟩, hS.F ht⟩) hS.2.2 dX8_orderFor_40
  · have h := hf_ c_1
    refine lv_iload_n hx hb dX8_orderFor_9 rfl (lv_at hl 3 rfl) ?_
    obtain ⟨ht_, hf_⟩ := h
    refine lv_if_eq (tgt := 21) hx hb dX8_orderFor_10 (by decide) (fun c_4 => ?_) (fun c_4 => ?_)
    · have h := ht_ c_4
      refine lv_iconst (v := (0 : Int32)) hx hb dX8_orderFor_21 (by decide) ?_
      exact W.iret (v := (0 : Int32)) hx hb hr (fun t ht hW => ⟨⟨(0 : Int32), (s0_terms, s0_number, s0_term, s0_triples, s0_store, s0_patterns, s0_query, s0_bound, s0_found, s0_work, s0_kept, s0_keptVariables, s0_answers, (0 : Int32)), rfl, h, ⟨by rw [ht]; exact hP, hD⟩⟩, hS.F ht⟩) hS.2.2 dX8_orderFor_22
    · have h := hf_ c_4
      refine lv_iload_n hx hb dX8_orderFor_13 rfl (lv_at hl 2 rfl) ?_
      obtain ⟨ht_, hf_⟩ := h
      refine lv_if_ne (tgt := 21) hx hb dX8_orderFor_14 (by decide) (fun c_5 => ?_) (fun c_5 => ?_)
      · have h := ht_ c_5
        refine lv_iconst (v := (0 : Int32)) hx hb dX8_orderFor_21 (by decide) ?_
        exact W.iret (v := (0 : Int32)) hx hb hr (fun t ht hW => ⟨⟨(0 : Int32), (s0_terms, s0_number, s0_term, s0_triples, s0_store, s0_patterns, s0_query, s0_bound, s0_found, s0_work, s0_kept, s0_keptVariables, s0_answers, (0 : Int32)), rfl, h, ⟨by rw [ht]; exact hP, hD⟩⟩, hS.F ht⟩) hS.2.2 dX8_orderFor_22
      · have h := hf_ c_5
        refine lv_iconst (v := (2 : Int32)) hx hb dX8_orderFor_17 (by decide) ?_
        refine lv_goto (tgt := 22) hx hb dX8_orderFor_18 (by decide) ?_
        exact W.iret (v := (2 : Int32)) hx hb hr (fun t ht hW => ⟨⟨(2 : Int32), (s0_terms, s0_number, s0_term, s0_triples, s0_store, s0_patterns, s0_query, s0_bound, s0_found, s0_work, s0_kept, s0_keptVariables, s0_answers, (0 : Int32)), rfl, h, ⟨by rw [ht]; exact hP, hD⟩⟩, hS.F ht⟩) hS.2.2 dX8_orderFor_22
abbrev Q_X8_seek (dC : Nat → ClassId) (dI : Nat → Nat → Nat) (cI : ClassId) (h0 h0_1 h0_2 h0_3 h0_4 h0_5 h0_6 h0_7 : Nat) (s0 : ModS) (A : Nat → Prop) (post : Int32 → ModS → Prop) : Array Value → State → Outcome → State → Prop := va_Qi post (fun (u : ModS) (t : State) => va_P (dC, dI) vwCl [(h0, .inr (8, [.int u.terms, .ref h0_1, .ref h0_2, .int u.triples, .ref h0_3, .int u.patterns, .ref h0_4, .ref h0_5, .int u.found, .ref h0_6, .int u.kept, .int u.keptVariables, .ref h0_7, .int u.thrown])), (h0_1, .inl (cI, 100, .inl u.number)), (h0_2, .inl (cI, 40, .inl u.term)), (h0_3, .inl (cI, 180, .inl u.store)), (h0_4, .inl (cI, 9, .inl u.query)), (h0_5, .inl (cI, 16, .inl u.bound)), (h0_6, .inl (cI, 2000, .inl u.work)), (h0_7, .inl (cI, 2000, .inl u.answers))] t.heap ∧ va_D A [(h0, .inr (8, [.int u.terms, .ref h0_1, .ref h0_2, .int u.triples, .ref h0_3, .int u.patterns, .ref h0_4, .ref h0_5, .int u.found, .ref h0_6, .int u.kept, .int u.keptVariables, .ref h0_7, .int u.thrown])), (h0_1, .inl (cI, 100, .inl u.number)), (h0_2, .inl (cI, 40, .inl u.term)), (h0_3, .inl (cI, 180, .inl u.store)), (h0_4, .inl (cI, 9, .inl u.query)), (h0_5, .inl (cI, 16, .inl u.bound)), (h0_6, .inl (cI, 2000, .inl u.work)), (h0_7, .inl (cI, 2000, .inl u.answers))]) A
abbrev rm_X8_seek : Room := { frames := 1, cells := 0, slots := 0, locals := 22 }
set_option maxHeartbeats 4000000 in
set_option maxRecDepth 100000 in
theorem c_X8_seek (l : Launch) (dC : Nat → ClassId) (dI : Nat → Nat → Nat) (cI : ClassId) (h0 h0_1 h0_2 h0_3 h0_4 h0_5 h0_6 h0_7 : Nat) (sz : Nat) (s0 : ModS) (v1 : Int32) (v2 : Int32) (post : Int32 → ModS → Prop) (h : P_X8_seek s0 v1 v2 post) : Met l yX8_seek wsX8_seek rm_X8_seek (va_Pc [.ref h0, .int v1, .int v2] (cpre (dC, dI) [(cI, .int)] [(h0, .inr (8, [.int s0.terms, .ref h0_1, .ref h0_2, .int s0.triples, .ref h0_3, .int s0.patterns, .ref h0_4, .ref h0_5, .int s0.found, .ref h0_6, .int s0.kept, .int s0.keptVariables, .ref h0_7, .int s0.thrown])), (h0_1, .inl (cI, 100, .inl s0.number)), (h0_2, .inl (cI, 40, .inl s0.term)), (h0_3, .inl (cI, 180, .inl s0.store)), (h0_4, .inl (cI, 9, .inl s0.query)), (h0_5, .inl (cI, 16, .inl s0.bound)), (h0_6, .inl (cI, 2000, .inl s0.work)), (h0_7, .inl (cI, 2000, .inl s0.answers))] sz)) (Q_X8_seek dC dI cI h0 h0_1 h0_2 h0_3 h0_4 h0_5 h0_6 h0_7 s0 (va_A [(h0, .inr (8, [.int s0.terms, .ref h0_1, .ref h0_2, .int s0.triples, .ref h0_3, .int s0.patterns, .ref h0_4, .ref h0_5, .int s0.found, .ref h0_6, .int s0.kept, .int s0.keptVariables, .ref h0_7, .int s0.thrown])), (h0_1, .inl (cI, 100, .inl s0.number)), (h0_2, .inl (cI, 40, .inl s0.term)), (h0_3, .inl (cI, 180, .inl s0.store)), (h0_4, .inl (cI, 9, .inl s0.query)), (h0_5, .inl (cI, 16, .inl s0.bound)), (h0_6, .inl (cI, 2000, .inl s0.work)), (h0_7, .inl (cI, 2000, .inl s0.answers))] sz) post) 0 0 (va_A [(h0, .inr (8, [.int s0.terms, .ref h0_1, .ref h0_2, .int s0.triples, .ref h0_3, .int s0.patterns, .ref h0_4, .ref h0_5, .int s0.found, .ref h0_6, .int s0.kept, .int s0.keptVariables, .ref h0_7, .int s0.thrown])), (h0_1, .inl (cI, 100, .inl s0.number)), (h0_2, .inl (cI, 40, .inl s0.term)), (h0_3, .inl (cI, 180, .inl s0.store)), (h0_4, .inl (cI, 9, .inl s0.query)), (h0_5, .inl (cI, 16, .inl s0.bound)), (h0_6, .inl (cI, 2000, .inl s0.work)), (h0_7, .inl (cI, 2000, .inl s0.answers))] sz) := by
  refine Met.ofW (cc := cX8_seek) (maxL := 5) (ret := (some .int)) (by decide) rfl ?_
  intro p e s m args below meth c s₁ B hml hv
  obtain ⟨rfl, hsz, hP, hK, hD0, hN⟩ := hv
  have hx := B.exec
  have hb := B.bytes
  have hr := B.returns
  have hts := atoms_spec (ws := wsX8_seek) B.pre
  have hown : s.vm.findClass RX8 = some m.cls := findClass_of_methodNamed B.named
  have hlocks := B.notSynchronized
  subst hsz
  have hD := hD0.self (sz := s.heap.size)
  generalize hAe : va_A [(h0, .inr (8, [.int s0.terms, .ref h0_1, .ref h0_2, .int s0.triples, .ref h0_3, .int s0.patterns, .ref h0_4, .ref h0_5, .int s0.found, .ref h0_6, .int s0.kept, .int s0.keptVariables, .ref h0_7, .int s0.thrown])), (h0_1, .inl (cI, 100, .inl s0.number)), (h0_2, .inl (cI, 40, .inl s0.term)), (h0_3, .inl (cI, 180, .inl s0.store)), (h0_4, .inl (cI, 9, .inl s0.query)), (h0_5, .inl (cI, 16, .inl s0.bound)), (h0_6, .inl (cI, 2000, .inl s0.work)), (h0_7, .inl (cI, 2000, .inl s0.answers))] s.heap.size = A at hD ⊢
  have hA : ∀ q : Nat, s.heap.size ≤ q → A q := fun q h => by rw [← hAe]; exact Or.inr h
  clear hAe hD0
  obtain ⟨s0_terms, s0_number, s0_term, s0_triples, s0_store, s0_patterns, s0_query, s0_bound, s0_found, s0_work, s0_kept, s0_keptVariables, s0_answers, s0_thrown⟩ := s0
  have hS : va_S A s.heap s.heap [] := va_S.rf
  have hP : va_P (dC, dI) vwCl [(h0, .inr (8, [.int s0_terms, .ref h0_1, .ref h0_2, .int s0_triples, .ref h0_3, .int s0_patterns, .ref h0_4, .ref h0_5, .int s0_found, .ref h0_6, .int s0_kept, .int s0_keptVariables, .ref h0_7, .int s0_thrown])), (h0_1, .inl (cI, 100, .inl s0_number)), (h0_2, .inl (cI, 40, .inl s0_term)), (h0_3, .inl (cI, 180, .inl s0_store)), (h0_4, .inl (cI, 9, .inl s0_query)), (h0_5, .inl (cI, 16, .inl s0_bound)), (h0_6, .inl (cI, 2000, .inl s0_work)), (h0_7, .inl (cI, 2000, .inl s0_answers))] s.heap := hP
  have hD : va_D A [(h0, .inr (8, [.int s0_terms, .ref h0_1, .ref h0_2, .int s0_triples, .ref h0_3, .int s0_patterns, .ref h0_4, .ref h0_5, .int s0_found, .ref h0_6, .int s0_kept, .int s0_keptVariables, .ref h0_7, .int s0_thrown])), (h0_1, .inl (cI, 100, .inl s0_number)), (h0_2, .inl (cI, 40, .inl s0_term)), (h0_3, .inl (cI, 180, .inl s0_store)), (h0_4, .inl (cI, 9, .inl s0_query)), (h0_5, .inl (cI, 16, .inl s0_bound)), (h0_6, .inl (cI, 2000, .inl s0_work)), (h0_7, .inl (cI, 2000, .inl s0_answers))] := hD
  have hl := lv_entry ([.ref h0, .int v1, .int v2]) (n := 5) (Nat.le_of_ble_eq_true rfl)
  rw [lg_entry_eq]
  generalize (lg_sl ([.ref h0, .int v1, .int v2]) ++ List.replicate (5 - (lg_sl ([.ref h0, .int v1, .int v2])).length) Slot.unset).toArray = ls at hl ⊢
  have hl : lv_has ls 5 [(0, .ref h0), (1, .int v1), (2, .int v2)] := hl
  have hinX8 : ∀ w ∈ u_ws RX8 TX8 14, w ∈ wsX8_seek := by decide +kernel
  have lab_52 : ∀ (s0_1_terms : Int32) (s0_1_number : Nat → Int32) (s0_1_term : Nat → Int32) (s0_1_triples : Int32) (s0_1_store : Nat → Int32) (s0_1_patterns : Int32) (s0_1_query : Nat → Int32) (s0_1_bound : Nat → Int32) (s0_1_found : Int32) (s0_1_work : Nat → Int32) (s0_1_kept : Int32) (s0_1_keptVariables : Int32) (s0_1_answers : Nat → Int32) (s0_1_thrown : Int32) (x0_2 : Int32) (h : P_X8_seek_j52 (s0_1_terms, s0_1_number, s0_1_term, s0_1_triples, s0_1_store, s0_1_patterns, s0_1_query, s0_1_bound, s0_1_found, s0_1_work, s0_1_kept, s0_1_keptVariables, s0_1_answers, s0_1_thrown) v1 v2 x0_2 post) (H : Heap) (locs : List Loc) (hP : va_P (dC, dI) vwCl [(h0, .inr (8, [.int s0_1_terms, .ref h0_1, .ref h0_2, .int s0_1_triples, .ref h0_3, .int s0_1_patterns, .ref h0_4, .ref h0_5, .int s0_1_found, .ref h0_6, .int s0_1_kept, .int s0_1_keptVariables, .ref h0_7, .int s0_1_thrown])), (h0_1, .inl (cI, 100, .inl s0_1_number)), (h0_2, .inl (cI, 40, .inl s0_1_term)), (h0_3, .inl (cI, 180, .inl s0_1_store)), (h0_4, .inl (cI, 9, .inl s0_1_query)), (h0_5, .inl (cI, 16, .inl s0_1_bound)), (h0_6, .inl (cI, 2000, .inl s0_1_work)), (h0_7, .inl (cI, 2000, .inl s0_1_answers))] H) (hD : va_D A [(h0, .inr (8, [.int s0_1_terms, .ref h0_1, .ref h0_2, .int s0_1_triples, .ref h0_3, .int s0_1_patterns, .ref h0_4, .ref h0_5, .int s0_1_found, .ref h0_6, .int s0_1_kept, .int s0_1_keptVariables, .ref h0_7, .int s0_1_thrown])), (h0_1, .inl (cI, 100, .inl s0_1_number)), (h0_2, .inl (cI, 40, .inl s0_1_term)), (h0_3, .inl (cI, 180, .inl s0_1_store)), (h0_4, .inl (cI, 9, .inl s0_1_query)), (h0_5, .inl (cI, 16, .inl s0_1_bound)), (h0_6, .inl (cI, 2000, .inl s0_1_work)), (h0_7, .inl (cI, 2000, .inl s0_1_answers))]) (hS : va_S A s.heap H locs) (ls : Array Slot) (hl : lv_has ls 5 [(0, .ref h0), (1, .int v1), (2, .int v2)]), W p l e rm_X8_seek s m ([.ref h0, .int v1, .int v2] : List Value).toArray below meth c H locs 0 0 (MQ below (Q_X8_seek dC dI cI h0 h0_1 h0_2 h0_3 h0_4 h0_5 h0_6 h0_7 (s0_terms, s0_number, s0_term, s0_triples, s0_store, s0_patterns, s0_query, s0_bound, s0_found, s0_work, s0_kept, s0_keptVariables, s0_answers, s0_thrown) A post) (([.ref h0, .int v1, .int v2] : List Value).toArray) s 0 0 A) (F0 m 52 ls [.int x0_2, .ref h0]) := by
    intro s0_1_terms s0_1_number s0_1_term s0_1_triples s0_1_store s0_1_patterns s0_1_query s0_1_bound s0_1_found s0_1_work s0_1_kept s0_1_keptVariables s0_1_answers s0_1_thrown x0_2 h H locs hP hD hS ls hl
    refine va_put (D := (dC, dI)) (ci := 8) (v := .int x0_2) (ty := .int) (C := RX8) (T := TX8) (N := 14) hx hb hts (hinX8) tyX8 tyX8_ok nmX8 hown hK hP hD hS 0 rfl rfl 13 (by decide) (hts (.fieldLink RX8 31 "TripleJoinsModel" "thrown" "I") (by decide +kernel)) (fun _ h9 => h9) rfl (by decide +kernel) rfl rfl (Nat.le_of_ble_eq_true rfl) dX8_seek_52 (fun H locs hP hD hS => ?_)
    have hP : va_P (dC, dI) vwCl [(h0, .inr (8, [.int s0_1_terms, .ref h0_1, .ref h0_2, .int s0_1_triples, .ref h0_3, .int s0_1_patterns, .ref h0_4, .ref h0_5, .int s0_1_found, .ref h0_6, .int s0_1_kept, .int s0_1_keptVariables, .ref h0_7, .int x0_2])), (h0_1, .inl (cI, 100, .inl s0_1_number)), (h0_2, .inl (cI, 40, .inl s0_1_term)), (h0_3, .inl (cI, 180, .inl s0_1_store)), (h0_4, .inl (cI, 9, .inl s0_1_query)), (h0_5, .inl (cI, 16, .inl s0_1_bound)), (h0_6, .inl (cI, 2000, .inl s0_1_work)), (h0_7, .inl (cI, 2000, .inl s0_1_answers))] _ := hP
    have hD : va_D A [(h0, .inr (8, [.int s0_1_terms, .ref h0_1, .ref h0_2, .int s0_1_triples, .ref h0_3, .int s0_1_patterns, .ref h0_4, .ref h0_5, .int s0_1_found, .ref h0_6, .int s0_1_kept, .int s0_1_keptVariables, .ref h0_7, .int x0_2])), (h0_1, .inl (cI, 100, .inl s0_1_number)), (h0_2, .inl (cI, 40, .inl s0_1_term)), (h0_3, .inl (cI, 180, .inl s0_1_store)), (h0_4, .inl (cI, 9, .inl s0_1_query)), (h0_5, .inl (cI, 16, .inl s0_1_bound)), (h0_6, .inl (cI, 2000, .inl s0_1_work)), (h0_7, .inl (cI, 2000, .inl s0_1_answers))] := hD
    refine lv_iconst (v := (0 : Int32)) hx hb dX8_seek_55 (by decide) ?_
    refine lv_istore_n (lv' := [(3, .int (0 : Int32)), (0, .ref h0), (1, .int v1), (2, .int v2)]) hx hb dX8_seek_56 rfl hl (by decide) rfl (fun ls hl => ?_)
    refine lv_iconst (v := (0 : Int32)) hx hb dX8_seek_57 (by decide) ?_
    refine lv_istore (lv' := [(4, .int (0 : Int32)), (3, .int (0 : Int32)), (0, .ref h0), (1, .int v1), (2, .int v2)]) hx hb dX8_seek_58 hl (by decide) rfl (fun ls hl => ?_)
    have hl : lv_has ls 5 [(0, .ref h0), (1, .int v1), (2, .int v2), (3, .int (0 : Int32)), (4, .int (0 : Int32))] := lv_sub hl [2, 3, 4, 1, 0] rfl
    obtain ⟨I_3, hI_3, n_3, h⟩ := h
    have loop_3 : ∀ (n_3 : Nat) (v3_4 : Int32) (v4_5 : Int32) (h : I_3 n_3 (v3_4, v4_5)) (H : Heap) (locs : List Loc) (hP : va_P (dC, dI) vwCl [(h0, .inr (8, [.int s0_1_terms, .ref h0_1, .ref h0_2, .int s0_1_triples, .ref h0_3, .int s0_1_patterns, .ref h0_4, .ref h0_5, .int s0_1_found, .ref h0_6, .int s0_1_kept, .int s0_1_keptVariables, .ref h0_7, .int x0_2])), (h0_1, .inl (cI, 100, .inl s0_1_number)), (h0_2, .inl (cI, 40, .inl s0_1_term)), (h0_3, .inl (cI, 180, .inl s0_1_store)), (h0_4, .inl (cI, 9, .inl s0_1_query)), (h0_5, .inl (cI, 16, .inl s0_1_bound)), (h0_6, .inl (cI, 2000, .inl s0_1_work)), (h0_7, .inl (cI, 2000, .inl s0_1_answers))] H) (hD : va_D A [(h0, .inr (8, [.int s0_1_terms, .ref h0_1, .ref h0_2, .int s0_1_triples, .ref h0_3, .int s0_1_patterns, .ref h0_4, .ref h0_5, .int s0_1_found, .ref h0_6, .int s0_1_kept, .int s0_1_keptVariables, .ref h0_7, .int x0_2])), (h0_1, .inl (cI, 100, .inl s0_1_number)), (h0_2, .inl (cI, 40, .inl s0_1_term)), (h0_3, .inl (cI, 180, .inl s0_1_store)), (h0_4, .inl (cI, 9, .inl s0_1_query)), (h0_5, .inl (cI, 16, .inl s0_1_bound)), (h0_6, .inl (cI, 2000, .inl s0_1_work)), (h0_7, .inl (cI, 2000, .inl s0_1_answers))]) (hS : va_S A s.heap H locs) (ls : Array Slot) (hl : lv_has ls 5 [(0, .ref h0), (1, .int v1), (2, .int v2), (3, .int v3_4), (4, .int v4_5)]), W p l e rm_X8_seek s m ([.ref h0, .int v1, .int v2] : List Value).toArray below meth c H locs 0 0 (MQ below (Q_X8_seek dC dI cI h0 h0_1 h0_2 h0_3 h0_4 h0_5 h0_6 h0_7 (s0_terms, s0_number, s0_term, s0_triples, s0_store, s0_patterns, s0_query, s0_bound, s0_found, s0_work, s0_kept, s0_keptVariables, s0_answers, s0_thrown) A post) (([.ref h0, .int v1, .int v2] : List Value).toArray) s 0 0 A) (F0 m 60 ls []) := by
      intro n_3
      induction n_3 using Nat.strongRecOn with
      | ind n_3 ih_3 =>
        intro v3_4 v4_5 h H locs hP hD hS ls hl
        have h := hI_3 n_3 _ h
        refine lv_iload hx hb dX8_seek_60 (lv_at hl 4 rfl) ?_
        refine lv_aload_n hx hb dX8_seek_62 rfl (lv_at hl 0 rfl) ?_
        refine va_get (D := (dC, dI)) (ci := 8) (v := .int s0_1_triples) (C := RX8) (T := TX8) (N := 14) hx hb hts (hinX8) hown hK hP 0 rfl rfl 3 (by decide) (hts (.fieldLink RX8 39 "TripleJoinsModel" "triples" "I") (by decide +kernel)) (fun _ h9 => h9) rfl dX8_seek_63 ?_
        obtain ⟨ht_, hf_⟩ := h
        refine lv_icmp_ge (tgt := 110) hx hb dX8_seek_66 (by decide) (fun c_6 => ?_) (fun c_6 => ?_)
        · have h := ht_ c_6
          refine lv_iload_n hx hb dX8_seek_110 rfl (lv_at hl 3 rfl) ?_
          exact W.iret (v := v3_4) hx hb hr (fun t ht hW => ⟨⟨v3_4, (s0_1_terms, s0_1_number, s0_1_term, s0_1_triples, s0_1_store, s0_1_patterns, s0_1_query, s0_1_bound, s0_1_found, s0_1_work, s0_1_kept, s0_1_keptVariables, s0_1_answers, x0_2), rfl, h, ⟨by rw [ht]; exact hP, hD⟩⟩, hS.F ht⟩) hS.2.2 dX8_seek_111
        · have h := hf_ c_6
          refine lv_aload_n hx hb dX8_seek_69 rfl (lv_at hl 0 rfl) ?_
          refine va_get (D := (dC, dI)) (ci := 8) (v := .int x0_2) (C := RX8) (T := TX8) (N := 14) hx hb hts (hinX8) hown hK hP 0 rfl rfl 13 (by decide) (hts (.fieldLink RX8 31 "TripleJoinsModel" "thrown" "I") (by decide +kernel)) (fun _ h9 => h9) rfl dX8_seek_70 ?_
          obtain ⟨ht_, hf_⟩ := h
          refine lv_if_ne (tgt := 110) hx hb dX8_seek_73 (by decide) (fun c_7 => ?_) (fun c_7 => ?_)
          · have h := ht_ c_7
            refine lv_iload_n hx hb dX8_seek_110 rfl (lv_at hl 3 rfl) ?_
            exact W.iret (v := v3_4) hx hb hr (fun t ht hW => ⟨⟨v3_4, (s0_1_terms, s0_1_number, s0_1_term, s0_1_triples, s0_1_store, s0_1_patterns, s0_1_query, s0_1_bound, s0_1_found, s0_1_work, s0_1_kept, s0_1_keptVariables, s0_1_answers, x0_2), rfl, h, ⟨by rw [ht]; exact hP, hD⟩⟩, hS.F ht⟩) hS.2.2 dX8_seek_111
          · have h := hf_ c_7
            refine lv_iload_n hx hb dX8_seek_76 rfl (lv_at hl 3 rfl) ?_
            refine lv_aload_n hx hb dX8_seek_77 rfl (lv_at hl 0 rfl) ?_
            refine va_get (D := (dC, dI)) (ci := 8) (v := .ref h0_3) (C := RX8) (T := TX8) (N := 14) hx hb hts (hinX8) hown hK hP 0 rfl rfl 4 (by decide) (hts (.fieldLink RX8 16 "TripleJoinsModel" "store" "[I") (by decide +kernel)) (fun _ h9 => h9) rfl dX8_seek_78 ?_
            refine lv_iconst (v := (3 : Int32)) hx hb dX8_seek_81 (by decide) ?_
            refine lv_iload hx hb dX8_seek_82 (lv_at hl 4 rfl) ?_
            refine lv_imul hx hb dX8_seek_84 ?_
            refine lv_iload_n hx hb dX8_seek_85 rfl (lv_at hl 1 rfl) ?_
            refine lv_iadd hx hb dX8_seek_86 ?_
            obtain ⟨hin, h⟩ := h
            refine va_iald (n := 180) hx hb hK hP 3 0 rfl rfl hin dX8_seek_87 ?_
            refine lv_aload_n hx hb dX8_seek_88 rfl (lv_at hl 0 rfl) ?_
            refine va_get (D := (dC, dI)) (ci := 8) (v := .ref h0_1) (C := RX8) (T := TX8) (N := 14) hx hb hts (hinX8) hown hK hP 0 rfl rfl 1 (by decide) (hts (.fieldLink RX8 7 "TripleJoinsModel" "number" "[I") (by decide +kernel)) (fun _ h9 => h9) rfl dX8_seek_89 ?_
            refine lv_iload_n hx hb dX8_seek_92 rfl (lv_at hl 2 rfl) ?_
            obtain ⟨hin, h⟩ := h
            refine va_iald (n := 100) hx hb hK hP 1 0 rfl rfl hin dX8_seek_93 ?_
            obtain ⟨ht_, hf_⟩ := h
            refine lv_icmp_ge (tgt := 101) hx hb dX8_seek_94 (by decide) (fun c_8 => ?_) (fun c_8 => ?_)
            · have h := ht_ c_8
              refine lv_iconst (v := (0 : Int32)) hx hb dX8_seek_101 (by decide) ?_
              refine lv_iadd hx hb dX8_seek_102 ?_
              refine lv_istore_n (lv' := [(3, .int (v3_4 + (0 : Int32))), (0, .ref h0), (1, .int v1), (2, .int v2), (4, .int v4_5)]) hx hb dX8_seek_103 rfl hl (by decide) rfl (fun ls hl => ?_)
              refine lv_iinc (v := (v4_5 + (1 : Int32))) (lv' := [(4, .int (v4_5 + (1 : Int32))), (3, .int (v3_4 + (0 : Int32))), (0, .ref h0), (1, .int v1), (2, .int v2)]) hx hb dX8_seek_104 hl (k := 4) rfl rfl (by decide) rfl (fun ls hl => ?_)
              refine lv_goto (tgt := 60) hx hb dX8_seek_107 (by decide) ?_
              have hl : lv_has ls 5 [(0, .ref h0), (1, .int v1), (2, .int v2), (3, .int (v3_4 + (0 : Int32))), (4, .int (v4_5 + (1 : Int32)))] := lv_sub hl [2, 3, 4, 1, 0] rfl
              obtain ⟨k_9, hk_10, h⟩ := h
              exact ih_3 k_9 hk_10 (v3_4 + (0 : Int32)) (v4_5 + (1 : Int32)) h _ _ hP hD hS _ hl
            · have h := hf_ c_8
              refine lv_iconst (v := (1 : Int32)) hx hb dX8_seek_97 (by decide) ?_
              refine lv_goto (tgt := 102) hx hb dX8_seek_98 (by decide) ?_
              refine lv_iadd hx hb dX8_seek_102 ?_
              refine lv_istore_n (lv' := [(3, .int (v3_4 + (1 : Int32))), (0, .ref h0), (1, .int v1), (2, .int v2), (4, .int v4_5)]) hx hb dX8_seek_103 rfl hl (by decide) rfl (fun ls hl => ?_)
              refine lv_iinc (v := (v4_5 + (1 : Int32))) (lv' := [(4, .int (v4_5 + (1 : Int32))), (3, .int (v3_4 + (1 : Int32))), (0, .ref h0), (1, .int v1), (2, .int v2)]) hx hb dX8_seek_104 hl (k := 4) rfl rfl (by decide) rfl (fun ls hl => ?_)
              refine lv_goto (tgt := 60) hx hb dX8_seek_107 (by decide) ?_
              have hl : lv_has ls 5 [(0, .ref h0), (1, .int v1), (2, .int v2), (3, .int (v3_4 + (1 : Int32))), (4, .int (v4_5 + (1 : Int32)))] := lv_sub hl [2, 3, 4, 1, 0] rfl
              obtain ⟨k_11, hk_12, h⟩ := h
              exact ih_3 k_11 hk_12 (v3_4 + (1 : Int32)) (v4_5 + (1 : Int32)) h _ _ hP hD hS _ hl
    exact loop_3 n_3 (0 : Int32) (0 : Int32) h _ _ hP hD hS _ hl
  have lab_25 : ∀ (s0_13_terms : Int32) (s0_13_number : Nat → Int32) (s0_13_term : Nat → Int32) (s0_13_triples : Int32) (s0_13_store : Nat → Int32) (s0_13_patterns : Int32) (s0_13_query : Nat → Int32) (s0_13_bound : Nat → Int32) (s0_13_found : Int32) (s0_13_work : Nat → Int32) (s0_13_kept : Int32) (s0_13_keptVariables : Int32) (s0_13_answers : Nat → Int32) (s0_13_thrown : Int32) (x0_14 : Int32) (h : P_X8_seek_j25 (s0_13_terms, s0_13_number, s0_13_term, s0_13_triples, s0_13_store, s0_13_patterns, s0_13_query, s0_13_bound, s0_13_found, s0_13_work, s0_13_kept, s0_13_keptVariables, s0_13_answers, s0_13_thrown) v1 v2 x0_14 post) (H : Heap) (locs : List Loc) (hP : va_P (dC, dI) vwCl [(h0, .inr (8, [.int s0_13_terms, .ref h0_1, .ref h0_2, .int s0_13_triples, .ref h0_3, .int s0_13_patterns, .ref h0_4, .ref h0_5, .int s0_13_found, .ref h0_6, .int s0_13_kept, .int s0_13_keptVariables, .ref h0_7, .int s0_13_thrown])), (h0_1, .inl (cI, 100, .inl s0_13_number)), (h0_2, .inl (cI, 40, .inl s0_13_term)), (h0_3, .inl (cI, 180, .inl s0_13_store)), (h0_4, .inl (cI, 9, .inl s0_13_query)), (h0_5, .inl (cI, 16, .inl s0_13_bound)), (h0_6, .inl (cI, 2000, .inl s0_13_work)), (h0_7, .inl (cI, 2000, .inl s0_13_answers))] H) (hD : va_D A [(h0, .inr (8, [.int s0_13_terms, .ref h0_1, .ref h0_2, .int s0_13_triples, .ref h0_3, .int s0_13_patterns, .ref h0_4, .ref h0_5, .int s0_13_found, .ref h0_6, .int s0_13_kept, .int s0_13_keptVariables, .ref h0_7, .int s0_13_thrown])), (h0_1, .inl (cI, 100, .inl s0_13_number)), (h0_2, .inl (cI, 40, .inl s0_13_term)), (h0_3, .inl (cI, 180, .inl s0_13_store)), (h0_4, .inl (cI, 9, .inl s0_13_query)), (h0_5, .inl (cI, 16, .inl s0_13_bound)), (h0_6, .inl (cI, 2000, .inl s0_13_work)), (h0_7, .inl (cI, 2000, .inl s0_13_answers))]) (hS : va_S A s.heap H locs) (ls : Array Slot) (hl : lv_has ls 5 [(0, .ref h0), (1, .int v1), (2, .int v2)]), W p l e rm_X8_seek s m ([.ref h0, .int v1, .int v2] : List Value).toArray below meth c H locs 0 0 (MQ below (Q_X8_seek dC dI cI h0 h0_1 h0_2 h0_3 h0_4 h0_5 h0_6 h0_7 (s0_terms, s0_number, s0_term, s0_triples, s0_store, s0_patterns, s0_query, s0_bound, s0_found, s0_work, s0_kept, s0_keptVariables, s0_answers, s0_thrown) A post) (([.ref h0, .int v1, .int v2] : List Value).toArray) s 0 0 A) (F0 m 25 ls [.int x0_14, .ref h0]) := by
    intro s0_13_terms s0_13_number s0_13_term s0_13_triples s0_13_store s0_13_patterns s0_13_query s0_13_bound s0_13_found s0_13_work s0_13_kept s0_13_keptVariables s0_13_answers s0_13_thrown x0_14 h H locs hP hD hS ls hl
    refine va_put (D := (dC, dI)) (ci := 8) (v := .int x0_14) (ty := .int) (C := RX8) (T := TX8) (N := 14) hx hb hts (hinX8) tyX8 tyX8_ok nmX8 hown hK hP hD hS 0 rfl rfl 13 (by decide) (hts (.fieldLink RX8 31 "TripleJoinsModel" "thrown" "I") (by decide +kernel)) (fun _ h9 => h9) rfl (by decide +kernel) rfl rfl (Nat.le_of_ble_eq_true rfl) dX8_seek_25 (fun H locs hP hD hS => ?_)
    have hP : va_P (dC, dI) vwCl [(h0, .inr (8, [.int s0_13_terms, .ref h0_1, .ref h0_2, .int s0_13_triples, .ref h0_3, .int s0_13_patterns, .ref h0_4, .ref h0_5, .int s0_13_found, .ref h0_6, .int s0_13_kept, .int s0_13_keptVariables, .ref h0_7, .int x0_14])), (h0_1, .inl (cI, 100, .inl s0_13_number)), (h0_2, .inl (cI, 40, .inl s0_13_term)), (h0_3, .inl (cI, 180, .inl s0_13_store)), (h0_4, .inl (cI, 9, .inl s0_13_query)), (h0_5, .inl (cI, 16, .inl s0_13_bound)), (h0_6, .inl (cI, 2000, .inl s0_13_work)), (h0_7, .inl (cI, 2000, .inl s0_13_answers))] _ := hP
    have hD : va_D A [(h0, .inr (8, [.int s0_13_terms, .ref h0_1, .ref h0_2, .int s0_13_triples, .ref h0_3, .int s0_13_patterns, .ref h0_4, .ref h0_5, .int s0_13_found, .ref h0_6, .int s0_13_kept, .int s0_13_keptVariables, .ref h0_7, .int x0_14])), (h0_1, .inl (cI, 100, .inl s0_13_number)), (h0_2, .inl (cI, 40, .inl s0_13_term)), (h0_3, .inl (cI, 180, .inl s0_13_store)), (h0_4, .inl (cI, 9, .inl s0_13_query)), (h0_5, .inl (cI, 16, .inl s0_13_bound)), (h0_6, .inl (cI, 2000, .inl s0_13_work)), (h0_7, .inl (cI, 2000, .inl s0_13_answers))] := hD
    refine lv_aload_n hx hb dX8_seek_28 rfl (lv_at hl 0 rfl) ?_
    refine va_get (D := (dC, dI)) (ci := 8) (v := .int x0_14) (C := RX8) (T := TX8) (N := 14) hx hb hts (hinX8) hown hK hP 0 rfl rfl 13 (by decide) (hts (.fieldLink RX8 31 "TripleJoinsModel" "thrown" "I") (by decide +kernel)) (fun _ h9 => h9) rfl dX8_seek_29 ?_
    obtain ⟨ht_, hf_⟩ := h
    refine lv_if_le (tgt := 37) hx hb dX8_seek_32 (by decide) (fun c_15 => ?_) (fun c_15 => ?_)
    · have h := ht_ c_15
      refine lv_aload_n hx hb dX8_seek_37 rfl (lv_at hl 0 rfl) ?_
      refine lv_aload_n hx hb dX8_seek_38 rfl (lv_at hl 0 rfl) ?_
      refine va_get (D := (dC, dI)) (ci := 8) (v := .ref h0_1) (C := RX8) (T := TX8) (N := 14) hx hb hts (hinX8) hown hK hP 0 rfl rfl 1 (by decide) (hts (.fieldLink RX8 7 "TripleJoinsModel" "number" "[I") (by decide +kernel)) (fun _ h9 => h9) rfl dX8_seek_39 ?_
      refine lv_iload_n hx hb dX8_seek_42 rfl (lv_at hl 2 rfl) ?_
      obtain ⟨hin, h⟩ := h
      refine va_iald (n := 100) hx hb hK hP 1 0 rfl rfl hin dX8_seek_43 ?_
      obtain ⟨ht_, hf_⟩ := h
      refine lv_if_ge (tgt := 51) hx hb dX8_seek_44 (by decide) (fun c_16 => ?_) (fun c_16 => ?_)
      · have h := ht_ c_16
        refine lv_iconst (v := (0 : Int32)) hx hb dX8_seek_51 (by decide) ?_
        exact lab_52 s0_13_terms s0_13_number s0_13_term s0_13_triples s0_13_store s0_13_patterns s0_13_query s0_13_bound s0_13_found s0_13_work s0_13_kept s0_13_keptVariables s0_13_answers x0_14 (0 : Int32) h _ _ hP hD hS _ hl
      · have h := hf_ c_16
        refine lv_iconst (v := (2 : Int32)) hx hb dX8_seek_47 (by decide) ?_
        refine lv_goto (tgt := 52) hx hb dX8_seek_48 (by decide) ?_
        exact lab_52 s0_13_terms s0_13_number s0_13_term s0_13_triples s0_13_store s0_13_patterns s0_13_query s0_13_bound s0_13_found s0_13_work s0_13_kept s0_13_keptVariables s0_13_answers x0_14 (2 : Int32) h _ _ hP hD hS _ hl
    · have h := hf_ c_15
      refine lv_iconst (v := (0 : Int32)) hx hb dX8_seek_35 (by decide) ?_
      exact W.iret (v := (0 : Int32)) hx hb hr (fun t ht hW => ⟨⟨(0 : Int32), (s0_13_terms, s0_13_number, s0_13_term, s0_13_triples, s0_13_store, s0_13_patterns, s0_13_query, s0_13_bound, s0_13_found, s0_13_work, s0_13_kept, s0_13_keptVariables, s0_13_answers, x0_14), rfl, h, ⟨by rw [ht]; exact hP, hD⟩⟩, hS.F ht⟩) hS.2.2 dX8_seek_36
  have lab_24 : ∀ (s0_17_terms : Int32) (s0_17_number : Nat → Int32) (s0_17_term : Nat → Int32) (s0_17_triples : Int32) (s0_17_store : Nat → Int32) (s0_17_patterns : Int32) (s0_17_query : Nat → Int32) (s0_17_bound : Nat → Int32) (s0_17_found : Int32) (s0_17_work : Nat → Int32) (s0_17_kept : Int32) (s0_17_keptVariables : Int32) (s0_17_answers : Nat → Int32) (s0_17_thrown : Int32) (h : P_X8_seek_j24 (s0_17_terms, s0_17_number, s0_17_term, s0_17_triples, s0_17_store, s0_17_patterns, s0_17_query, s0_17_bound, s0_17_found, s0_17_work, s0_17_kept, s0_17_keptVariables, s0_17_answers, s0_17_thrown) v1 v2 post) (H : Heap) (locs : List Loc) (hP : va_P (dC, dI) vwCl [(h0, .inr (8, [.int s0_17_terms, .ref h0_1, .ref h0_2, .int s0_17_triples, .ref h0_3, .int s0_17_patterns, .ref h0_4, .ref h0_5, .int s0_17_found, .ref h0_6, .int s0_17_kept, .int s0_17_keptVariables, .ref h0_7, .int s0_17_thrown])), (h0_1, .inl (cI, 100, .inl s0_17_number)), (h0_2, .inl (cI, 40, .inl s0_17_term)), (h0_3, .inl (cI, 180, .inl s0_17_store)), (h0_4, .inl (cI, 9, .inl s0_17_query)), (h0_5, .inl (cI, 16, .inl s0_17_bound)), (h0_6, .inl (cI, 2000, .inl s0_17_work)), (h0_7, .inl (cI, 2000, .inl s0_17_answers))] H) (hD : va_D A [(h0, .inr (8, [.int s0_17_terms, .ref h0_1, .ref h0_2, .int s0_17_triples, .ref h0_3, .int s0_17_patterns, .ref h0_4, .ref h0_5, .int s0_17_found, .ref h0_6, .int s0_17_kept, .int s0_17_keptVariables, .ref h0_7, .int s0_17_thrown])), (h0_1, .inl (cI, 100, .inl s0_17_number)), (h0_2, .inl (cI, 40, .inl s0_17_term)), (h0_3, .inl (cI, 180, .inl s0_17_store)), (h0_4, .inl (cI, 9, .inl s0_17_query)), (h0_5, .inl (cI, 16, .inl s0_17_bound)), (h0_6, .inl (cI, 2000, .inl s0_17_work)), (h0_7, .inl (cI, 2000, .inl s0_17_answers))]) (hS : va_S A s.heap H locs) (ls : Array Slot) (hl : lv_has ls 5 [(0, .ref h0), (1, .int v1), (2, .int v2)]), W p l e rm_X8_seek s m ([.ref h0, .int v1, .int v2] : List Value).toArray below meth c H locs 0 0 (MQ below (Q_X8_seek dC dI cI h0 h0_1 h0_2 h0_3 h0_4 h0_5 h0_6 h0_7 (s0_terms, s0_number, s0_term, s0_triples, s0_store, s0_patterns, s0_query, s0_bound, s0_found, s0_work, s0_kept, s0_keptVariables, s0_answers, s0_thrown) A post) (([.ref h0, .int v1, .int v2] : List Value).toArray) s 0 0 A) (F0 m 24 ls [.ref h0]) := by
    intro s0_17_terms s0_17_number s0_17_term s0_17_triples s0_17_store s0_17_patterns s0_17_query s0_17_bound s0_17_found s0_17_work s0_17_kept s0_17_keptVariables s0_17_answers s0_17_thrown h H locs hP hD hS ls hl
    refine lv_iconst (v := (1 : Int32)) hx hb dX8_seek_24 (by decide) ?_
    exact lab_25 s0_17_terms s0_17_number s0_17_term s0_17_triples s0_17_store s0_17_patterns s0_17_query s0_17_bound s0_17_found s0_17_work s0_17_kept s0_17_keptVariables s0_17_answers s0_17_thrown (1 : Int32) h _ _ hP hD hS _ hl
  refine lv_aload_n hx hb dX8_seek_0 rfl (lv_at hl 0 rfl) ?_
  refine lv_iload_n hx hb dX8_seek_1 rfl (lv_at hl 1 rfl) ?_
  refine lv_iconst (v := (0 : Int32)) hx hb dX8_seek_2 (by decide) ?_
  refine lv_iconst (v := (2 : Int32)) hx hb dX8_seek_3 (by decide) ?_
  have hPc := hP.sub (ws' := []) [] rfl
  have hDc := hD.sub (ws' := []) [] (by decide) rfl
  have hFc := fr0 hA hS
  refine va_calli (va_runS (As := [.int v1, .int (0 : Int32), .int (2 : Int32)]) (rest := [.ref h0]) ⟨hx, hb, hml, hown, hts⟩ (c_X8_isIn l dC dI cI  _ v1 (0 : Int32) (2 : Int32) _ h) (va_cwS 3 hts gX8_seek_X8_isIn rfl rfl rfl (by decide +kernel) ⟨Nat.le_of_ble_eq_true rfl, Nat.le_of_ble_eq_true rfl⟩) (pb_S hPc hK hDc hN) rfl rfl hl.1 rfl (lv_room (Nat.le_of_ble_eq_true rfl)) dX8_seek_4 ⟨Nat.zero_le _, Nat.zero_le _⟩) hS (fun q _ h => hFc q h) hFc (fun r_19 u_18 t H locs ht hvm h hB hz1 hk1 hS => ?_)
  have hP := vaPk hP hk1
  obtain ⟨ht_, hf_⟩ := h
  refine lv_if_eq (tgt := 24) hx hb dX8_seek_7 (by decide) (fun c_20 => ?_) (fun c_20 => ?_)
  · have h := ht_ c_20
    exact lab_24 s0_terms s0_number s0_term s0_triples s0_store s0_patterns s0_query s0_bound s0_found s0_work s0_kept s0_keptVariables s0_answers s0_thrown h _ _ hP hD hS _ hl
  · have h := hf_ c_20
    refine lv_iload_n hx hb dX8_seek_10 rfl (lv_at hl 2 rfl) ?_
    refine lv_iconst (v := (0 : Int32)) hx hb dX8_seek_11 (by decide) ?_
    refine lv_bipush (v := (99 : Int32)) hx hb dX8_seek_12 (by decide) ?_
    have hPc := hP.sub (ws' := []) [] rfl
    have hDc := hD.sub (ws' := []) [] (by decide) rfl
    have hFc := fr0 hA hS
    refine va_calli (va_runS (As := [.int v2, .int (0 : Int32), .int (99 : Int32)]) (rest := [.ref h0]) ⟨hx, hb, hml, hown, hts⟩ (c_X8_isIn l dC dI cI  _ v2 (0 : Int32) (99 : Int32) _ h) (va_cwS 3 hts gX8_seek_X8_isIn rfl rfl rfl (by decide +kernel) ⟨Nat.le_of_ble_eq_true rfl, Nat.le_of_ble_eq_true rfl⟩) (pb_S hPc hK hDc hN) rfl rfl hl.1 rfl (lv_room (Nat.le_of_ble_eq_true rfl)) dX8_seek_14 ⟨Nat.zero_le _, Nat.zero_le _⟩) hS (fun q _ h => hFc q h) hFc (fun r_22 u_21 t H locs ht hvm h hB hz1 hk1 hS => ?_)
    have hP := vaPk hP hk1
    obtain ⟨ht_, hf_⟩ := h
    refine lv_if_eq (tgt := 24) hx hb dX8_seek_17 (by decide) (fun c_23 => ?_) (fun c_23 => ?_)
    · have h := ht_ c_23
      exact lab_24 s0_terms s0_number s0_term s0_triples s0_store s0_patterns s0_query s0_bound s0_found s0_work s0_kept s0_keptVariables s0_answers s0_thrown h _ _ hP hD hS _ hl
    · have h := hf_ c_23
      refine lv_iconst (v := (0 : Int32)) hx hb dX8_seek_20 (by decide) ?_
      refine lv_goto (tgt := 25) hx hb dX8_seek_21 (by decide) ?_
      exact lab_25 s0_terms s0_number s0_term s0_triples s0_store s0_patterns s0_query s0_bound s0_found s0_work s0_kept s0_keptVariables s0_answers s0_thrown (0 : Int32) h _ _ hP hD hS _ hl
abbrev Q_X8_forget (dC : Nat → ClassId) (dI : Nat → Nat → Nat) (cI : ClassId) (h0 h0_1 h0_2 h0_3 h0_4 h0_5 h0_6 h0_7 : Nat) (s0 : ModS) (A : Nat → Prop) (post : Int32 → ModS → Prop) : Array Value → State → Outcome → State → Prop := va_Qi post (fun (u : ModS) (t : State) => va_P (dC, dI) vwCl [(h0, .inr (8, [.int u.terms, .ref h0_1, .ref h0_2, .int u.triples, .ref h0_3, .int u.patterns, .ref h0_4, .ref h0_5, .int u.found, .ref h0_6, .int u.kept, .int u.keptVariables, .ref h0_7, .int u.thrown])), (h0_1, .inl (cI, 100, .inl u.number)), (h0_2, .inl (cI, 40, .inl u.term)), (h0_3, .inl (cI, 180, .inl u.store)), (h0_4, .inl (cI, 9, .inl u.query)), (h0_5, .inl (cI, 16, .inl u.bound)), (h0_6, .inl (cI, 2000, .inl u.work)), (h0_7, .inl (cI, 2000, .inl u.answers))] t.heap ∧ va_D A [(h0, .inr (8, [.int u.terms, .ref h0_1, .ref h0_2, .int u.triples, .ref h0_3, .int u.patterns, .ref h0_4, .ref h0_5, .int u.found, .ref h0_6, .int u.kept, .int u.keptVariables, .ref h0_7, .int u.thrown])), (h0_1, .inl (cI, 100, .inl u.number)), (h0_2, .inl (cI, 40, .inl u.term)), (h0_3, .inl (cI, 180, .inl u.store)), (h0_4, .inl (cI, 9, .inl u.query)), (h0_5, .inl (cI, 16, .inl u.bound)), (h0_6, .inl (cI, 2000, .inl u.work)), (h0_7, .inl (cI, 2000, .inl u.answers))]) A
abbrev rm_X8_forget : Room := { frames := 0, cells := 0, slots := 0, locals := 0 }
set_option maxHeartbeats 4000000 in
set_option maxRecDepth 100000 in
theorem c_X8_forget (l : Launch) (dC : Nat → ClassId) (dI : Nat → Nat → Nat) (cI : ClassId) (h0 h0_1 h0_2 h0_3 h0_4 h0_5 h0_6 h0_7 : Nat) (sz : Nat) (s0 : ModS) (post : Int32 → ModS → Prop) (h : P_X8_forget s0 post) : Met l yX8_forget wsX8_forget rm_X8_forget (va_Pc [.ref h0] (cpre (dC, dI) [(cI, .int)] [(h0, .inr (8, [.int s0.terms, .ref h0_1, .ref h0_2, .int s0.triples, .ref h0_3, .int s0.patterns, .ref h0_4, .ref h0_5, .int s0.found, .ref h0_6, .int s0.kept, .int s0.keptVariables, .ref h0_7, .int s0.thrown])), (h0_1, .inl (cI, 100, .inl s0.number)), (h0_2, .inl (cI, 40, .inl s0.term)), (h0_3, .inl (cI, 180, .inl s0.store)), (h0_4, .inl (cI, 9, .inl s0.query)), (h0_5, .inl (cI, 16, .inl s0.bound)), (h0_6, .inl (cI, 2000, .inl s0.work)), (h0_7, .inl (cI, 2000, .inl s0.answers))] sz)) (Q_X8_forget dC dI cI h0 h0_1 h0_2 h0_3 h0_4 h0_5 h0_6 h0_7 s0 (va_A [(h0, .inr (8, [.int s0.terms, .ref h0_1, .ref h0_2, .int s0.triples, .ref h0_3, .int s0.patterns, .ref h0_4, .ref h0_5, .int s0.found, .ref h0_6, .int s0.kept, .int s0.keptVariables, .ref h0_7, .int s0.thrown])), (h0_1, .inl (cI, 100, .inl s0.number)), (h0_2, .inl (cI, 40, .inl s0.term)), (h0_3, .inl (cI, 180, .inl s0.store)), (h0_4, .inl (cI, 9, .inl s0.query)), (h0_5, .inl (cI, 16, .inl s0.bound)), (h0_6, .inl (cI, 2000, .inl s0.work)), (h0_7, .inl (cI, 2000, .inl s0.answers))] sz) post) 0 0 (va_A [(h0, .inr (8, [.int s0.terms, .ref h0_1, .ref h0_2, .int s0.triples, .ref h0_3, .int s0.patterns, .ref h0_4, .ref h0_5, .int s0.found, .ref h0_6, .int s0.kept, .int s0.keptVariables, .ref h0_7, .int s0.thrown])), (h0_1, .inl (cI, 100, .inl s0.number)), (h0_2, .inl (cI, 40, .inl s0.term)), (h0_3, .inl (cI, 180, .inl s0.store)), (h0_4, .inl (cI, 9, .inl s0.query)), (h0_5, .inl (cI, 16, .inl s0.bound)), (h0_6, .inl (cI, 2000, .inl s0.work)), (h0_7, .inl (cI, 2000, .inl s0.answers))] sz) := by
  refine Met.ofW (cc := cX8_forget) (maxL := 2) (ret := (some .int)) (by decide) rfl ?_
  intro p e s m args below meth c s₁ B hml hv
  obtain ⟨rfl, hsz, hP, hK, hD0, hN⟩ := hv
  have hx := B.exec
  have hb := B.bytes
  have hr := B.returns
  have hts := atoms_spec (ws := wsX8_forget) B.pre
  have hown : s.vm.findClass RX8 = some m.cls := findClass_of_methodNamed B.named
  have hlocks := B.notSynchronized
  subst hsz
  have hD := hD0.self (sz := s.heap.size)
  generalize hAe : va_A [(h0, .inr (8, [.int s0.terms, .ref h0_1, .ref h0_2, .int s0.triples, .ref h0_3, .int s0.patterns, .ref h0_4, .ref h0_5, .int s0.found, .ref h0_6, .int s0.kept, .int s0.keptVariables, .ref h0_7, .int s0.thrown])), (h0_1, .inl (cI, 100, .inl s0.number)), (h0_2, .inl (cI, 40, .inl s0.term)), (h0_3, .inl (cI, 180, .inl s0.store)), (h0_4, .inl (cI, 9, .inl s0.query)), (h0_5, .inl (cI, 16, .inl s0.bound)), (h0_6, .inl (cI, 2000, .inl s0.work)), (h0_7, .inl (cI, 2000, .inl s0.answers))] s.heap.size = A at hD ⊢
  have hA : ∀ q : Nat, s.heap.size ≤ q → A q := fun q h => by rw [← hAe]; exact Or.inr h
  clear hAe hD0
  obtain ⟨s0_terms, s0_number, s0_term, s0_triples, s0_store, s0_patterns, s0_query, s0_bound, s0_found, s0_work, s0_kept, s0_keptVariables, s0_answers, s0_thrown⟩ := s0
  have hS : va_S A s.heap s.heap [] := va_S.rf
  have hP : va_P (dC, dI) vwCl [(h0, .inr (8, [.int s0_terms, .ref h0_1, .ref h0_2, .int s0_triples, .ref h0_3, .int s0_patterns, .ref h0_4, .ref h0_5, .int s0_found, .ref h0_6, .int s0_kept, .int s0_keptVariables, .ref h0_7, .int s0_thrown])), (h0_1, .inl (cI, 100, .inl s0_number)), (h0_2, .inl (cI, 40, .inl s0_term)), (h0_3, .inl (cI, 180, .inl s0_store)), (h0_4, .inl (cI, 9, .inl s0_query)), (h0_5, .inl (cI, 16, .inl s0_bound)), (h0_6, .inl (cI, 2000, .inl s0_work)), (h0_7, .inl (cI, 2000, .inl s0_answers))] s.heap := hP
  have hD : va_D A [(h0, .inr (8, [.int s0_terms, .ref h0_1, .ref h0_2, .int s0_triples, .ref h0_3, .int s0_patterns, .ref h0_4, .ref h0_5, .int s0_found, .ref h0_6, .int s0_kept, .int s0_keptVariables, .ref h0_7, .int s0_thrown])), (h0_1, .inl (cI, 100, .inl s0_number)), (h0_2, .inl (cI, 40, .inl s0_term)), (h0_3, .inl (cI, 180, .inl s0_store)), (h0_4, .inl (cI, 9, .inl s0_query)), (h0_5, .inl (cI, 16, .inl s0_bound)), (h0_6, .inl (cI, 2000, .inl s0_work)), (h0_7, .inl (cI, 2000, .inl s0_answers))] := hD
  have hl := lv_entry ([.ref h0]) (n := 2) (Nat.le_of_ble_eq_true rfl)
  rw [lg_entry_eq]
  generalize (lg_sl ([.ref h0]) ++ List.replicate (2 - (lg_sl ([.ref h0])).length) Slot.unset).toArray = ls at hl ⊢
  have hl : lv_has ls 2 [(0, .ref h0)] := hl
  have hinX8 : ∀ w ∈ u_ws RX8 TX8 14, w ∈ wsX8_forget := by decide +kernel
  refine lv_aload_n hx hb dX8_forget_0 rfl (lv_at hl 0 rfl) ?_
  refine lv_iconst (v := (0 : Int32)) hx hb dX8_forget_1 (by decide) ?_
  refine va_put (D := (dC, dI)) (ci := 8) (v := .int (0 : Int32)) (ty := .int) (C := RX8) (T := TX8) (N := 14) hx hb hts (hinX8) tyX8 tyX8_ok nmX8 hown hK hP hD hS 0 rfl rfl 13 (by decide) (hts (.fieldLink RX8 31 "TripleJoinsModel" "thrown" "I") (by decide +kernel)) (fun _ h9 => h9) rfl (by decide +kernel) rfl rfl (Nat.le_of_ble_eq_true rfl) dX8_forget_2 (fun H locs hP hD hS => ?_)
  have hP : va_P (dC, dI) vwCl [(h0, .inr (8, [.int s0_terms, .ref h0_1, .ref h0_2, .int s0_triples, .ref h0_3, .int s0_patterns, .ref h0_4, .ref h0_5, .int s0_found, .ref h0_6, .int s0_kept, .int s0_keptVariables, .ref h0_7, .int (0 : Int32)])), (h0_1, .inl (cI, 100, .inl s0_number)), (h0_2, .inl (cI, 40, .inl s0_term)), (h0_3, .inl (cI, 180, .inl s0_store)), (h0_4, .inl (cI, 9, .inl s0_query)), (h0_5, .inl (cI, 16, .inl s0_bound)), (h0_6, .inl (cI, 2000, .inl s0_work)), (h0_7, .inl (cI, 2000, .inl s0_answers))] _ := hP
  have hD : va_D A [(h0, .inr (8, [.int s0_terms, .ref h0_1, .ref h0_2, .int s0_triples, .ref h0_3, .int s0_patterns, .ref h0_4, .ref h0_5, .int s0_found, .ref h0_6, .int s0_kept, .int s0_keptVariables, .ref h0_7, .int (0 : Int32)])), (h0_1, .inl (cI, 100, .inl s0_number)), (h0_2, .inl (cI, 40, .inl s0_term)), (h0_3, .inl (cI, 180, .inl s0_store)), (h0_4, .inl (cI, 9, .inl s0_query)), (h0_5, .inl (cI, 16, .inl s0_bound)), (h0_6, .inl (cI, 2000, .inl s0_work)), (h0_7, .inl (cI, 2000, .inl s0_answers))] := hD
  refine lv_aload_n hx hb dX8_forget_5 rfl (lv_at hl 0 rfl) ?_
  refine va_get (D := (dC, dI)) (ci := 8) (v := .int s0_patterns) (C := RX8) (T := TX8) (N := 14) hx hb hts (hinX8) hown hK hP 0 rfl rfl 5 (by decide) (hts (.fieldLink RX8 67 "TripleJoinsModel" "patterns" "I") (by decide +kernel)) (fun _ h9 => h9) rfl dX8_forget_6 ?_
  refine lv_istore_n (lv' := [(1, .int s0_patterns), (0, .ref h0)]) hx hb dX8_forget_9 rfl hl (by decide) rfl (fun ls hl => ?_)
  refine lv_aload_n hx hb dX8_forget_10 rfl (lv_at hl 1 rfl) ?_
  refine lv_iconst (v := (0 : Int32)) hx hb dX8_forget_11 (by decide) ?_
  refine va_put (D := (dC, dI)) (ci := 8) (v := .int (0 : Int32)) (ty := .int) (C := RX8) (T := TX8) (N := 14) hx hb hts (hinX8) tyX8 tyX8_ok nmX8 hown hK hP hD hS 0 rfl rfl 5 (by decide) (hts (.fieldLink RX8 67 "TripleJoinsModel" "patterns" "I") (by decide +kernel)) (fun _ h9 => h9) rfl (by decide +kernel) rfl rfl (Nat.le_of_ble_eq_true rfl) dX8_forget_12 (fun H locs hP hD hS => ?_)
  have hP : va_P (dC, dI) vwCl [(h0, .inr (8, [.int s0_terms, .ref h0_1, .ref h0_2, .int s0_triples, .ref h0_3, .int (0 : Int32), .ref h0_4, .ref h0_5, .int s0_found, .ref h0_6, .int s0_kept, .int s0_keptVariables, .ref h0_7, .int (0 : Int32)])), (h0_1, .inl (cI, 100, .inl s0_number)), (h0_2, .inl (cI, 40, .inl s0_term)), (h0_3, .inl (cI, 180, .inl s0_store)), (h0_4, .inl (cI, 9, .inl s0_query)), (h0_5, .inl (cI, 16, .inl s0_bound)), (h0_6, .inl (cI, 2000, .inl s0_work)), (h0_7, .inl (cI, 2000, .inl s0_answers))] _ := hP
  have hD : va_D A [(h0, .inr (8, [.int s0_terms, .ref h0_1, .ref h0_2, .int s0_triples, .ref h0_3, .int (0 : Int32), .ref h0_4, .ref h0_5, .int s0_found, .ref h0_6, .int s0_kept, .int s0_keptVariables, .ref h0_7, .int (0 : Int32)])), (h0_1, .inl (cI, 100, .inl s0_number)), (h0_2, .inl (cI, 40, .inl s0_term)), (h0_3, .inl (cI, 180, .inl s0_store)), (h0_4, .inl (cI, 9, .inl s0_query)), (h0_5, .inl (cI, 16, .inl s0_bound)), (h0_6, .inl (cI, 2000, .inl s0_work)), (h0_7, .inl (cI, 2000, .inl s0_answers))] := hD
  refine lv_iload_n hx hb dX8_forget_15 rfl (lv_at hl 0 rfl) ?_
  exact W.iret (v := s0_patterns) hx hb hr (fun t ht hW => ⟨⟨s0_patterns, (s0_terms, s0_number, s0_term, s0_triples, s0_store, (0 : Int32), s0_query, s0_bound, s0_found, s0_work, s0_kept, s0_keptVariables, s0_answers, (0 : Int32)), rfl, h, ⟨by rw [ht]; exact hP, hD⟩⟩, hS.F ht⟩) hS.2.2 dX8_forget_16
abbrev Q_X8_addPattern (dC : Nat → ClassId) (dI : Nat → Nat → Nat) (cI : ClassId) (h0 h0_1 h0_2 h0_3 h0_4 h0_5 h0_6 h0_7 : Nat) (s0 : ModS) (A : Nat → Prop) (post : Int32 → ModS → Prop) : Array Value → State → Outcome → State → Prop := va_Qi post (fun (u : ModS) (t : State) => va_P (dC, dI) vwCl [(h0, .inr (8, [.int u.terms, .ref h0_1, .ref h0_2, .int u.triples, .ref h0_3, .int u.patterns, .ref h0_4, .ref h0_5, .int u.found, .ref h0_6, .int u.kept, .int u.keptVariables, .ref h0_7, .int u.thrown])), (h0_1, .inl (cI, 100, .inl u.number)), (h0_2, .inl (cI, 40, .inl u.term)), (h0_3, .inl (cI, 180, .inl u.store)), (h0_4, .inl (cI, 9, .inl u.query)), (h0_5, .inl (cI, 16, .inl u.bound)), (h0_6, .inl (cI, 2000, .inl u.work)), (h0_7, .inl (cI, 2000, .inl u.answers))] t.heap ∧ va_D A [(h0, .inr (8, [.int u.terms, .ref h0_1, .ref h0_2, .int u.triples, .ref h0_3, .int u.patterns, .ref h0_4, .ref h0_5, .int u.found, .ref h0_6, .int u.kept, .int u.keptVariables, .ref h0_7, .int u.thrown])), (h0_1, .inl (cI, 100, .inl u.number)), (h0_2, .inl (cI, 40, .inl u.term)), (h0_3, .inl (cI, 180, .inl u.store)), (h0_4, .inl (cI, 9, .inl u.query)), (h0_5, .inl (cI, 16, .inl u.bound)), (h0_6, .inl (cI, 2000, .inl u.work)), (h0_7, .inl (cI, 2000, .inl u.answers))]) A
abbrev rm_X8_addPattern : Room := { frames := 2, cells := 0, slots := 0, locals := 45 }
set_option maxHeartbeats 4000000 in
set_option maxRecDepth 100000 in
theorem c_X8_addPattern (l : Launch) (dC : Nat → ClassId) (dI : Nat → Nat → Nat) (cI : ClassId) (h0 h0_1 h0_2 h0_3 h0_4 h0_5 h0_6 h0_7 : Nat) (sz : Nat) (s0 : ModS) (v1 : Int32) (v2 : Int32) (v3 : Int32) (post : Int32 → ModS → Prop) (h : P_X8_addPattern s0 v1 v2 v3 post) : Met l yX8_addPattern wsX8_addPattern rm_X8_addPattern (va_Pc [.ref h0, .int v1, .int v2, .int v3] (cpre (dC, dI) [(cI, .int)] [(h0, .inr (8, [.int s0.terms, .ref h0_1, .ref h0_2, .int s0.triples, .ref h0_3, .int s0.patterns, .ref h0_4, .ref h0_5, .int s0.found, .ref h0_6, .int s0.kept, .int s0.keptVariables, .ref h0_7, .int s0.thrown])), (h0_1, .inl (cI, 100, .inl s0.number)), (h0_2, .inl (cI, 40, .inl s0.term)), (h0_3, .inl (cI, 180, .inl s0.store)), (h0_4, .inl (cI, 9, .inl s0.query)), (h0_5, .inl (cI, 16, .inl s0.bound)), (h0_6, .inl (cI, 2000, .inl s0.work)), (h0_7, .inl (cI, 2000, .inl s0.answers))] sz)) (Q_X8_addPattern dC dI cI h0 h0_1 h0_2 h0_3 h0_4 h0_5 h0_6 h0_7 s0 (va_A [(h0, .inr (8, [.int s0.terms, .ref h0_1, .ref h0_2, .int s0.triples, .ref h0_3, .int s0.patterns, .ref h0_4, .ref h0_5, .int s0.found, .ref h0_6, .int s0.kept, .int s0.keptVariables, .ref h0_7, .int s0.thrown])), (h0_1, .inl (cI, 100, .inl s0.number)), (h0_2, .inl (cI, 40, .inl s0.term)), (h0_3, .inl (cI, 180, .inl s0.store)), (h0_4, .inl (cI, 9, .inl s0.query)), (h0_5, .inl (cI, 16, .inl s0.bound)), (h0_6, .inl (cI, 2000, .inl s0.work)), (h0_7, .inl (cI, 2000, .inl s0.answers))] sz) post) 0 0 (va_A [(h0, .inr (8, [.int s0.terms, .ref h0_1, .ref h0_2, .int s0.triples, .ref h0_3, .int s0.patterns, .ref h0_4, .ref h0_5, .int s0.found, .ref h0_6, .int s0.kept, .int s0.keptVariables, .ref h0_7, .int s0.thrown])), (h0_1, .inl (cI, 100, .inl s0.number)), (h0_2, .inl (cI, 40, .inl s0.term)), (h0_3, .inl (cI, 180, .inl s0.store)), (h0_4, .inl (cI, 9, .inl s0.query)), (h0_5, .inl (cI, 16, .inl s0.bound)), (h0_6, .inl (cI, 2000, .inl s0.work)), (h0_7, .inl (cI, 2000, .inl s0.answers))] sz) := by
  refine Met.ofW (cc := cX8_addPattern) (maxL := 4) (ret := (some .int)) (by decide) rfl ?_
  intro p e s m args below meth c s₁ B hml hv
  obtain ⟨rfl, hsz, hP, hK, hD0, hN⟩ := hv
  have hx := B.exec
  have hb := B.bytes
  have hr := B.returns
  have hts := atoms_spec (ws := wsX8_addPattern) B.pre
  have hown : s.vm.findClass RX8 = some m.cls := findClass_of_methodNamed B.named
  have hlocks := B.notSynchronized
  subst hsz
  have hD := hD0.self (sz := s.heap.size)
  generalize hAe : va_A [(h0, .inr (8, [.int s0.terms, .ref h0_1, .ref h0_2, .int s0.triples, .ref h0_3, .int s0.patterns, .ref h0_4, .ref h0_5, .int s0.found, .ref h0_6, .int s0.kept, .int s0.keptVariables, .ref h0_7, .int s0.thrown])), (h0_1, .inl (cI, 100, .inl s0.number)), (h0_2, .inl (cI, 40, .inl s0.term)), (h0_3, .inl (cI, 180, .inl s0.store)), (h0_4, .inl (cI, 9, .inl s0.query)), (h0_5, .inl (cI, 16, .inl s0.bound)), (h0_6, .inl (cI, 2000, .inl s0.work)), (h0_7, .inl (cI, 2000, .inl s0.answers))] s.heap.size = A at hD ⊢
  have hA : ∀ q : Nat, s.heap.size ≤ q → A q := fun q h => by rw [← hAe]; exact Or.inr h
  clear hAe hD0
  obtain ⟨s0_terms, s0_number, s0_term, s0_triples, s0_store, s0_patterns, s0_query, s0_bound, s0_found, s0_work, s0_kept, s0_keptVariables, s0_answers, s0_thrown⟩ := s0
  have hS : va_S A s.heap s.heap [] := va_S.rf
  have hP : va_P (dC, dI) vwCl [(h0, .inr (8, [.int s0_terms, .ref h0_1, .ref h0_2, .int s0_triples, .ref h0_3, .int s0_patterns, .ref h0_4, .ref h0_5, .int s0_found, .ref h0_6, .int s0_kept, .int s0_keptVariables, .ref h0_7, .int s0_thrown])), (h0_1, .inl (cI, 100, .inl s0_number)), (h0_2, .inl (cI, 40, .inl s0_term)), (h0_3, .inl (cI, 180, .inl s0_store)), (h0_4, .inl (cI, 9, .inl s0_query)), (h0_5, .inl (cI, 16, .inl s0_bound)), (h0_6, .inl (cI, 2000, .inl s0_work)), (h0_7, .inl (cI, 2000, .inl s0_answers))] s.heap := hP
  have hD : va_D A [(h0, .inr (8, [.int s0_terms, .ref h0_1, .ref h0_2, .int s0_triples, .ref h0_3, .int s0_patterns, .ref h0_4, .ref h0_5, .int s0_found, .ref h0_6, .int s0_kept, .int s0_keptVariables, .ref h0_7, .int s0_thrown])), (h0_1, .inl (cI, 100, .inl s0_number)), (h0_2, .inl (cI, 40, .inl s0_term)), (h0_3, .inl (cI, 180, .inl s0_store)), (h0_4, .inl (cI, 9, .inl s0_query)), (h0_5, .inl (cI, 16, .inl s0_bound)), (h0_6, .inl (cI, 2000, .inl s0_work)), (h0_7, .inl (cI, 2000, .inl s0_answers))] := hD
  have hl := lv_entry ([.ref h0, .int v1, .int v2, .int v3]) (n := 4) (Nat.le_of_ble_eq_true rfl)
  rw [lg_entry_eq]
  generalize (lg_sl ([.ref h0, .int v1, .int v2, .int v3]) ++ List.replicate (4 - (lg_sl ([.ref h0, .int v1, .int v2, .int v3])).length) Slot.unset).toArray = ls at hl ⊢
  have hl : lv_has ls 4 [(0, .ref h0), (1, .int v1), (2, .int v2), (3, .int v3)] := hl
  have hinX8 : ∀ w ∈ u_ws RX8 TX8 14, w ∈ wsX8_addPattern := by decide +kernel
  have lab_29 : ∀ (s0_1_terms : Int32) (s0_1_number : Nat → Int32) (s0_1_term : Nat → Int32) (s0_1_triples : Int32) (s0_1_store : Nat → Int32) (s0_1_patterns : Int32) (s0_1_query : Nat → Int32) (s0_1_bound : Nat → Int32) (s0_1_found : Int32) (s0_1_work : Nat → Int32) (s0_1_kept : Int32) (s0_1_keptVariables : Int32) (s0_1_answers : Nat → Int32) (s0_1_thrown : Int32) (x0_2 : Int32) (h : P_X8_addPattern_j29 (s0_1_terms, s0_1_number, s0_1_term, s0_1_triples, s0_1_store, s0_1_patterns, s0_1_query, s0_1_bound, s0_1_found, s0_1_work, s0_1_kept, s0_1_keptVariables, s0_1_answers, s0_1_thrown) v1 v2 v3 x0_2 post) (H : Heap) (locs : List Loc) (hP : va_P (dC, dI) vwCl [(h0, .inr (8, [.int s0_1_terms, .ref h0_1, .ref h0_2, .int s0_1_triples, .ref h0_3, .int s0_1_patterns, .ref h0_4, .ref h0_5, .int s0_1_found, .ref h0_6, .int s0_1_kept, .int s0_1_keptVariables, .ref h0_7, .int s0_1_thrown])), (h0_1, .inl (cI, 100, .inl s0_1_number)), (h0_2, .inl (cI, 40, .inl s0_1_term)), (h0_3, .inl (cI, 180, .inl s0_1_store)), (h0_4, .inl (cI, 9, .inl s0_1_query)), (h0_5, .inl (cI, 16, .inl s0_1_bound)), (h0_6, .inl (cI, 2000, .inl s0_1_work)), (h0_7, .inl (cI, 2000, .inl s0_1_answers))] H) (hD : va_D A [(h0, .inr (8, [.int s0_1_terms, .ref h0_1, .ref h0_2, .int s0_1_triples, .ref h0_3, .int s0_1_patterns, .ref h0_4, .ref h0_5, .int s0_1_found, .ref h0_6, .int s0_1_kept, .int s0_1_keptVariables, .ref h0_7, .int s0_1_thrown])), (h0_1, .inl (cI, 100, .inl s0_1_number)), (h0_2, .inl (cI, 40, .inl s0_1_term)), (h0_3, .inl (cI, 180, .inl s0_1_store)), (h0_4, .inl (cI, 9, .inl s0_1_query)), (h0_5, .inl (cI, 16, .inl s0_1_bound)), (h0_6, .inl (cI, 2000, .inl s0_1_work)), (h0_7, .inl (cI, 2000, .inl s0_1_answers))]) (hS : va_S A s.heap H locs) (ls : Array Slot) (hl : lv_has ls 4 [(0, .ref h0), (1, .int v1), (2, .int v2), (3, .int v3)]), W p l e rm_X8_addPattern s m ([.ref h0, .int v1, .int v2, .int v3] : List Value).toArray below meth c H locs 0 0 (MQ below (Q_X8_addPattern dC dI cI h0 h0_1 h0_2 h0_3 h0_4 h0_5 h0_6 h0_7 (s0_terms, s0_number, s0_term, s0_triples, s0_store, s0_patterns, s0_query, s0_bound, s0_found, s0_work, s0_kept, s0_keptVariables, s0_answers, s0_thrown) A post) (([.ref h0, .int v1, .int v2, .int v3] : List Value).toArray) s 0 0 A) (F0 m 29 ls [.int x0_2, .ref h0]) := by
    intro s0_1_terms s0_1_number s0_1_term s0_1_triples s0_1_store s0_1_patterns s0_1_query s0_1_bound s0_1_found s0_1_work s0_1_kept s0_1_keptVariables s0_1_answers s0_1_thrown x0_2 h H locs hP hD hS ls hl
    refine va_put (D := (dC, dI)) (ci := 8) (v := .int x0_2) (ty := .int) (C := RX8) (T := TX8) (N := 14) hx hb hts (hinX8) tyX8 tyX8_ok nmX8 hown hK hP hD hS 0 rfl rfl 13 (by decide) (hts (.fieldLink RX8 31 "TripleJoinsModel" "thrown" "I") (by decide +kernel)) (fun _ h9 => h9) rfl (by decide +kernel) rfl rfl (Nat.le_of_ble_eq_true rfl) dX8_addPattern_29 (fun H locs hP hD hS => ?_)
    have hP : va_P (dC, dI) vwCl [(h0, .inr (8, [.int s0_1_terms, .ref h0_1, .ref h0_2, .int s0_1_triples, .ref h0_3, .int s0_1_patterns, .ref h0_4, .ref h0_5, .int s0_1_found, .ref h0_6, .int s0_1_kept, .int s0_1_keptVariables, .ref h0_7, .int x0_2])), (h0_1, .inl (cI, 100, .inl s0_1_number)), (h0_2, .inl (cI, 40, .inl s0_1_term)), (h0_3, .inl (cI, 180, .inl s0_1_store)), (h0_4, .inl (cI, 9, .inl s0_1_query)), (h0_5, .inl (cI, 16, .inl s0_1_bound)), (h0_6, .inl (cI, 2000, .inl s0_1_work)), (h0_7, .inl (cI, 2000, .inl s0_1_answers))] _ := hP
    have hD : va_D A [(h0, .inr (8, [.int s0_1_terms, .ref h0_1, .ref h0_2, .int s0_1_triples, .ref h0_3, .int s0_1_patterns, .ref h0_4, .ref h0_5, .int s0_1_found, .ref h0_6, .int s0_1_kept, .int s0_1_keptVariables, .ref h0_7, .int x0_2])), (h0_1, .inl (cI, 100, .inl s0_1_number)), (h0_2, .inl (cI, 40, .inl s0_1_term)), (h0_3, .inl (cI, 180, .inl s0_1_store)), (h0_4, .inl (cI, 9, .inl s0_1_query)), (h0_5, .inl (cI, 16, .inl s0_1_bound)), (h0_6, .inl (cI, 2000, .inl s0_1_work)), (h0_7, .inl (cI, 2000, .inl s0_1_answers))] := hD
    refine lv_aload_n hx hb dX8_addPattern_32 rfl (lv_at hl 0 rfl) ?_
    refine va_get (D := (dC, dI)) (ci := 8) (v := .int x0_2) (C := RX8) (T := TX8) (N := 14) hx hb hts (hinX8) hown hK hP 0 rfl rfl 13 (by decide) (hts (.fieldLink RX8 31 "TripleJoinsModel" "thrown" "I") (by decide +kernel)) (fun _ h9 => h9) rfl dX8_addPattern_33 ?_
    obtain ⟨ht_, hf_⟩ := h
    refine lv_if_le (tgt := 41) hx hb dX8_addPattern_36 (by decide) (fun c_3 => ?_) (fun c_3 => ?_)
    · have h := ht_ c_3
      refine lv_aload_n hx hb dX8_addPattern_41 rfl (lv_at hl 0 rfl) ?_
      refine va_get (D := (dC, dI)) (ci := 8) (v := .ref h0_4) (C := RX8) (T := TX8) (N := 14) hx hb hts (hinX8) hown hK hP 0 rfl rfl 6 (by decide) (hts (.fieldLink RX8 19 "TripleJoinsModel" "query" "[I") (by decide +kernel)) (fun _ h9 => h9) rfl dX8_addPattern_42 ?_
      refine lv_iconst (v := (3 : Int32)) hx hb dX8_addPattern_45 (by decide) ?_
      refine lv_aload_n hx hb dX8_addPattern_46 rfl (lv_at hl 0 rfl) ?_
      refine va_get (D := (dC, dI)) (ci := 8) (v := .int s0_1_patterns) (C := RX8) (T := TX8) (N := 14) hx hb hts (hinX8) hown hK hP 0 rfl rfl 5 (by decide) (hts (.fieldLink RX8 67 "TripleJoinsModel" "patterns" "I") (by decide +kernel)) (fun _ h9 => h9) rfl dX8_addPattern_47 ?_
      refine lv_imul hx hb dX8_addPattern_50 ?_
      refine lv_iload_n hx hb dX8_addPattern_51 rfl (lv_at hl 1 rfl) ?_
      obtain ⟨hin, h⟩ := h
      refine va_iast (n := 9) hx hb hK hP hD hS 4 0 rfl rfl hin dX8_addPattern_52 (fun H locs hP hD hS => ?_)
      have hP : va_P (dC, dI) vwCl [(h0, .inr (8, [.int s0_1_terms, .ref h0_1, .ref h0_2, .int s0_1_triples, .ref h0_3, .int s0_1_patterns, .ref h0_4, .ref h0_5, .int s0_1_found, .ref h0_6, .int s0_1_kept, .int s0_1_keptVariables, .ref h0_7, .int x0_2])), (h0_1, .inl (cI, 100, .inl s0_1_number)), (h0_2, .inl (cI, 40, .inl s0_1_term)), (h0_3, .inl (cI, 180, .inl s0_1_store)), (h0_4, .inl (cI, 9, .inl (upd s0_1_query (((3 : Int32) * s0_1_patterns)).toNatClampNeg v1))), (h0_5, .inl (cI, 16, .inl s0_1_bound)), (h0_6, .inl (cI, 2000, .inl s0_1_work)), (h0_7, .inl (cI, 2000, .inl s0_1_answers))] _ := hP
      have hD : va_D A [(h0, .inr (8, [.int s0_1_terms, .ref h0_1, .ref h0_2, .int s0_1_triples, .ref h0_3, .int s0_1_patterns, .ref h0_4, .ref h0_5, .int s0_1_found, .ref h0_6, .int s0_1_kept, .int s0_1_keptVariables, .ref h0_7, .int x0_2])), (h0_1, .inl (cI, 100, .inl s0_1_number)), (h0_2, .inl (cI, 40, .inl s0_1_term)), (h0_3, .inl (cI, 180, .inl s0_1_store)), (h0_4, .inl (cI, 9, .inl (upd s0_1_query (((3 : Int32) * s0_1_patterns)).toNatClampNeg v1))), (h0_5, .inl (cI, 16, .inl s0_1_bound)), (h0_6, .inl (cI, 2000, .inl s0_1_work)), (h0_7, .inl (cI, 2000, .inl s0_1_answers))] := hD
      refine lv_aload_n hx hb dX8_addPattern_53 rfl (lv_at hl 0 rfl) ?_
      refine va_get (D := (dC, dI)) (ci := 8) (v := .ref h0_4) (C := RX8) (T := TX8) (N := 14) hx hb hts (hinX8) hown hK hP 0 rfl rfl 6 (by decide) (hts (.fieldLink RX8 19 "TripleJoinsModel" "query" "[I") (by decide +kernel)) (fun _ h9 => h9) rfl dX8_addPattern_54 ?_
      refine lv_iconst (v := (3 : Int32)) hx hb dX8_addPattern_57 (by decide) ?_
      refine lv_aload_n hx hb dX8_addPattern_58 rfl (lv_at hl 0 rfl) ?_
      refine va_get (D := (dC, dI)) (ci := 8) (v := .int s0_1_patterns) (C := RX8) (T := TX8) (N := 14) hx hb hts (hinX8) hown hK hP 0 rfl rfl 5 (by decide) (hts (.fieldLink RX8 67 "TripleJoinsModel" "patterns" "I") (by decide +kernel)) (fun _ h9 => h9) rfl dX8_addPattern_59 ?_
      refine lv_imul hx hb dX8_addPattern_62 ?_
      refine lv_iconst (v := (1 : Int32)) hx hb dX8_addPattern_63 (by decide) ?_
      refine lv_iadd hx hb dX8_addPattern_64 ?_
      refine lv_iload_n hx hb dX8_addPattern_65 rfl (lv_at hl 2 rfl) ?_
      obtain ⟨hin, h⟩ := h
      refine va_iast (n := 9) hx hb hK hP hD hS 4 0 rfl rfl hin dX8_addPattern_66 (fun H locs hP hD hS => ?_)
      have hP : va_P (dC, dI) vwCl [(h0, .inr (8, [.int s0_1_terms, .ref h0_1, .ref h0_2, .int s0_1_triples, .ref h0_3, .int s0_1_patterns, .ref h0_4, .ref h0_5, .int s0_1_found, .ref h0_6, .int s0_1_kept, .int s0_1_keptVariables, .ref h0_7, .int x0_2])), (h0_1, .inl (cI, 100, .inl s0_1_number)), (h0_2, .inl (cI, 40, .inl s0_1_term)), (h0_3, .inl (cI, 180, .inl s0_1_store)), (h0_4, .inl (cI, 9, .inl (upd (upd s0_1_query (((3 : Int32) * s0_1_patterns)).toNatClampNeg v1) ((((3 : Int32) * s0_1_patterns) + (1 : Int32))).toNatClampNeg v2))), (h0_5, .inl (cI, 16, .inl s0_1_bound)), (h0_6, .inl (cI, 2000, .inl s0_1_work)), (h0_7, .inl (cI, 2000, .inl s0_1_answers))] _ := hP
      have hD : va_D A [(h0, .inr (8, [.int s0_1_terms, .ref h0_1, .ref h0_2, .int s0_1_triples, .ref h0_3, .int s0_1_patterns, .ref h0_4, .ref h0_5, .int s0_1_found, .ref h0_6, .int s0_1_kept, .int s0_1_keptVariables, .ref h0_7, .int x0_2])), (h0_1, .inl (cI, 100, .inl s0_1_number)), (h0_2, .inl (cI, 40, .inl s0_1_term)), (h0_3, .inl (cI, 180, .inl s0_1_store)), (h0_4, .inl (cI, 9, .inl (upd (upd s0_1_query (((3 : Int32) * s0_1_patterns)).toNatClampNeg v1) ((((3 : Int32) * s0_1_patterns) + (1 : Int32))).toNatClampNeg v2))), (h0_5, .inl (cI, 16, .inl s0_1_bound)), (h0_6, .inl (cI, 2000, .inl s0_1_work)), (h0_7, .inl (cI, 2000, .inl s0_1_answers))] := hD
      refine lv_aload_n hx hb dX8_addPattern_67 rfl (lv_at hl 0 rfl) ?_
      refine va_get (D := (dC, dI)) (ci := 8) (v := .ref h0_4) (C := RX8) (T := TX8) (N := 14) hx hb hts (hinX8) hown hK hP 0 rfl rfl 6 (by decide) (hts (.fieldLink RX8 19 "TripleJoinsModel" "query" "[I") (by decide +kernel)) (fun _ h9 => h9) rfl dX8_addPattern_68 ?_
      refine lv_iconst (v := (3 : Int32)) hx hb dX8_addPattern_71 (by decide) ?_
      refine lv_aload_n hx hb dX8_addPattern_72 rfl (lv_at hl 0 rfl) ?_
      refine va_get (D := (dC, dI)) (ci := 8) (v := .int s0_1_patterns) (C := RX8) (T := TX8) (N := 14) hx hb hts (hinX8) hown hK hP 0 rfl rfl 5 (by decide) (hts (.fieldLink RX8 67 "TripleJoinsModel" "patterns" "I") (by decide +kernel)) (fun _ h9 => h9) rfl dX8_addPattern_73 ?_
      refine lv_imul hx hb dX8_addPattern_76 ?_
      refine lv_iconst (v := (2 : Int32)) hx hb dX8_addPattern_77 (by decide) ?_
      refine lv_iadd hx hb dX8_addPattern_78 ?_
      refine lv_iload_n hx hb dX8_addPattern_79 rfl (lv_at hl 3 rfl) ?_
      obtain ⟨hin, h⟩ := h
      refine va_iast (n := 9) hx hb hK hP hD hS 4 0 rfl rfl hin dX8_addPattern_80 (fun H locs hP hD hS => ?_)
      have hP : va_P (dC, dI) vwCl [(h0, .inr (8, [.int s0_1_terms, .ref h0_1, .ref h0_2, .int s0_1_triples, .ref h0_3, .int s0_1_patterns, .ref h0_4, .ref h0_5, .int s0_1_found, .ref h0_6, .int s0_1_kept, .int s0_1_keptVariables, .ref h0_7, .int x0_2])), (h0_1, .inl (cI, 100, .inl s0_1_number)), (h0_2, .inl (cI, 40, .inl s0_1_term)), (h0_3, .inl (cI, 180, .inl s0_1_store)), (h0_4, .inl (cI, 9, .inl (upd (upd (upd s0_1_query (((3 : Int32) * s0_1_patterns)).toNatClampNeg v1) ((((3 : Int32) * s0_1_patterns) + (1 : Int32))).toNatClampNeg v2) ((((3 : Int32) * s0_1_patterns) + (2 : Int32))).toNatClampNeg v3))), (h0_5, .inl (cI, 16, .inl s0_1_bound)), (h0_6, .inl (cI, 2000, .inl s0_1_work)), (h0_7, .inl (cI, 2000, .inl s0_1_answers))] _ := hP
      have hD : va_D A [(h0, .inr (8, [.int s0_1_terms, .ref h0_1, .ref h0_2, .int s0_1_triples, .ref h0_3, .int s0_1_patterns, .ref h0_4, .ref h0_5, .int s0_1_found, .ref h0_6, .int s0_1_kept, .int s0_1_keptVariables, .ref h0_7, .int x0_2])), (h0_1, .inl (cI, 100, .inl s0_1_number)), (h0_2, .inl (cI, 40, .inl s0_1_term)), (h0_3, .inl (cI, 180, .inl s0_1_store)), (h0_4, .inl (cI, 9, .inl (upd (upd (upd s0_1_query (((3 : Int32) * s0_1_patterns)).toNatClampNeg v1) ((((3 : Int32) * s0_1_patterns) + (1 : Int32))).toNatClampNeg v2) ((((3 : Int32) * s0_1_patterns) + (2 : Int32))).toNatClampNeg v3))), (h0_5, .inl (cI, 16, .inl s0_1_bound)), (h0_6, .inl (cI, 2000, .inl s0_1_work)), (h0_7, .inl (cI, 2000, .inl s0_1_answers))] := hD
      refine lv_aload_n hx hb dX8_addPattern_81 rfl (lv_at hl 0 rfl) ?_
      refine lv_dup hx hb dX8_addPattern_82 rfl ?_
      refine va_get (D := (dC, dI)) (ci := 8) (v := .int s0_1_patterns) (C := RX8) (T := TX8) (N := 14) hx hb hts (hinX8) hown hK hP 0 rfl rfl 5 (by decide) (hts (.fieldLink RX8 67 "TripleJoinsModel" "patterns" "I") (by decide +kernel)) (fun _ h9 => h9) rfl dX8_addPattern_83 ?_
      refine lv_iconst (v := (1 : Int32)) hx hb dX8_addPattern_86 (by decide) ?_
      refine lv_iadd hx hb dX8_addPattern_87 ?_
      refine va_put (D := (dC, dI)) (ci := 8) (v := .int (s0_1_patterns + (1 : Int32))) (ty := .int) (C := RX8) (T := TX8) (N := 14) hx hb hts (hinX8) tyX8 tyX8_ok nmX8 hown hK hP hD hS 0 rfl rfl 5 (by decide) (hts (.fieldLink RX8 67 "TripleJoinsModel" "patterns" "I") (by decide +kernel)) (fun _ h9 => h9) rfl (by decide +kernel) rfl rfl (Nat.le_of_ble_eq_true rfl) dX8_addPattern_88 (fun H locs hP hD hS => ?_)
      have hP : va_P (dC, dI) vwCl [(h0, .inr (8, [.int s0_1_terms, .ref h0_1, .ref h0_2, .int s0_1_triples, .ref h0_3, .int (s0_1_patterns + (1 : Int32)), .ref h0_4, .ref h0_5, .int s0_1_found, .ref h0_6, .int s0_1_kept, .int s0_1_keptVariables, .ref h0_7, .int x0_2])), (h0_1, .inl (cI, 100, .inl s0_1_number)), (h0_2, .inl (cI, 40, .inl s0_1_term)), (h0_3, .inl (cI, 180, .inl s0_1_store)), (h0_4, .inl (cI, 9, .inl (upd (upd (upd s0_1_query (((3 : Int32) * s0_1_patterns)).toNatClampNeg v1) ((((3 : Int32) * s0_1_patterns) + (1 : Int32))).toNatClampNeg v2) ((((3 : Int32) * s0_1_patterns) + (2 : Int32))).toNatClampNeg v3))), (h0_5, .inl (cI, 16, .inl s0_1_bound)), (h0_6, .inl (cI, 2000, .inl s0_1_work)), (h0_7, .inl (cI, 2000, .inl s0_1_answers))] _ := hP
      have hD : va_D A [(h0, .inr (8, [.int s0_1_terms, .ref h0_1, .ref h0_2, .int s0_1_triples, .ref h0_3, .int (s0_1_patterns + (1 : Int32)), .ref h0_4, .ref h0_5, .int s0_1_found, .ref h0_6, .int s0_1_kept, .int s0_1_keptVariables, .ref h0_7, .int x0_2])), (h0_1, .inl (cI, 100, .inl s0_1_number)), (h0_2, .inl (cI, 40, .inl s0_1_term)), (h0_3, .inl (cI, 180, .inl s0_1_store)), (h0_4, .inl (cI, 9, .inl (upd (upd (upd s0_1_query (((3 : Int32) * s0_1_patterns)).toNatClampNeg v1) ((((3 : Int32) * s0_1_patterns) + (1 : Int32))).toNatClampNeg v2) ((((3 : Int32) * s0_1_patterns) + (2 : Int32))).toNatClampNeg v3))), (h0_5, .inl (cI, 16, .inl s0_1_bound)), (h0_6, .inl (cI, 2000, .inl s0_1_work)), (h0_7, .inl (cI, 2000, .inl s0_1_answers))] := hD
      refine lv_aload_n hx hb dX8_addPattern_91 rfl (lv_at hl 0 rfl) ?_
      refine va_get (D := (dC, dI)) (ci := 8) (v := .int (s0_1_patterns + (1 : Int32))) (C := RX8) (T := TX8) (N := 14) hx hb hts (hinX8) hown hK hP 0 rfl rfl 5 (by decide) (hts (.fieldLink RX8 67 "TripleJoinsModel" "patterns" "I") (by decide +kernel)) (fun _ h9 => h9) rfl dX8_addPattern_92 ?_
      refine lv_iconst (v := (1 : Int32)) hx hb dX8_addPattern_95 (by decide) ?_
      refine lv_isub hx hb dX8_addPattern_96 ?_
      exact W.iret (v := ((s0_1_patterns + (1 : Int32)) - (1 : Int32))) hx hb hr (fun t ht hW => ⟨⟨((s0_1_patterns + (1 : Int32)) - (1 : Int32)), (s0_1_terms, s0_1_number, s0_1_term, s0_1_triples, s0_1_store, (s0_1_patterns + (1 : Int32)), (upd (upd (upd s0_1_query (((3 : Int32) * s0_1_patterns)).toNatClampNeg v1) ((((3 : Int32) * s0_1_patterns) + (1 : Int32))).toNatClampNeg v2) ((((3 : Int32) * s0_1_patterns) + (2 : Int32))).toNatClampNeg v3), s0_1_bound, s0_1_found, s0_1_work, s0_1_kept, s0_1_keptVariables, s0_1_answers, x0_2), rfl, h, ⟨by rw [ht]; exact hP, hD⟩⟩, hS.F ht⟩) hS.2.2 dX8_addPattern_97
    · have h := hf_ c_3
      refine lv_iconst (v := (0 : Int32)) hx hb dX8_addPattern_39 (by decide) ?_
      exact W.iret (v := (0 : Int32)) hx hb hr (fun t ht hW => ⟨⟨(0 : Int32), (s0_1_terms, s0_1_number, s0_1_term, s0_1_triples, s0_1_store, s0_1_patterns, s0_1_query, s0_1_bound, s0_1_found, s0_1_work, s0_1_kept, s0_1_keptVariables, s0_1_answers, x0_2), rfl, h, ⟨by rw [ht]; exact hP, hD⟩⟩, hS.F ht⟩) hS.2.2 dX8_addPattern_40
  refine lv_aload_n hx hb dX8_addPattern_0 rfl (lv_at hl 0 rfl) ?_
  refine lv_iload_n hx hb dX8_addPattern_1 rfl (lv_at hl 1 rfl) ?_
  refine lv_iload_n hx hb dX8_addPattern_2 rfl (lv_at hl 2 rfl) ?_
  refine lv_iload_n hx hb dX8_addPattern_3 rfl (lv_at hl 3 rfl) ?_
  refine lv_bipush (v := (-4 : Int32)) hx hb dX8_addPattern_4 (by decide) ?_
  have hPc := hP.sub (ws' := []) [] rfl
  have hDc := hD.sub (ws' := []) [] (by decide) rfl
  have hFc := fr0 hA hS
  refine va_calli (va_runS (As := [.int v1, .int v2, .int v3, .int (-4 : Int32)]) (rest := [.ref h0]) ⟨hx, hb, hml, hown, hts⟩ (c_X8_areTerms l dC dI cI  _ v1 v2 v3 (-4 : Int32) _ h) (va_cwS 4 hts gX8_addPattern_X8_areTerms rfl rfl rfl (by decide +kernel) ⟨Nat.le_of_ble_eq_true rfl, Nat.le_of_ble_eq_true rfl⟩) (pb_S hPc hK hDc hN) rfl rfl hl.1 rfl (lv_room (Nat.le_of_ble_eq_true rfl)) dX8_addPattern_6 ⟨Nat.zero_le _, Nat.zero_le _⟩) hS (fun q _ h => hFc q h) hFc (fun r_5 u_4 t H locs ht hvm h hB hz1 hk1 hS => ?_)
  have hP := vaPk hP hk1
  obtain ⟨ht_, hf_⟩ := h
  refine lv_if_ne (tgt := 16) hx hb dX8_addPattern_9 (by decide) (fun c_6 => ?_) (fun c_6 => ?_)
  · have h := ht_ c_6
    refine lv_aload_n hx hb dX8_addPattern_16 rfl (lv_at hl 0 rfl) ?_
    refine va_get (D := (dC, dI)) (ci := 8) (v := .int s0_patterns) (C := RX8) (T := TX8) (N := 14) hx hb hts (hinX8) hown hK hP 0 rfl rfl 5 (by decide) (hts (.fieldLink RX8 67 "TripleJoinsModel" "patterns" "I") (by decide +kernel)) (fun _ h9 => h9) rfl dX8_addPattern_17 ?_
    refine lv_iconst (v := (3 : Int32)) hx hb dX8_addPattern_20 (by decide) ?_
    obtain ⟨ht_, hf_⟩ := h
    refine lv_icmp_ne (tgt := 28) hx hb dX8_addPattern_21 (by decide) (fun c_7 => ?_) (fun c_7 => ?_)
    · have h := ht_ c_7
      refine lv_iconst (v := (0 : Int32)) hx hb dX8_addPattern_28 (by decide) ?_
      exact lab_29 s0_terms s0_number s0_term s0_triples s0_store s0_patterns s0_query s0_bound s0_found s0_work s0_kept s0_keptVariables s0_answers s0_thrown (0 : Int32) h _ _ hP hD hS _ hl
    · have h := hf_ c_7
      refine lv_iconst (v := (2 : Int32)) hx hb dX8_addPattern_24 (by decide) ?_
      refine lv_goto (tgt := 29) hx hb dX8_addPattern_25 (by decide) ?_
      exact lab_29 s0_terms s0_number s0_term s0_triples s0_store s0_patterns s0_query s0_bound s0_found s0_work s0_kept s0_keptVariables s0_answers s0_thrown (2 : Int32) h _ _ hP hD hS _ hl
  · have h := hf_ c_6
    refine lv_iconst (v := (1 : Int32)) hx hb dX8_addPattern_12 (by decide) ?_
    refine lv_goto (tgt := 29) hx hb dX8_addPattern_13 (by decide) ?_
    exact lab_29 s0_terms s0_number s0_term s0_triples s0_store s0_patterns s0_query s0_bound s0_found s0_work s0_kept s0_keptVariables s0_answers s0_thrown (1 : Int32) h _ _ hP hD hS _ hl
abbrev Q_X8_patterns (dC : Nat → ClassId) (dI : Nat → Nat → Nat) (cI : ClassId) (h0 h0_1 h0_2 h0_3 h0_4 h0_5 h0_6 h0_7 : Nat) (s0 : ModS) (A : Nat → Prop) (post : Int32 → ModS → Prop) : Array Value → State → Outcome → State → Prop := va_Qi post (fun (u : ModS) (t : State) => va_P (dC, dI) vwCl [(h0, .inr (8, [.int u.terms, .ref h0_1, .ref h0_2, .int u.triples, .ref h0_3, .int u.patterns, .ref h0_4, .ref h0_5, .int u.found, .ref h0_6, .int u.kept, .int u.keptVariables, .ref h0_7, .int u.thrown])), (h0_1, .inl (cI, 100, .inl u.number)), (h0_2, .inl (cI, 40, .inl u.term)), (h0_3, .inl (cI, 180, .inl u.store)), (h0_4, .inl (cI, 9, .inl u.query)), (h0_5, .inl (cI, 16, .inl u.bound)), (h0_6, .inl (cI, 2000, .inl u.work)), (h0_7, .inl (cI, 2000, .inl u.answers))] t.heap ∧ va_D A [(h0, .inr (8, [.int u.terms, .ref h0_1, .ref h0_2, .int u.triples, .ref h0_3, .int u.patterns, .ref h0_4, .ref h0_5, .int u.found, .ref h0_6, .int u.kept, .int u.keptVariables, .ref h0_7, .int u.thrown])), (h0_1, .inl (cI, 100, .inl u.number)), (h0_2, .inl (cI, 40, .inl u.term)), (h0_3, .inl (cI, 180, .inl u.store)), (h0_4, .inl (cI, 9, .inl u.query)), (h0_5, .inl (cI, 16, .inl u.bound)), (h0_6, .inl (cI, 2000, .inl u.work)), (h0_7, .inl (cI, 2000, .inl u.answers))]) A
abbrev rm_X8_patterns : Room := { frames := 0, cells := 0, slots := 0, locals := 0 }
set_option maxHeartbeats 4000000 in
set_option maxRecDepth 100000 in
theorem c_X8_patterns (l : Launch) (dC : Nat → ClassId) (dI : Nat → Nat → Nat) (cI : ClassId) (h0 h0_1 h0_2 h0_3 h0_4 h0_5 h0_6 h0_7 : Nat) (sz : Nat) (s0 : ModS) (post : Int32 → ModS → Prop) (h : P_X8_patterns s0 post) : Met l yX8_patterns wsX8_patterns rm_X8_patterns (va_Pc [.ref h0] (cpre (dC, dI) [(cI, .int)] [(h0, .inr (8, [.int s0.terms, .ref h0_1, .ref h0_2, .int s0.triples, .ref h0_3, .int s0.patterns, .ref h0_4, .ref h0_5, .int s0.found, .ref h0_6, .int s0.kept, .int s0.keptVariables, .ref h0_7, .int s0.thrown])), (h0_1, .inl (cI, 100, .inl s0.number)), (h0_2, .inl (cI, 40, .inl s0.term)), (h0_3, .inl (cI, 180, .inl s0.store)), (h0_4, .inl (cI, 9, .inl s0.query)), (h0_5, .inl (cI, 16, .inl s0.bound)), (h0_6, .inl (cI, 2000, .inl s0.work)), (h0_7, .inl (cI, 2000, .inl s0.answers))] sz)) (Q_X8_patterns dC dI cI h0 h0_1 h0_2 h0_3 h0_4 h0_5 h0_6 h0_7 s0 (va_A [(h0, .inr (8, [.int s0.terms, .ref h0_1, .ref h0_2, .int s0.triples, .ref h0_3, .int s0.patterns, .ref h0_4, .ref h0_5, .int s0.found, .ref h0_6, .int s0.kept, .int s0.keptVariables, .ref h0_7, .int s0.thrown])), (h0_1, .inl (cI, 100, .inl s0.number)), (h0_2, .inl (cI, 40, .inl s0.term)), (h0_3, .inl (cI, 180, .inl s0.store)), (h0_4, .inl (cI, 9, .inl s0.query)), (h0_5, .inl (cI, 16, .inl s0.bound)), (h0_6, .inl (cI, 2000, .inl s0.work)), (h0_7, .inl (cI, 2000, .inl s0.answers))] sz) post) 0 0 (va_A [(h0, .inr (8, [.int s0.terms, .ref h0_1, .ref h0_2, .int s0.triples, .ref h0_3, .int s0.patterns, .ref h0_4, .ref h0_5, .int s0.found, .ref h0_6, .int s0.kept, .int s0.keptVariables, .ref h0_7, .int s0.thrown])), (h0_1, .inl (cI, 100, .inl s0.number)), (h0_2, .inl (cI, 40, .inl s0.term)), (h0_3, .inl (cI, 180, .inl s0.store)), (h0_4, .inl (cI, 9, .inl s0.query)), (h0_5, .inl (cI, 16, .inl s0.bound)), (h0_6, .inl (cI, 2000, .inl s0.work)), (h0_7, .inl (cI, 2000, .inl s0.answers))] sz) := by
  refine Met.ofW (cc := cX8_patterns) (maxL := 1) (ret := (some .int)) (by decide) rfl ?_
  intro p e s m args below meth c s₁ B hml hv
  obtain ⟨rfl, hsz, hP, hK, hD0, hN⟩ := hv
  have hx := B.exec
  have hb := B.bytes
  have hr := B.returns
  have hts := atoms_spec (ws := wsX8_patterns) B.pre
  have hown : s.vm.findClass RX8 = some m.cls := findClass_of_methodNamed B.named
  have hlocks := B.notSynchronized
  subst hsz
  have hD := hD0.self (sz := s.heap.size)
  generalize hAe : va_A [(h0, .inr (8, [.int s0.terms, .ref h0_1, .ref h0_2, .int s0.triples, .ref h0_3, .int s0.patterns, .ref h0_4, .ref h0_5, .int s0.found, .ref h0_6, .int s0.kept, .int s0.keptVariables, .ref h0_7, .int s0.thrown])), (h0_1, .inl (cI, 100, .inl s0.number)), (h0_2, .inl (cI, 40, .inl s0.term)), (h0_3, .inl (cI, 180, .inl s0.store)), (h0_4, .inl (cI, 9, .inl s0.query)), (h0_5, .inl (cI, 16, .inl s0.bound)), (h0_6, .inl (cI, 2000, .inl s0.work)), (h0_7, .inl (cI, 2000, .inl s0.answers))] s.heap.size = A at hD ⊢
  have hA : ∀ q : Nat, s.heap.size ≤ q → A q := fun q h => by rw [← hAe]; exact Or.inr h
  clear hAe hD0
  obtain ⟨s0_terms, s0_number, s0_term, s0_triples, s0_store, s0_patterns, s0_query, s0_bound, s0_found, s0_work, s0_kept, s0_keptVariables, s0_answers, s0_thrown⟩ := s0
  have hS : va_S A s.heap s.heap [] := va_S.rf
  have hP : va_P (dC, dI) vwCl [(h0, .inr (8, [.int s0_terms, .ref h0_1, .ref h0_2, .int s0_triples, .ref h0_3, .int s0_patterns, .ref h0_4, .ref h0_5, .int s0_found, .ref h0_6, .int s0_kept, .int s0_keptVariables, .ref h0_7, .int s0_thrown])), (h0_1, .inl (cI, 100, .inl s0_number)), (h0_2, .inl (cI, 40, .inl s0_term)), (h0_3, .inl (cI, 180, .inl s0_store)), (h0_4, .inl (cI, 9, .inl s0_query)), (h0_5, .inl (cI, 16, .inl s0_bound)), (h0_6, .inl (cI, 2000, .inl s0_work)), (h0_7, .inl (cI, 2000, .inl s0_answers))] s.heap := hP
  have hD : va_D A [(h0, .inr (8, [.int s0_terms, .ref h0_1, .ref h0_2, .int s0_triples, .ref h0_3, .int s0_patterns, .ref h0_4, .ref h0_5, .int s0_found, .ref h0_6, .int s0_kept, .int s0_keptVariables, .ref h0_7, .int s0_thrown])), (h0_1, .inl (cI, 100, .inl s0_number)), (h0_2, .inl (cI, 40, .inl s0_term)), (h0_3, .inl (cI, 180, .inl s0_store)), (h0_4, .inl (cI, 9, .inl s0_query)), (h0_5, .inl (cI, 16, .inl s0_bound)), (h0_6, .inl (cI, 2000, .inl s0_work)), (h0_7, .inl (cI, 2000, .inl s0_answers))] := hD
  have hl := lv_entry ([.ref h0]) (n := 1) (Nat.le_of_ble_eq_true rfl)
  rw [lg_entry_eq]
  generalize (lg_sl ([.ref h0]) ++ List.replicate (1 - (lg_sl ([.ref h0])).length) Slot.unset).toArray = ls at hl ⊢
  have hl : lv_has ls 1 [(0, .ref h0)] := hl
  have hinX8 : ∀ w ∈ u_ws RX8 TX8 14, w ∈ wsX8_patterns := by decide +kernel
  refine lv_aload_n hx hb dX8_patterns_0 rfl (lv_at hl 0 rfl) ?_
  refine lv_iconst (v := (0 : Int32)) hx hb dX8_patterns_1 (by decide) ?_
  refine va_put (D := (dC, dI)) (ci := 8) (v := .int (0 : Int32)) (ty := .int) (C := RX8) (T := TX8) (N := 14) hx hb hts (hinX8) tyX8 tyX8_ok nmX8 hown hK hP hD hS 0 rfl rfl 13 (by decide) (hts (.fieldLink RX8 31 "TripleJoinsModel" "thrown" "I") (by decide +kernel)) (fun _ h9 => h9) rfl (by decide +kernel) rfl rfl (Nat.le_of_ble_eq_true rfl) dX8_patterns_2 (fun H locs hP hD hS => ?_)
  have hP : va_P (dC, dI) vwCl [(h0, .inr (8, [.int s0_terms, .ref h0_1, .ref h0_2, .int s0_triples, .ref h0_3, .int s0_patterns, .ref h0_4, .ref h0_5, .int s0_found, .ref h0_6, .int s0_kept, .int s0_keptVariables, .ref h0_7, .int (0 : Int32)])), (h0_1, .inl (cI, 100, .inl s0_number)), (h0_2, .inl (cI, 40, .inl s0_term)), (h0_3, .inl (cI, 180, .inl s0_store)), (h0_4, .inl (cI, 9, .inl s0_query)), (h0_5, .inl (cI, 16, .inl s0_bound)), (h0_6, .inl (cI, 2000, .inl s0_work)), (h0_7, .inl (cI, 2000, .inl s0_answers))] _ := hP
  have hD : va_D A [(h0, .inr (8, [.int s0_terms, .ref h0_1, .ref h0_2, .int s0_triples, .ref h0_3, .int s0_patterns, .ref h0_4, .ref h0_5, .int s0_found, .ref h0_6, .int s0_kept, .int s0_keptVariables, .ref h0_7, .int (0 : Int32)])), (h0_1, .inl (cI, 100, .inl s0_number)), (h0_2, .inl (cI, 40, .inl s0_term)), (h0_3, .inl (cI, 180, .inl s0_store)), (h0_4, .inl (cI, 9, .inl s0_query)), (h0_5, .inl (cI, 16, .inl s0_bound)), (h0_6, .inl (cI, 2000, .inl s0_work)), (h0_7, .inl (cI, 2000, .inl s0_answers))] := hD
  refine lv_aload_n hx hb dX8_patterns_5 rfl (lv_at hl 0 rfl) ?_
  refine va_get (D := (dC, dI)) (ci := 8) (v := .int s0_patterns) (C := RX8) (T := TX8) (N := 14) hx hb hts (hinX8) hown hK hP 0 rfl rfl 5 (by decide) (hts (.fieldLink RX8 67 "TripleJoinsModel" "patterns" "I") (by decide +kernel)) (fun _ h9 => h9) rfl dX8_patterns_6 ?_
  exact W.iret (v := s0_patterns) hx hb hr (fun t ht hW => ⟨⟨s0_patterns, (s0_terms, s0_number, s0_term, s0_triples, s0_store, s0_patterns, s0_query, s0_bound, s0_found, s0_work, s0_kept, s0_keptVariables, s0_answers, (0 : Int32)), rfl, h, ⟨by rw [ht]; exact hP, hD⟩⟩, hS.F ht⟩) hS.2.2 dX8_patterns_9
abbrev Q_X8_tries (dC : Nat → ClassId) (dI : Nat → Nat → Nat) (cI : ClassId) (h0 h0_1 h0_2 h0_3 h0_4 h0_5 h0_6 h0_7 : Nat) (s0 : ModS) (A : Nat → Prop) (post : Int32 → ModS → Prop) : Array Value → State → Outcome → State → Prop := va_Qi post (fun (u : ModS) (t : State) => va_P (dC, dI) vwCl [(h0, .inr (8, [.int u.terms, .ref h0_1, .ref h0_2, .int u.triples, .ref h0_3, .int u.patterns, .ref h0_4, .ref h0_5, .int u.found, .ref h0_6, .int u.kept, .int u.keptVariables, .ref h0_7, .int u.thrown])), (h0_1, .inl (cI, 100, .inl u.number)), (h0_2, .inl (cI, 40, .inl u.term)), (h0_3, .inl (cI, 180, .inl u.store)), (h0_4, .inl (cI, 9, .inl u.query)), (h0_5, .inl (cI, 16, .inl u.bound)), (h0_6, .inl (cI, 2000, .inl u.work)), (h0_7, .inl (cI, 2000, .inl u.answers))] t.heap ∧ va_D A [(h0, .inr (8, [.int u.terms, .ref h0_1, .ref h0_2, .int u.triples, .ref h0_3, .int u.patterns, .ref h0_4, .ref h0_5, .int u.found, .ref h0_6, .int u.kept, .int u.keptVariables, .ref h0_7, .int u.thrown])), (h0_1, .inl (cI, 100, .inl u.number)), (h0_2, .inl (cI, 40, .inl u.term)), (h0_3, .inl (cI, 180, .inl u.store)), (h0_4, .inl (cI, 9, .inl u.query)), (h0_5, .inl (cI, 16, .inl u.bound)), (h0_6, .inl (cI, 2000, .inl u.work)), (h0_7, .inl (cI, 2000, .inl u.answers))]) A
abbrev rm_X8_tries : Room := { frames := 0, cells := 0, slots := 0, locals := 0 }
set_option maxHeartbeats 4000000 in
set_option maxRecDepth 100000 in
theorem c_X8_tries (l : Launch) (dC : Nat → ClassId) (dI : Nat → Nat → Nat) (cI : ClassId) (h0 h0_1 h0_2 h0_3 h0_4 h0_5 h0_6 h0_7 : Nat) (sz : Nat) (s0 : ModS) (v1 : Int32) (v2 : Int32) (v3 : Int32) (post : Int32 → ModS → Prop) (h : P_X8_tries s0 v1 v2 v3 post) : Met l yX8_tries wsX8_tries rm_X8_tries (va_Pc [.ref h0, .int v1, .int v2, .int v3] (cpre (dC, dI) [(cI, .int)] [(h0, .inr (8, [.int s0.terms, .ref h0_1, .ref h0_2, .int s0.triples, .ref h0_3, .int s0.patterns, .ref h0_4, .ref h0_5, .int s0.found, .ref h0_6, .int s0.kept, .int s0.keptVariables, .ref h0_7, .int s0.thrown])), (h0_1, .inl (cI, 100, .inl s0.number)), (h0_2, .inl (cI, 40, .inl s0.term)), (h0_3, .inl (cI, 180, .inl s0.store)), (h0_4, .inl (cI, 9, .inl s0.query)), (h0_5, .inl (cI, 16, .inl s0.bound)), (h0_6, .inl (cI, 2000, .inl s0.work)), (h0_7, .inl (cI, 2000, .inl s0.answers))] sz)) (Q_X8_tries dC dI cI h0 h0_1 h0_2 h0_3 h0_4 h0_5 h0_6 h0_7 s0 (va_A [(h0, .inr (8, [.int s0.terms, .ref h0_1, .ref h0_2, .int s0.triples, .ref h0_3, .int s0.patterns, .ref h0_4, .ref h0_5, .int s0.found, .ref h0_6, .int s0.kept, .int s0.keptVariables, .ref h0_7, .int s0.thrown])), (h0_1, .inl (cI, 100, .inl s0.number)), (h0_2, .inl (cI, 40, .inl s0.term)), (h0_3, .inl (cI, 180, .inl s0.store)), (h0_4, .inl (cI, 9, .inl s0.query)), (h0_5, .inl (cI, 16, .inl s0.bound)), (h0_6, .inl (cI, 2000, .inl s0.work)), (h0_7, .inl (cI, 2000, .inl s0.answers))] sz) post) 0 0 (va_A [(h0, .inr (8, [.int s0.terms, .ref h0_1, .ref h0_2, .int s0.triples, .ref h0_3, .int s0.patterns, .ref h0_4, .ref h0_5, .int s0.found, .ref h0_6, .int s0.kept, .int s0.keptVariables, .ref h0_7, .int s0.thrown])), (h0_1, .inl (cI, 100, .inl s0.number)), (h0_2, .inl (cI, 40, .inl s0.term)), (h0_3, .inl (cI, 180, .inl s0.store)), (h0_4, .inl (cI, 9, .inl s0.query)), (h0_5, .inl (cI, 16, .inl s0.bound)), (h0_6, .inl (cI, 2000, .inl s0.work)), (h0_7, .inl (cI, 2000, .inl s0.answers))] sz) := by
  refine Met.ofW (cc := cX8_tries) (maxL := 9) (ret := (some .boolean)) (by decide) rfl ?_
  intro p e s m args below meth c s₁ B hml hv
  obtain ⟨rfl, hsz, hP, hK, hD0, hN⟩ := hv
  have hx := B.exec
  have hb := B.bytes
  have hr := B.returns
  have hts := atoms_spec (ws := wsX8_tries) B.pre
  have hown : s.vm.findClass RX8 = some m.cls := findClass_of_methodNamed B.named
  have hlocks := B.notSynchronized
  subst hsz
  have hD := hD0.self (sz := s.heap.size)
  generalize hAe : va_A [(h0, .inr (8, [.int s0.terms, .ref h0_1, .ref h0_2, .int s0.triples, .ref h0_3, .int s0.patterns, .ref h0_4, .ref h0_5, .int s0.found, .ref h0_6, .int s0.kept, .int s0.keptVariables, .ref h0_7, .int s0.thrown])), (h0_1, .inl (cI, 100, .inl s0.number)), (h0_2, .inl (cI, 40, .inl s0.term)), (h0_3, .inl (cI, 180, .inl s0.store)), (h0_4, .inl (cI, 9, .inl s0.query)), (h0_5, .inl (cI, 16, .inl s0.bound)), (h0_6, .inl (cI, 2000, .inl s0.work)), (h0_7, .inl (cI, 2000, .inl s0.answers))] s.heap.size = A at hD ⊢
  have hA : ∀ q : Nat, s.heap.size ≤ q → A q := fun q h => by rw [← hAe]; exact Or.inr h
  clear hAe hD0
  obtain ⟨s0_terms, s0_number, s0_term, s0_triples, s0_store, s0_patterns, s0_query, s0_bound, s0_found, s0_work, s0_kept, s0_keptVariables, s0_answers, s0_thrown⟩ := s0
  have hS : va_S A s.heap s.heap [] := va_S.rf
  have hP : va_P (dC, dI) vwCl [(h0, .inr (8, [.int s0_terms, .ref h0_1, .ref h0_2, .int s0_triples, .ref h0_3, .int s0_patterns, .ref h0_4, .ref h0_5, .int s0_found, .ref h0_6, .int s0_kept, .int s0_keptVariables, .ref h0_7, .int s0_thrown])), (h0_1, .inl (cI, 100, .inl s0_number)), (h0_2, .inl (cI, 40, .inl s0_term)), (h0_3, .inl (cI, 180, .inl s0_store)), (h0_4, .inl (cI, 9, .inl s0_query)), (h0_5, .inl (cI, 16, .inl s0_bound)), (h0_6, .inl (cI, 2000, .inl s0_work)), (h0_7, .inl (cI, 2000, .inl s0_answers))] s.heap := hP
  have hD : va_D A [(h0, .inr (8, [.int s0_terms, .ref h0_1, .ref h0_2, .int s0_triples, .ref h0_3, .int s0_patterns, .ref h0_4, .ref h0_5, .int s0_found, .ref h0_6, .int s0_kept, .int s0_keptVariables, .ref h0_7, .int s0_thrown])), (h0_1, .inl (cI, 100, .inl s0_number)), (h0_2, .inl (cI, 40, .inl s0_term)), (h0_3, .inl (cI, 180, .inl s0_store)), (h0_4, .inl (cI, 9, .inl s0_query)), (h0_5, .inl (cI, 16, .inl s0_bound)), (h0_6, .inl (cI, 2000, .inl s0_work)), (h0_7, .inl (cI, 2000, .inl s0_answers))] := hD
  have hl := lv_entry ([.ref h0, .int v1, .int v2, .int v3]) (n := 9) (Nat.le_of_ble_eq_true rfl)
  rw [lg_entry_eq]
  generalize (lg_sl ([.ref h0, .int v1, .int v2, .int v3]) ++ List.replicate (9 - (lg_sl ([.ref h0, .int v1, .int v2, .int v3])).length) Slot.unset).toArray = ls at hl ⊢
  have hl : lv_has ls 9 [(0, .ref h0), (1, .int v1), (2, .int v2), (3, .int v3)] := hl
  have hinX8 : ∀ w ∈ u_ws RX8 TX8 14, w ∈ wsX8_tries := by decide +kernel
  refine lv_iconst (v := (0 : Int32)) hx hb dX8_tries_0 (by decide) ?_
  refine lv_istore (lv' := [(4, .int (0 : Int32)), (0, .ref h0), (1, .int v1), (2, .int v2), (3, .int v3)]) hx hb dX8_tries_1 hl (by decide) rfl (fun ls hl => ?_)
  have hl : lv_has ls 9 [(0, .ref h0), (1, .int v1), (2, .int v2), (3, .int v3), (4, .int (0 : Int32))] := lv_sub hl [1, 2, 3, 4, 0] rfl
  obtain ⟨I_1, hI_1, n_1, h⟩ := h
  have loop_1 : ∀ (n_1 : Nat) (v4_2 : Int32) (s0_3_terms : Int32) (s0_3_number : Nat → Int32) (s0_3_term : Nat → Int32) (s0_3_triples : Int32) (s0_3_store : Nat → Int32) (s0_3_patterns : Int32) (s0_3_query : Nat → Int32) (s0_3_bound : Nat → Int32) (s0_3_found : Int32) (s0_3_work : Nat → Int32) (s0_3_kept : Int32) (s0_3_keptVariables : Int32) (s0_3_answers : Nat → Int32) (s0_3_thrown : Int32) (h : I_1 n_1 (v4_2, (s0_3_terms, s0_3_number, s0_3_term, s0_3_triples, s0_3_store, s0_3_patterns, s0_3_query, s0_3_bound, s0_3_found, s0_3_work, s0_3_kept, s0_3_keptVariables, s0_3_answers, s0_3_thrown))) (H : Heap) (locs : List Loc) (hP : va_P (dC, dI) vwCl [(h0, .inr (8, [.int s0_3_terms, .ref h0_1, .ref h0_2, .int s0_3_triples, .ref h0_3, .int s0_3_patterns, .ref h0_4, .ref h0_5, .int s0_3_found, .ref h0_6, .int s0_3_kept, .int s0_3_keptVariables, .ref h0_7, .int s0_3_thrown])), (h0_1, .inl (cI, 100, .inl s0_3_number)), (h0_2, .inl (cI, 40, .inl s0_3_term)), (h0_3, .inl (cI, 180, .inl s0_3_store)), (h0_4, .inl (cI, 9, .inl s0_3_query)), (h0_5, .inl (cI, 16, .inl s0_3_bound)), (h0_6, .inl (cI, 2000, .inl s0_3_work)), (h0_7, .inl (cI, 2000, .inl s0_3_answers))] H) (hD : va_D A [(h0, .inr (8, [.int s0_3_terms, .ref h0_1, .ref h0_2, .int s0_3_triples, .ref h0_3, .int s0_3_patterns, .ref h0_4, .ref h0_5, .int s0_3_found, .ref h0_6, .int s0_3_kept, .int s0_3_keptVariables, .ref h0_7, .int s0_3_thrown])), (h0_1, .inl (cI, 100, .inl s0_3_number)), (h0_2, .inl (cI, 40, .inl s0_3_term)), (h0_3, .inl (cI, 180, .inl s0_3_store)), (h0_4, .inl (cI, 9, .inl s0_3_query)), (h0_5, .inl (cI, 16, .inl s0_3_bound)), (h0_6, .inl (cI, 2000, .inl s0_3_work)), (h0_7, .inl (cI, 2000, .inl s0_3_answers))]) (hS : va_S A s.heap H locs) (ls : Array Slot) (hl : lv_has ls 9 [(0, .ref h0), (1, .int v1), (2, .int v2), (3, .int v3), (4, .int v4_2)]), W p l e rm_X8_tries s m ([.ref h0, .int v1, .int v2, .int v3] : List Value).toArray below meth c H locs 0 0 (MQ below (Q_X8_tries dC dI cI h0 h0_1 h0_2 h0_3 h0_4 h0_5 h0_6 h0_7 (s0_terms, s0_number, s0_term, s0_triples, s0_store, s0_patterns, s0_query, s0_bound, s0_found, s0_work, s0_kept, s0_keptVariables, s0_answers, s0_thrown) A post) (([.ref h0, .int v1, .int v2, .int v3] : List Value).toArray) s 0 0 A) (F0 m 3 ls []) := by
    intro n_1
    induction n_1 using Nat.strongRecOn with
    | ind n_1 ih_1 =>
      intro v4_2 s0_3_terms s0_3_number s0_3_term s0_3_triples s0_3_store s0_3_patterns s0_3_query s0_3_bound s0_3_found s0_3_work s0_3_kept s0_3_keptVariables s0_3_answers s0_3_thrown h H locs hP hD hS ls hl
      have h := hI_1 n_1 _ h
      refine lv_iload hx hb dX8_tries_3 (lv_at hl 4 rfl) ?_
      refine lv_iconst (v := (4 : Int32)) hx hb dX8_tries_5 (by decide) ?_
      obtain ⟨ht_, hf_⟩ := h
      refine lv_icmp_ge (tgt := 39) hx hb dX8_tries_6 (by decide) (fun c_4 => ?_) (fun c_4 => ?_)
      · have h := ht_ c_4
        refine lv_iconst (v := (1 : Int32)) hx hb dX8_tries_39 (by decide) ?_
        refine lv_istore (lv' := [(4, .int (1 : Int32)), (0, .ref h0), (1, .int v1), (2, .int v2), (3, .int v3)]) hx hb dX8_tries_40 hl (by decide) rfl (fun ls hl => ?_)
        refine lv_iconst (v := (0 : Int32)) hx hb dX8_tries_42 (by decide) ?_
        refine lv_istore (lv' := [(5, .int (0 : Int32)), (4, .int (1 : Int32)), (0, .ref h0), (1, .int v1), (2, .int v2), (3, .int v3)]) hx hb dX8_tries_43 hl (by decide) rfl (fun ls hl => ?_)
        have hl : lv_has ls 9 [(0, .ref h0), (1, .int v1), (2, .int v2), (3, .int v3), (4, .int (1 : Int32)), (5, .int (0 : Int32))] := lv_sub hl [2, 3, 4, 5, 1, 0] rfl
        obtain ⟨I_5, hI_5, n_5, h⟩ := h
        have loop_5 : ∀ (n_5 : Nat) (v4_6 : Int32) (v5_7 : Int32) (s0_8_terms : Int32) (s0_8_number : Nat → Int32) (s0_8_term : Nat → Int32) (s0_8_triples : Int32) (s0_8_store : Nat → Int32) (s0_8_patterns : Int32) (s0_8_query : Nat → Int32) (s0_8_bound : Nat → Int32) (s0_8_found : Int32) (s0_8_work : Nat → Int32) (s0_8_kept : Int32) (s0_8_keptVariables : Int32) (s0_8_answers : Nat → Int32) (s0_8_thrown : Int32) (h : I_5 n_5 (v4_6, v5_7, (s0_8_terms, s0_8_number, s0_8_term, s0_8_triples, s0_8_store, s0_8_patterns, s0_8_query, s0_8_bound, s0_8_found, s0_8_work, s0_8_kept, s0_8_keptVariables, s0_8_answers, s0_8_thrown))) (H : Heap) (locs : List Loc) (hP : va_P (dC, dI) vwCl [(h0, .inr (8, [.int s0_8_terms, .ref h0_1, .ref h0_2, .int s0_8_triples, .ref h0_3, .int s0_8_patterns, .ref h0_4, .ref h0_5, .int s0_8_found, .ref h0_6, .int s0_8_kept, .int s0_8_keptVariables, .ref h0_7, .int s0_8_thrown])), (h0_1, .inl (cI, 100, .inl s0_8_number)), (h0_2, .inl (cI, 40, .inl s0_8_term)), (h0_3, .inl (cI, 180, .inl s0_8_store)), (h0_4, .inl (cI, 9, .inl s0_8_query)), (h0_5, .inl (cI, 16, .inl s0_8_bound)), (h0_6, .inl (cI, 2000, .inl s0_8_work)), (h0_7, .inl (cI, 2000, .inl s0_8_answers))] H) (hD : va_D A [(h0, .inr (8, [.int s0_8_terms, .ref h0_1, .ref h0_2, .int s0_8_triples, .ref h0_3, .int s0_8_patterns, .ref h0_4, .ref h0_5, .int s0_8_found, .ref h0_6, .int s0_8_kept, .int s0_8_keptVariables, .ref h0_7, .int s0_8_thrown])), (h0_1, .inl (cI, 100, .inl s0_8_number)), (h0_2, .inl (cI, 40, .inl s0_8_term)), (h0_3, .inl (cI, 180, .inl s0_8_store)), (h0_4, .inl (cI, 9, .inl s0_8_query)), (h0_5, .inl (cI, 16, .inl s0_8_bound)), (h0_6, .inl (cI, 2000, .inl s0_8_work)), (h0_7, .inl (cI, 2000, .inl s0_8_answers))]) (hS : va_S A s.heap H locs) (ls : Array Slot) (hl : lv_has ls 9 [(0, .ref h0), (1, .int v1), (2, .int v2), (3, .int v3), (4, .int v4_6), (5, .int v5_7)]), W p l e rm_X8_tries s m ([.ref h0, .int v1, .int v2, .int v3] : List Value).toArray below meth c H locs 0 0 (MQ below (Q_X8_tries dC dI cI h0 h0_1 h0_2 h0_3 h0_4 h0_5 h0_6 h0_7 (s0_terms, s0_number, s0_term, s0_triples, s0_store, s0_patterns, s0_query, s0_bound, s0_found, s0_work, s0_kept, s0_keptVariables, s0_answers, s0_thrown) A post) (([.ref h0, .int v1, .int v2, .int v3] : List Value).toArray) s 0 0 A) (F0 m 45 ls []) := by
          intro n_5
          induction n_5 using Nat.strongRecOn with
          | ind n_5 ih_5 =>
            intro v4_6 v5_7 s0_8_terms s0_8_number s0_8_term s0_8_triples s0_8_store s0_8_patterns s0_8_query s0_8_bound s0_8_found s0_8_work s0_8_kept s0_8_keptVariables s0_8_answers s0_8_thrown h H locs hP hD hS ls hl
            have h := hI_5 n_5 _ h
            have lab_148 : ∀ (s0_9_terms : Int32) (s0_9_number : Nat → Int32) (s0_9_term : Nat → Int32) (s0_9_triples : Int32) (s0_9_store : Nat → Int32) (s0_9_patterns : Int32) (s0_9_query : Nat → Int32) (s0_9_bound : Nat → Int32) (s0_9_found : Int32) (s0_9_work : Nat → Int32) (s0_9_kept : Int32) (s0_9_keptVariables : Int32) (s0_9_answers : Nat → Int32) (s0_9_thrown : Int32) (v5_10 : Int32) (v7_11 : Int32) (v8_12 : Int32) (x0_13 : Int32) (x1_14 : Int32) (h : P_X8_tries_j148 (s0_9_terms, s0_9_number, s0_9_term, s0_9_triples, s0_9_store, s0_9_patterns, s0_9_query, s0_9_bound, s0_9_found, s0_9_work, s0_9_kept, s0_9_keptVariables, s0_9_answers, s0_9_thrown) v1 v2 v3 v5_10 v7_11 v8_12 x0_13 x1_14 (fun w => ∃ k, k < n_5 ∧ I_5 k w) post) (H : Heap) (locs : List Loc) (hP : va_P (dC, dI) vwCl [(h0, .inr (8, [.int s0_9_terms, .ref h0_1, .ref h0_2, .int s0_9_triples, .ref h0_3, .int s0_9_patterns, .ref h0_4, .ref h0_5, .int s0_9_found, .ref h0_6, .int s0_9_kept, .int s0_9_keptVariables, .ref h0_7, .int s0_9_thrown])), (h0_1, .inl (cI, 100, .inl s0_9_number)), (h0_2, .inl (cI, 40, .inl s0_9_term)), (h0_3, .inl (cI, 180, .inl s0_9_store)), (h0_4, .inl (cI, 9, .inl s0_9_query)), (h0_5, .inl (cI, 16, .inl s0_9_bound)), (h0_6, .inl (cI, 2000, .inl s0_9_work)), (h0_7, .inl (cI, 2000, .inl s0_9_answers))] H) (hD : va_D A [(h0, .inr (8, [.int s0_9_terms, .ref h0_1, .ref h0_2, .int s0_9_triples, .ref h0_3, .int s0_9_patterns, .ref h0_4, .ref h0_5, .int s0_9_found, .ref h0_6, .int s0_9_kept, .int s0_9_keptVariables, .ref h0_7, .int s0_9_thrown])), (h0_1, .inl (cI, 100, .inl s0_9_number)), (h0_2, .inl (cI, 40, .inl s0_9_term)), (h0_3, .inl (cI, 180, .inl s0_9_store)), (h0_4, .inl (cI, 9, .inl s0_9_query)), (h0_5, .inl (cI, 16, .inl s0_9_bound)), (h0_6, .inl (cI, 2000, .inl s0_9_work)), (h0_7, .inl (cI, 2000, .inl s0_9_answers))]) (hS : va_S A s.heap H locs) (ls : Array Slot) (hl : lv_has ls 9 [(0, .ref h0), (1, .int v1), (2, .int v2), (3, .int v3), (5, .int v5_10), (7, .int v7_11), (8, .int v8_12)]), W p l e rm_X8_tries s m ([.ref h0, .int v1, .int v2, .int v3] : List Value).toArray below meth c H locs 0 0 (MQ below (Q_X8_tries dC dI cI h0 h0_1 h0_2 h0_3 h0_4 h0_5 h0_6 h0_7 (s0_terms, s0_number, s0_term, s0_triples, s0_store, s0_patterns, s0_query, s0_bound, s0_found, s0_work, s0_kept, s0_keptVariables, s0_answers, s0_thrown) A post) (([.ref h0, .int v1, .int v2, .int v3] : List Value).toArray) s 0 0 A) (F0 m 148 ls [.int x0_13, .int x1_14]) := by
              intro s0_9_terms s0_9_number s0_9_term s0_9_triples s0_9_store s0_9_patterns s0_9_query s0_9_bound s0_9_found s0_9_work s0_9_kept s0_9_keptVariables s0_9_answers s0_9_thrown v5_10 v7_11 v8_12 x0_13 x1_14 h H locs hP hD hS ls hl
              refine lv_iand hx hb dX8_tries_148 ?_
              refine lv_istore (lv' := [(4, .int (x1_14 &&& x0_13)), (0, .ref h0), (1, .int v1), (2, .int v2), (3, .int v3), (5, .int v5_10), (7, .int v7_11), (8, .int v8_12)]) hx hb dX8_tries_149 hl (by decide) rfl (fun ls hl => ?_)
              refine lv_aload_n hx hb dX8_tries_151 rfl (lv_at hl 1 rfl) ?_
              refine va_get (D := (dC, dI)) (ci := 8) (v := .ref h0_5) (C := RX8) (T := TX8) (N := 14) hx hb hts (hinX8) hown hK hP 0 rfl rfl 7 (by decide) (hts (.fieldLink RX8 22 "TripleJoinsModel" "bound" "[I") (by decide +kernel)) (fun _ h9 => h9) rfl dX8_tries_152 ?_
              refine lv_iload hx hb dX8_tries_155 (lv_at hl 7 rfl) ?_
              refine lv_iload hx hb dX8_tries_157 (lv_at hl 6 rfl) ?_
              obtain ⟨hin, h⟩ := h
              refine va_iast (n := 16) hx hb hK hP hD hS 5 0 rfl rfl hin dX8_tries_159 (fun H locs hP hD hS => ?_)
              have hP : va_P (dC, dI) vwCl [(h0, .inr (8, [.int s0_9_terms, .ref h0_1, .ref h0_2, .int s0_9_triples, .ref h0_3, .int s0_9_patterns, .ref h0_4, .ref h0_5, .int s0_9_found, .ref h0_6, .int s0_9_kept, .int s0_9_keptVariables, .ref h0_7, .int s0_9_thrown])), (h0_1, .inl (cI, 100, .inl s0_9_number)), (h0_2, .inl (cI, 40, .inl s0_9_term)), (h0_3, .inl (cI, 180, .inl s0_9_store)), (h0_4, .inl (cI, 9, .inl s0_9_query)), (h0_5, .inl (cI, 16, .inl (upd s0_9_bound (v8_12).toNatClampNeg v7_11))), (h0_6, .inl (cI, 2000, .inl s0_9_work)), (h0_7, .inl (cI, 2000, .inl s0_9_answers))] _ := hP
              have hD : va_D A [(h0, .inr (8, [.int s0_9_terms, .ref h0_1, .ref h0_2, .int s0_9_triples, .ref h0_3, .int s0_9_patterns, .ref h0_4, .ref h0_5, .int s0_9_found, .ref h0_6, .int s0_9_kept, .int s0_9_keptVariables, .ref h0_7, .int s0_9_thrown])), (h0_1, .inl (cI, 100, .inl s0_9_number)), (h0_2, .inl (cI, 40, .inl s0_9_term)), (h0_3, .inl (cI, 180, .inl s0_9_store)), (h0_4, .inl (cI, 9, .inl s0_9_query)), (h0_5, .inl (cI, 16, .inl (upd s0_9_bound (v8_12).toNatClampNeg v7_11))), (h0_6, .inl (cI, 2000, .inl s0_9_work)), (h0_7, .inl (cI, 2000, .inl s0_9_answers))] := hD
              refine lv_iinc (v := (v5_10 + (1 : Int32))) (lv' := [(5, .int (v5_10 + (1 : Int32))), (4, .int (x1_14 &&& x0_13)), (0, .ref h0), (1, .int v1), (2, .int v2), (3, .int v3), (7, .int v7_11), (8, .int v8_12)]) hx hb dX8_tries_160 hl (k := 5) rfl rfl (by decide) rfl (fun ls hl => ?_)
              refine lv_goto (tgt := 45) hx hb dX8_tries_163 (by decide) ?_
              have hl : lv_has ls 9 [(0, .ref h0), (1, .int v1), (2, .int v2), (3, .int v3), (4, .int (x1_14 &&& x0_13)), (5, .int (v5_10 + (1 : Int32)))] := lv_sub hl [2, 3, 4, 5, 1, 0] rfl
              obtain ⟨k_15, hk_16, h⟩ := h
              exact ih_5 k_15 hk_16 (x1_14 &&& x0_13) (v5_10 + (1 : Int32)) s0_9_terms s0_9_number s0_9_term s0_9_triples s0_9_store s0_9_patterns s0_9_query (upd s0_9_bound (v8_12).toNatClampNeg v7_11) s0_9_found s0_9_work s0_9_kept s0_9_keptVariables s0_9_answers s0_9_thrown h _ _ hP hD hS _ hl
            have lab_143 : ∀ (s0_17_terms : Int32) (s0_17_number : Nat → Int32) (s0_17_term : Nat → Int32) (s0_17_triples : Int32) (s0_17_store : Nat → Int32) (s0_17_patterns : Int32) (s0_17_query : Nat → Int32) (s0_17_bound : Nat → Int32) (s0_17_found : Int32) (s0_17_work : Nat → Int32) (s0_17_kept : Int32) (s0_17_keptVariables : Int32) (s0_17_answers : Nat → Int32) (s0_17_thrown : Int32) (v5_18 : Int32) (v7_19 : Int32) (v8_20 : Int32) (x0_21 : Int32) (h : P_X8_tries_j143 (s0_17_terms, s0_17_number, s0_17_term, s0_17_triples, s0_17_store, s0_17_patterns, s0_17_query, s0_17_bound, s0_17_found, s0_17_work, s0_17_kept, s0_17_keptVariables, s0_17_answers, s0_17_thrown) v1 v2 v3 v5_18 v7_19 v8_20 x0_21 (fun w => ∃ k, k < n_5 ∧ I_5 k w) post) (H : Heap) (locs : List Loc) (hP : va_P (dC, dI) vwCl [(h0, .inr (8, [.int s0_17_terms, .ref h0_1, .ref h0_2, .int s0_17_triples, .ref h0_3, .int s0_17_patterns, .ref h0_4, .ref h0_5, .int s0_17_found, .ref h0_6, .int s0_17_kept, .int s0_17_keptVariables, .ref h0_7, .int s0_17_thrown])), (h0_1, .inl (cI, 100, .inl s0_17_number)), (h0_2, .inl (cI, 40, .inl s0_17_term)), (h0_3, .inl (cI, 180, .inl s0_17_store)), (h0_4, .inl (cI, 9, .inl s0_17_query)), (h0_5, .inl (cI, 16, .inl s0_17_bound)), (h0_6, .inl (cI, 2000, .inl s0_17_work)), (h0_7, .inl (cI, 2000, .inl s0_17_answers))] H) (hD : va_D A [(h0, .inr (8, [.int s0_17_terms, .ref h0_1, .ref h0_2, .int s0_17_triples, .ref h0_3, .int s0_17_patterns, .ref h0_4, .ref h0_5, .int s0_17_found, .ref h0_6, .int s0_17_kept, .int s0_17_keptVariables, .ref h0_7, .int s0_17_thrown])), (h0_1, .inl (cI, 100, .inl s0_17_number)), (h0_2, .inl (cI, 40, .inl s0_17_term)), (h0_3, .inl (cI, 180, .inl s0_17_store)), (h0_4, .inl (cI, 9, .inl s0_17_query)), (h0_5, .inl (cI, 16, .inl s0_17_bound)), (h0_6, .inl (cI, 2000, .inl s0_17_work)), (h0_7, .inl (cI, 2000, .inl s0_17_answers))]) (hS : va_S A s.heap H locs) (ls : Array Slot) (hl : lv_has ls 9 [(0, .ref h0), (1, .int v1), (2, .int v2), (3, .int v3), (5, .int v5_18), (7, .int v7_19), (8, .int v8_20)]), W p l e rm_X8_tries s m ([.ref h0, .int v1, .int v2, .int v3] : List Value).toArray below meth c H locs 0 0 (MQ below (Q_X8_tries dC dI cI h0 h0_1 h0_2 h0_3 h0_4 h0_5 h0_6 h0_7 (s0_terms, s0_number, s0_term, s0_triples, s0_store, s0_patterns, s0_query, s0_bound, s0_found, s0_work, s0_kept, s0_keptVariables, s0_answers, s0_thrown) A post) (([.ref h0, .int v1, .int v2, .int v3] : List Value).toArray) s 0 0 A) (F0 m 143 ls [.int x0_21]) := by
              intro s0_17_terms s0_17_number s0_17_term s0_17_triples s0_17_store s0_17_patterns s0_17_query s0_17_bound s0_17_found s0_17_work s0_17_kept s0_17_keptVariables s0_17_answers s0_17_thrown v5_18 v7_19 v8_20 x0_21 h H locs hP hD hS ls hl
              refine lv_iconst (v := (1 : Int32)) hx hb dX8_tries_143 (by decide) ?_
              refine lv_goto (tgt := 148) hx hb dX8_tries_144 (by decide) ?_
              exact lab_148 s0_17_terms s0_17_number s0_17_term s0_17_triples s0_17_store s0_17_patterns s0_17_query s0_17_bound s0_17_found s0_17_work s0_17_kept s0_17_keptVariables s0_17_answers s0_17_thrown v5_18 v7_19 v8_20 (1 : Int32) x0_21 h _ _ hP hD hS _ hl
            refine lv_iload hx hb dX8_tries_45 (lv_at hl 5 rfl) ?_
            refine lv_iconst (v := (3 : Int32)) hx hb dX8_tries_47 (by decide) ?_
            obtain ⟨ht_, hf_⟩ := h
            refine lv_icmp_ge (tgt := 166) hx hb dX8_tries_48 (by decide) (fun c_22 => ?_) (fun c_22 => ?_)
            · have h := ht_ c_22
              refine lv_iload hx hb dX8_tries_166 (lv_at hl 4 rfl) ?_
              obtain ⟨hbo, h⟩ := h
              exact W.zret (v := v4_6) hx hb hr hbo (fun t ht hW => ⟨⟨v4_6, (s0_8_terms, s0_8_number, s0_8_term, s0_8_triples, s0_8_store, s0_8_patterns, s0_8_query, s0_8_bound, s0_8_found, s0_8_work, s0_8_kept, s0_8_keptVariables, s0_8_answers, s0_8_thrown), rfl, h, ⟨by rw [ht]; exact hP, hD⟩⟩, hS.F ht⟩) hS.2.2 dX8_tries_168
            · have h := hf_ c_22
              refine lv_aload_n hx hb dX8_tries_51 rfl (lv_at hl 0 rfl) ?_
              refine va_get (D := (dC, dI)) (ci := 8) (v := .ref h0_4) (C := RX8) (T := TX8) (N := 14) hx hb hts (hinX8) hown hK hP 0 rfl rfl 6 (by decide) (hts (.fieldLink RX8 19 "TripleJoinsModel" "query" "[I") (by decide +kernel)) (fun _ h9 => h9) rfl dX8_tries_52 ?_
              refine lv_iconst (v := (3 : Int32)) hx hb dX8_tries_55 (by decide) ?_
              refine lv_iload_n hx hb dX8_tries_56 rfl (lv_at hl 2 rfl) ?_
              refine lv_imul hx hb dX8_tries_57 ?_
              refine lv_iload hx hb dX8_tries_58 (lv_at hl 5 rfl) ?_
              refine lv_iadd hx hb dX8_tries_60 ?_
              obtain ⟨hin, h⟩ := h
              refine va_iald (n := 9) hx hb hK hP 4 0 rfl rfl hin dX8_tries_61 ?_
              refine lv_istore (lv' := [(6, .int (s0_8_query ((((3 : Int32) * v2) + v5_7)).toNatClampNeg)), (0, .ref h0), (1, .int v1), (2, .int v2), (3, .int v3), (4, .int v4_6), (5, .int v5_7)]) hx hb dX8_tries_62 hl (by decide) rfl (fun ls hl => ?_)
              refine lv_aload_n hx hb dX8_tries_64 rfl (lv_at hl 1 rfl) ?_
              refine va_get (D := (dC, dI)) (ci := 8) (v := .ref h0_3) (C := RX8) (T := TX8) (N := 14) hx hb hts (hinX8) hown hK hP 0 rfl rfl 4 (by decide) (hts (.fieldLink RX8 16 "TripleJoinsModel" "store" "[I") (by decide +kernel)) (fun _ h9 => h9) rfl dX8_tries_65 ?_
              refine lv_iconst (v := (3 : Int32)) hx hb dX8_tries_68 (by decide) ?_
              refine lv_iload_n hx hb dX8_tries_69 rfl (lv_at hl 4 rfl) ?_
              refine lv_imul hx hb dX8_tries_70 ?_
              refine lv_iload hx hb dX8_tries_71 (lv_at hl 6 rfl) ?_
              refine lv_iadd hx hb dX8_tries_73 ?_
              obtain ⟨hin, h⟩ := h
              refine va_iald (n := 180) hx hb hK hP 3 0 rfl rfl hin dX8_tries_74 ?_
              refine lv_istore (lv' := [(7, .int (s0_8_store ((((3 : Int32) * v3) + v5_7)).toNatClampNeg)), (6, .int (s0_8_query ((((3 : Int32) * v2) + v5_7)).toNatClampNeg)), (0, .ref h0), (1, .int v1), (2, .int v2), (3, .int v3), (4, .int v4_6), (5, .int v5_7)]) hx hb dX8_tries_75 hl (by decide) rfl (fun ls hl => ?_)
              refine lv_iload hx hb dX8_tries_77 (lv_at hl 1 rfl) ?_
              obtain ⟨ht_, hf_⟩ := h
              refine lv_if_lt (tgt := 107) hx hb dX8_tries_79 (by decide) (fun c_23 => ?_) (fun c_23 => ?_)
              · have h := ht_ c_23
                refine lv_iconst (v := (4 : Int32)) hx hb dX8_tries_107 (by decide) ?_
                refine lv_iload_n hx hb dX8_tries_108 rfl (lv_at hl 3 rfl) ?_
                refine lv_imul hx hb dX8_tries_109 ?_
                refine lv_iconst (v := (4 : Int32)) hx hb dX8_tries_110 (by decide) ?_
                refine lv_iadd hx hb dX8_tries_111 ?_
                refine lv_iconst (v := (1 : Int32)) hx hb dX8_tries_112 (by decide) ?_
                refine lv_isub hx hb dX8_tries_113 ?_
                refine lv_iload hx hb dX8_tries_114 (lv_at hl 1 rfl) ?_
                refine lv_isub hx hb dX8_tries_116 ?_
                refine lv_istore (lv' := [(8, .int (((((4 : Int32) * v1) + (4 : Int32)) - (1 : Int32)) - (s0_8_query ((((3 : Int32) * v2) + v5_7)).toNatClampNeg))), (7, .int (s0_8_store ((((3 : Int32) * v3) + v5_7)).toNatClampNeg)), (6, .int (s0_8_query ((((3 : Int32) * v2) + v5_7)).toNatClampNeg)), (0, .ref h0), (1, .int v1), (2, .int v2), (3, .int v3), (4, .int v4_6), (5, .int v5_7)]) hx hb dX8_tries_117 hl (by decide) rfl (fun ls hl => ?_)
                refine lv_iload hx hb dX8_tries_119 (lv_at hl 7 rfl) ?_
                refine lv_aload_n hx hb dX8_tries_121 rfl (lv_at hl 3 rfl) ?_
                refine va_get (D := (dC, dI)) (ci := 8) (v := .ref h0_5) (C := RX8) (T := TX8) (N := 14) hx hb hts (hinX8) hown hK hP 0 rfl rfl 7 (by decide) (hts (.fieldLink RX8 22 "TripleJoinsModel" "bound" "[I") (by decide +kernel)) (fun _ h9 => h9) rfl dX8_tries_122 ?_
                refine lv_iload hx hb dX8_tries_125 (lv_at hl 0 rfl) ?_
                obtain ⟨hin, h⟩ := h
                refine va_iald (n := 16) hx hb hK hP 5 0 rfl rfl hin dX8_tries_127 ?_
                obtain ⟨ht_, hf_⟩ := h
                refine lv_if_lt (tgt := 143) hx hb dX8_tries_128 (by decide) (fun c_24 => ?_) (fun c_24 => ?_)
                · have h := ht_ c_24
                  have hl : lv_has ls 9 [(0, .ref h0), (1, .int v1), (2, .int v2), (3, .int v3), (5, .int v5_7), (7, .int (s0_8_store ((((3 : Int32) * v3) + v5_7)).toNatClampNeg)), (8, .int (((((4 : Int32) * v1) + (4 : Int32)) - (1 : Int32)) - (s0_8_query ((((3 : Int32) * v2) + v5_7)).toNatClampNeg)))] := lv_sub hl [3, 4, 5, 6, 8, 1, 0] rfl
                  exact lab_143 s0_8_terms s0_8_number s0_8_term s0_8_triples s0_8_store s0_8_patterns s0_8_query s0_8_bound s0_8_found s0_8_work s0_8_kept s0_8_keptVariables s0_8_answers s0_8_thrown v5_7 (s0_8_store ((((3 : Int32) * v3) + v5_7)).toNatClampNeg) (((((4 : Int32) * v1) + (4 : Int32)) - (1 : Int32)) - (s0_8_query ((((3 : Int32) * v2) + v5_7)).toNatClampNeg)) v4_6 h _ _ hP hD hS _ hl
                · have h := hf_ c_24
                  refine lv_aload_n hx hb dX8_tries_131 rfl (lv_at hl 3 rfl) ?_
                  refine va_get (D := (dC, dI)) (ci := 8) (v := .ref h0_5) (C := RX8) (T := TX8) (N := 14) hx hb hts (hinX8) hown hK hP 0 rfl rfl 7 (by decide) (hts (.fieldLink RX8 22 "TripleJoinsModel" "bound" "[I") (by decide +kernel)) (fun _ h9 => h9) rfl dX8_tries_132 ?_
                  refine lv_iload hx hb dX8_tries_135 (lv_at hl 0 rfl) ?_
                  obtain ⟨hin, h⟩ := h
                  refine va_iald (n := 16) hx hb hK hP 5 0 rfl rfl hin dX8_tries_137 ?_
                  refine lv_iload hx hb dX8_tries_138 (lv_at hl 1 rfl) ?_
                  obtain ⟨ht_, hf_⟩ := h
                  refine lv_icmp_ne (tgt := 147) hx hb dX8_tries_140 (by decide) (fun c_25 => ?_) (fun c_25 => ?_)
                  · have h := ht_ c_25
                    refine lv_iconst (v := (0 : Int32)) hx hb dX8_tries_147 (by decide) ?_
                    have hl : lv_has ls 9 [(0, .ref h0), (1, .int v1), (2, .int v2), (3, .int v3), (5, .int v5_7), (7, .int (s0_8_store ((((3 : Int32) * v3) + v5_7)).toNatClampNeg)), (8, .int (((((4 : Int32) * v1) + (4 : Int32)) - (1 : Int32)) - (s0_8_query ((((3 : Int32) * v2) + v5_7)).toNatClampNeg)))] := lv_sub hl [3, 4, 5, 6, 8, 1, 0] rfl
                    exact lab_148 s0_8_terms s0_8_number s0_8_term s0_8_triples s0_8_store s0_8_patterns s0_8_query s0_8_bound s0_8_found s0_8_work s0_8_kept s0_8_keptVariables s0_8_answers s0_8_thrown v5_7 (s0_8_store ((((3 : Int32) * v3) + v5_7)).toNatClampNeg) (((((4 : Int32) * v1) + (4 : Int32)) - (1 : Int32)) - (s0_8_query ((((3 : Int32) * v2) + v5_7)).toNatClampNeg)) (0 : Int32) v4_6 h _ _ hP hD hS _ hl
                  · have h := hf_ c_25
                    have hl : lv_has ls 9 [(0, .ref h0), (1, .int v1), (2, .int v2), (3, .int v3), (5, .int v5_7), (7, .int (s0_8_store ((((3 : Int32) * v3) + v5_7)).toNatClampNeg)), (8, .int (((((4 : Int32) * v1) + (4 : Int32)) - (1 : Int32)) - (s0_8_query ((((3 : Int32) * v2) + v5_7)).toNatClampNeg)))] := lv_sub hl [3, 4, 5, 6, 8, 1, 0] rfl
                    exact lab_143 s0_8_terms s0_8_number s0_8_term s0_8_triples s0_8_store s0_8_patterns s0_8_query s0_8_bound s0_8_found s0_8_work s0_8_kept s0_8_keptVariables s0_8_answers s0_8_thrown v5_7 (s0_8_store ((((3 : Int32) * v3) + v5_7)).toNatClampNeg) (((((4 : Int32) * v1) + (4 : Int32)) - (1 : Int32)) - (s0_8_query ((((3 : Int32) * v2) + v5_7)).toNatClampNeg)) v4_6 h _ _ hP hD hS _ hl
              · have h := hf_ c_23
                refine lv_iload hx hb dX8_tries_82 (lv_at hl 6 rfl) ?_
                refine lv_aload_n hx hb dX8_tries_84 rfl (lv_at hl 2 rfl) ?_
                refine va_get (D := (dC, dI)) (ci := 8) (v := .ref h0_2) (C := RX8) (T := TX8) (N := 14) hx hb hts (hinX8) hown hK hP 0 rfl rfl 2 (by decide) (hts (.fieldLink RX8 13 "TripleJoinsModel" "term" "[I") (by decide +kernel)) (fun _ h9 => h9) rfl dX8_tries_85 ?_
                refine lv_iload hx hb dX8_tries_88 (lv_at hl 0 rfl) ?_
                obtain ⟨hin, h⟩ := h
                refine va_iald (n := 40) hx hb hK hP 2 0 rfl rfl hin dX8_tries_90 ?_
                refine lv_iload hx hb dX8_tries_91 (lv_at hl 1 rfl) ?_
                obtain ⟨ht_, hf_⟩ := h
                refine lv_icmp_ne (tgt := 100) hx hb dX8_tries_93 (by decide) (fun c_26 => ?_) (fun c_26 => ?_)
                · have h := ht_ c_26
                  refine lv_iconst (v := (0 : Int32)) hx hb dX8_tries_100 (by decide) ?_
                  refine lv_iand hx hb dX8_tries_101 ?_
                  refine lv_istore (lv' := [(4, .int (v4_6 &&& (0 : Int32))), (7, .int (s0_8_store ((((3 : Int32) * v3) + v5_7)).toNatClampNeg)), (6, .int (s0_8_query ((((3 : Int32) * v2) + v5_7)).toNatClampNeg)), (0, .ref h0), (1, .int v1), (2, .int v2), (3, .int v3), (5, .int v5_7)]) hx hb dX8_tries_102 hl (by decide) rfl (fun ls hl => ?_)
                  refine lv_goto (tgt := 160) hx hb dX8_tries_104 (by decide) ?_
                  refine lv_iinc (v := (v5_7 + (1 : Int32))) (lv' := [(5, .int (v5_7 + (1 : Int32))), (4, .int (v4_6 &&& (0 : Int32))), (7, .int (s0_8_store ((((3 : Int32) * v3) + v5_7)).toNatClampNeg)), (6, .int (s0_8_query ((((3 : Int32) * v2) + v5_7)).toNatClampNeg)), (0, .ref h0), (1, .int v1), (2, .int v2), (3, .int v3)]) hx hb dX8_tries_160 hl (k := 7) rfl rfl (by decide) rfl (fun ls hl => ?_)
                  refine lv_goto (tgt := 45) hx hb dX8_tries_163 (by decide) ?_
                  have hl : lv_has ls 9 [(0, .ref h0), (1, .int v1), (2, .int v2), (3, .int v3), (4, .int (v4_6 &&& (0 : Int32))), (5, .int (v5_7 + (1 : Int32)))] := lv_sub hl [4, 5, 6, 7, 1, 0] rfl
                  obtain ⟨k_27, hk_28, h⟩ := h
                  exact ih_5 k_27 hk_28 (v4_6 &&& (0 : Int32)) (v5_7 + (1 : Int32)) s0_8_terms s0_8_number s0_8_term s0_8_triples s0_8_store s0_8_patterns s0_8_query s0_8_bound s0_8_found s0_8_work s0_8_kept s0_8_keptVariables s0_8_answers s0_8_thrown h _ _ hP hD hS _ hl
                · have h := hf_ c_26
                  refine lv_iconst (v := (1 : Int32)) hx hb dX8_tries_96 (by decide) ?_
                  refine lv_goto (tgt := 101) hx hb dX8_tries_97 (by decide) ?_
                  refine lv_iand hx hb dX8_tries_101 ?_
                  refine lv_istore (lv' := [(4, .int (v4_6 &&& (1 : Int32))), (7, .int (s0_8_store ((((3 : Int32) * v3) + v5_7)).toNatClampNeg)), (6, .int (s0_8_query ((((3 : Int32) * v2) + v5_7)).toNatClampNeg)), (0, .ref h0), (1, .int v1), (2, .int v2), (3, .int v3), (5, .int v5_7)]) hx hb dX8_tries_102 hl (by decide) rfl (fun ls hl => ?_)
                  refine lv_goto (tgt := 160) hx hb dX8_tries_104 (by decide) ?_
                  refine lv_iinc (v := (v5_7 + (1 : Int32))) (lv' := [(5, .int (v5_7 + (1 : Int32))), (4, .int (v4_6 &&& (1 : Int32))), (7, .int (s0_8_store ((((3 : Int32) * v3) + v5_7)).toNatClampNeg)), (6, .int (s0_8_query ((((3 : Int32) * v2) + v5_7)).toNatClampNeg)), (0, .ref h0), (1, .int v1), (2, .int v2), (3, .int v3)]) hx hb dX8_tries_160 hl (k := 7) rfl rfl (by decide) rfl (fun ls hl => ?_)
                  refine lv_goto (tgt := 45) hx hb dX8_tries_163 (by decide) ?_
                  have hl : lv_has ls 9 [(0, .ref h0), (1, .int v1), (2, .int v2), (3, .int v3), (4, .int (v4_6 &&& (1 : Int32))), (5, .int (v5_7 + (1 : Int32)))] := lv_sub hl [4, 5, 6, 7, 1, 0] rfl
                  obtain ⟨k_29, hk_30, h⟩ := h
                  exact ih_5 k_29 hk_30 (v4_6 &&& (1 : Int32)) (v5_7 + (1 : Int32)) s0_8_terms s0_8_number s0_8_term s0_8_triples s0_8_store s0_8_patterns s0_8_query s0_8_bound s0_8_found s0_8_work s0_8_kept s0_8_keptVariables s0_8_answers s0_8_thrown h _ _ hP hD hS _ hl
        exact loop_5 n_5 (1 : Int32) (0 : Int32) s0_3_terms s0_3_number s0_3_term s0_3_triples s0_3_store s0_3_patterns s0_3_query s0_3_bound s0_3_found s0_3_work s0_3_kept s0_3_keptVariables s0_3_answers s0_3_thrown h _ _ hP hD hS _ hl
      · have h := hf_ c_4
        refine lv_aload_n hx hb dX8_tries_9 rfl (lv_at hl 0 rfl) ?_
        refine va_get (D := (dC, dI)) (ci := 8) (v := .ref h0_5) (C := RX8) (T := TX8) (N := 14) hx hb hts (hinX8) hown hK hP 0 rfl rfl 7 (by decide) (hts (.fieldLink RX8 22 "TripleJoinsModel" "bound" "[I") (by decide +kernel)) (fun _ h9 => h9) rfl dX8_tries_10 ?_
        refine lv_iconst (v := (4 : Int32)) hx hb dX8_tries_13 (by decide) ?_
        refine lv_iload_n hx hb dX8_tries_14 rfl (lv_at hl 1 rfl) ?_
        refine lv_imul hx hb dX8_tries_15 ?_
        refine lv_iconst (v := (4 : Int32)) hx hb dX8_tries_16 (by decide) ?_
        refine lv_iadd hx hb dX8_tries_17 ?_
        refine lv_iload hx hb dX8_tries_18 (lv_at hl 4 rfl) ?_
        refine lv_iadd hx hb dX8_tries_20 ?_
        refine lv_aload_n hx hb dX8_tries_21 rfl (lv_at hl 0 rfl) ?_
        refine va_get (D := (dC, dI)) (ci := 8) (v := .ref h0_5) (C := RX8) (T := TX8) (N := 14) hx hb hts (hinX8) hown hK hP 0 rfl rfl 7 (by decide) (hts (.fieldLink RX8 22 "TripleJoinsModel" "bound" "[I") (by decide +kernel)) (fun _ h9 => h9) rfl dX8_tries_22 ?_
        refine lv_iconst (v := (4 : Int32)) hx hb dX8_tries_25 (by decide) ?_
        refine lv_iload_n hx hb dX8_tries_26 rfl (lv_at hl 1 rfl) ?_
        refine lv_imul hx hb dX8_tries_27 ?_
        refine lv_iload hx hb dX8_tries_28 (lv_at hl 4 rfl) ?_
        refine lv_iadd hx hb dX8_tries_30 ?_
        obtain ⟨hin, h⟩ := h
        refine va_iald (n := 16) hx hb hK hP 5 0 rfl rfl hin dX8_tries_31 ?_
        obtain ⟨hin, h⟩ := h
        refine va_iast (n := 16) hx hb hK hP hD hS 5 0 rfl rfl hin dX8_tries_32 (fun H locs hP hD hS => ?_)
        have hP : va_P (dC, dI) vwCl [(h0, .inr (8, [.int s0_3_terms, .ref h0_1, .ref h0_2, .int s0_3_triples, .ref h0_3, .int s0_3_patterns, .ref h0_4, .ref h0_5, .int s0_3_found, .ref h0_6, .int s0_3_kept, .int s0_3_keptVariables, .ref h0_7, .int s0_3_thrown])), (h0_1, .inl (cI, 100, .inl s0_3_number)), (h0_2, .inl (cI, 40, .inl s0_3_term)), (h0_3, .inl (cI, 180, .inl s0_3_store)), (h0_4, .inl (cI, 9, .inl s0_3_query)), (h0_5, .inl (cI, 16, .inl (upd s0_3_bound (((((4 : Int32) * v1) + (4 : Int32)) + v4_2)).toNatClampNeg (s0_3_bound ((((4 : Int32) * v1) + v4_2)).toNatClampNeg)))), (h0_6, .inl (cI, 2000, .inl s0_3_work)), (h0_7, .inl (cI, 2000, .inl s0_3_answers))] _ := hP
        have hD : va_D A [(h0, .inr (8, [.int s0_3_terms, .ref h0_1, .ref h0_2, .int s0_3_triples, .ref h0_3, .int s0_3_patterns, .ref h0_4, .ref h0_5, .int s0_3_found, .ref h0_6, .int s0_3_kept, .int s0_3_keptVariables, .ref h0_7, .int s0_3_thrown])), (h0_1, .inl (cI, 100, .inl s0_3_number)), (h0_2, .inl (cI, 40, .inl s0_3_term)), (h0_3, .inl (cI, 180, .inl s0_3_store)), (h0_4, .inl (cI, 9, .inl s0_3_query)), (h0_5, .inl (cI, 16, .inl (upd s0_3_bound (((((4 : Int32) * v1) + (4 : Int32)) + v4_2)).toNatClampNeg (s0_3_bound ((((4 : Int32) * v1) + v4_2)).toNatClampNeg)))), (h0_6, .inl (cI, 2000, .inl s0_3_work)), (h0_7, .inl (cI, 2000, .inl s0_3_answers))] := hD
        refine lv_iinc (v := (v4_2 + (1 : Int32))) (lv' := [(4, .int (v4_2 + (1 : Int32))), (0, .ref h0), (1, .int v1), (2, .int v2), (3, .int v3)]) hx hb dX8_tries_33 hl (k := 4) rfl rfl (by decide) rfl (fun ls hl => ?_)
        refine lv_goto (tgt := 3) hx hb dX8_tries_36 (by decide) ?_
        have hl : lv_has ls 9 [(0, .ref h0), (1, .int v1), (2, .int v2), (3, .int v3), (4, .int (v4_2 + (1 : Int32)))] := lv_sub hl [1, 2, 3, 4, 0] rfl
        obtain ⟨k_31, hk_32, h⟩ := h
        exact ih_1 k_31 hk_32 (v4_2 + (1 : Int32)) s0_3_terms s0_3_number s0_3_term s0_3_triples s0_3_store s0_3_patterns s0_3_query (upd s0_3_bound (((((4 : Int32) * v1) + (4 : Int32)) + v4_2)).toNatClampNeg (s0_3_bound ((((4 : Int32) * v1) + v4_2)).toNatClampNeg)) s0_3_found s0_3_work s0_3_kept s0_3_keptVariables s0_3_answers s0_3_thrown h _ _ hP hD hS _ hl
  exact loop_1 n_1 (0 : Int32) s0_terms s0_number s0_term s0_triples s0_store s0_patterns s0_query s0_bound s0_found s0_work s0_kept s0_keptVariables s0_answers s0_thrown h _ _ hP hD hS _ hl
abbrev Q_X8_frees (dC : Nat → ClassId) (dI : Nat → Nat → Nat) (cI : ClassId) (h0 h0_1 h0_2 h0_3 h0_4 h0_5 h0_6 h0_7 : Nat) (s0 : ModS) (A : Nat → Prop) (post : ModS → Prop) : Array Value → State → Outcome → State → Prop := va_Qv post (fun (u : ModS) (t : State) => va_P (dC, dI) vwCl [(h0, .inr (8, [.int u.terms, .ref h0_1, .ref h0_2, .int u.triples, .ref h0_3, .int u.patterns, .ref h0_4, .ref h0_5, .int u.found, .ref h0_6, .int u.kept, .int u.keptVariables, .ref h0_7, .int u.thrown])), (h0_1, .inl (cI, 100, .inl u.number)), (h0_2, .inl (cI, 40, .inl u.term)), (h0_3, .inl (cI, 180, .inl u.store)), (h0_4, .inl (cI, 9, .inl u.query)), (h0_5, .inl (cI, 16, .inl u.bound)), (h0_6, .inl (cI, 2000, .inl u.work)), (h0_7, .inl (cI, 2000, .inl u.answers))] t.heap ∧ va_D A [(h0, .inr (8, [.int u.terms, .ref h0_1, .ref h0_2, .int u.triples, .ref h0_3, .int u.patterns, .ref h0_4, .ref h0_5, .int u.found, .ref h0_6, .int u.kept, .int u.keptVariables, .ref h0_7, .int u.thrown])), (h0_1, .inl (cI, 100, .inl u.number)), (h0_2, .inl (cI, 40, .inl u.term)), (h0_3, .inl (cI, 180, .inl u.store)), (h0_4, .inl (cI, 9, .inl u.query)), (h0_5, .inl (cI, 16, .inl u.bound)), (h0_6, .inl (cI, 2000, .inl u.work)), (h0_7, .inl (cI, 2000, .inl u.answers))]) A
abbrev rm_X8_frees : Room := { frames := 0, cells := 0, slots := 0, locals := 0 }
set_option maxHeartbeats 4000000 in
set_option maxRecDepth 100000 in
theorem c_X8_frees (l : Launch) (dC : Nat → ClassId) (dI : Nat → Nat → Nat) (cI : ClassId) (h0 h0_1 h0_2 h0_3 h0_4 h0_5 h0_6 h0_7 : Nat) (sz : Nat) (s0 : ModS) (post : ModS → Prop) (h : P_X8_frees s0 post) : Met l yX8_frees wsX8_frees rm_X8_frees (va_Pc [.ref h0] (cpre (dC, dI) [(cI, .int)] [(h0, .inr (8, [.int s0.terms, .ref h0_1, .ref h0_2, .int s0.triples, .ref h0_3, .int s0.patterns, .ref h0_4, .ref h0_5, .int s0.found, .ref h0_6, .int s0.kept, .int s0.keptVariables, .ref h0_7, .int s0.thrown])), (h0_1, .inl (cI, 100, .inl s0.number)), (h0_2, .inl (cI, 40, .inl s0.term)), (h0_3, .inl (cI, 180, .inl s0.store)), (h0_4, .inl (cI, 9, .inl s0.query)), (h0_5, .inl (cI, 16, .inl s0.bound)), (h0_6, .inl (cI, 2000, .inl s0.work)), (h0_7, .inl (cI, 2000, .inl s0.answers))] sz)) (Q_X8_frees dC dI cI h0 h0_1 h0_2 h0_3 h0_4 h0_5 h0_6 h0_7 s0 (va_A [(h0, .inr (8, [.int s0.terms, .ref h0_1, .ref h0_2, .int s0.triples, .ref h0_3, .int s0.patterns, .ref h0_4, .ref h0_5, .int s0.found, .ref h0_6, .int s0.kept, .int s0.keptVariables, .ref h0_7, .int s0.thrown])), (h0_1, .inl (cI, 100, .inl s0.number)), (h0_2, .inl (cI, 40, .inl s0.term)), (h0_3, .inl (cI, 180, .inl s0.store)), (h0_4, .inl (cI, 9, .inl s0.query)), (h0_5, .inl (cI, 16, .inl s0.bound)), (h0_6, .inl (cI, 2000, .inl s0.work)), (h0_7, .inl (cI, 2000, .inl s0.answers))] sz) post) 0 0 (va_A [(h0, .inr (8, [.int s0.terms, .ref h0_1, .ref h0_2, .int s0.triples, .ref h0_3, .int s0.patterns, .ref h0_4, .ref h0_5, .int s0.found, .ref h0_6, .int s0.kept, .int s0.keptVariables, .ref h0_7, .int s0.thrown])), (h0_1, .inl (cI, 100, .inl s0.number)), (h0_2, .inl (cI, 40, .inl s0.term)), (h0_3, .inl (cI, 180, .inl s0.store)), (h0_4, .inl (cI, 9, .inl s0.query)), (h0_5, .inl (cI, 16, .inl s0.bound)), (h0_6, .inl (cI, 2000, .inl s0.work)), (h0_7, .inl (cI, 2000, .inl s0.answers))] sz) := by
  refine Met.ofW (cc := cX8_frees) (maxL := 2) (ret := none) (by decide) rfl ?_
  intro p e s m args below meth c s₁ B hml hv
  obtain ⟨rfl, hsz, hP, hK, hD0, hN⟩ := hv
  have hx := B.exec
  have hb := B.bytes
  have hr := B.returns
  have hts := atoms_spec (ws := wsX8_frees) B.pre
  have hown : s.vm.findClass RX8 = some m.cls := findClass_of_methodNamed B.named
  have hlocks := B.notSynchronized
  subst hsz
  have hD := hD0.self (sz := s.heap.size)
  generalize hAe : va_A [(h0, .inr (8, [.int s0.terms, .ref h0_1, .ref h0_2, .int s0.triples, .ref h0_3, .int s0.patterns, .ref h0_4, .ref h0_5, .int s0.found, .ref h0_6, .int s0.kept, .int s0.keptVariables, .ref h0_7, .int s0.thrown])), (h0_1, .inl (cI, 100, .inl s0.number)), (h0_2, .inl (cI, 40, .inl s0.term)), (h0_3, .inl (cI, 180, .inl s0.store)), (h0_4, .inl (cI, 9, .inl s0.query)), (h0_5, .inl (cI, 16, .inl s0.bound)), (h0_6, .inl (cI, 2000, .inl s0.work)), (h0_7, .inl (cI, 2000, .inl s0.answers))] s.heap.size = A at hD ⊢
  have hA : ∀ q : Nat, s.heap.size ≤ q → A q := fun q h => by rw [← hAe]; exact Or.inr h
  clear hAe hD0
  obtain ⟨s0_terms, s0_number, s0_term, s0_triples, s0_store, s0_patterns, s0_query, s0_bound, s0_found, s0_work, s0_kept, s0_keptVariables, s0_answers, s0_thrown⟩ := s0
  have hS : va_S A s.heap s.heap [] := va_S.rf
  have hP : va_P (dC, dI) vwCl [(h0, .inr (8, [.int s0_terms, .ref h0_1, .ref h0_2, .int s0_triples, .ref h0_3, .int s0_patterns, .ref h0_4, .ref h0_5, .int s0_found, .ref h0_6, .int s0_kept, .int s0_keptVariables, .ref h0_7, .int s0_thrown])), (h0_1, .inl (cI, 100, .inl s0_number)), (h0_2, .inl (cI, 40, .inl s0_term)), (h0_3, .inl (cI, 180, .inl s0_store)), (h0_4, .inl (cI, 9, .inl s0_query)), (h0_5, .inl (cI, 16, .inl s0_bound)), (h0_6, .inl (cI, 2000, .inl s0_work)), (h0_7, .inl (cI, 2000, .inl s0_answers))] s.heap := hP
  have hD : va_D A [(h0, .inr (8, [.int s0_terms, .ref h0_1, .ref h0_2, .int s0_triples, .ref h0_3, .int s0_patterns, .ref h0_4, .ref h0_5, .int s0_found, .ref h0_6, .int s0_kept, .int s0_keptVariables, .ref h0_7, .int s0_thrown])), (h0_1, .inl (cI, 100, .inl s0_number)), (h0_2, .inl (cI, 40, .inl s0_term)), (h0_3, .inl (cI, 180, .inl s0_store)), (h0_4, .inl (cI, 9, .inl s0_query)), (h0_5, .inl (cI, 16, .inl s0_bound)), (h0_6, .inl (cI, 2000, .inl s0_work)), (h0_7, .inl (cI, 2000, .inl s0_answers))] := hD
  have hl := lv_entry ([.ref h0]) (n := 2) (Nat.le_of_ble_eq_true rfl)
  rw [lg_entry_eq]
  generalize (lg_sl ([.ref h0]) ++ List.replicate (2 - (lg_sl ([.ref h0])).length) Slot.unset).toArray = ls at hl ⊢
  have hl : lv_has ls 2 [(0, .ref h0)] := hl
  have hinX8 : ∀ w ∈ u_ws RX8 TX8 14, w ∈ wsX8_frees := by decide +kernel
  refine lv_iconst (v := (0 : Int32)) hx hb dX8_frees_0 (by decide) ?_
  refine lv_istore_n (lv' := [(1, .int (0 : Int32)), (0, .ref h0)]) hx hb dX8_frees_1 rfl hl (by decide) rfl (fun ls hl => ?_)
  have hl : lv_has ls 2 [(0, .ref h0), (1, .int (0 : Int32))] := lv_sub hl [1, 0] rfl
  obtain ⟨I_1, hI_1, n_1, h⟩ := h
  have loop_1 : ∀ (n_1 : Nat) (v1_2 : Int32) (s0_3_terms : Int32) (s0_3_number : Nat → Int32) (s0_3_term : Nat → Int32) (s0_3_triples : Int32) (s0_3_store : Nat → Int32) (s0_3_patterns : Int32) (s0_3_query : Nat → Int32) (s0_3_bound : Nat → Int32) (s0_3_found : Int32) (s0_3_work : Nat → Int32) (s0_3_kept : Int32) (s0_3_keptVariables : Int32) (s0_3_answers : Nat → Int32) (s0_3_thrown : Int32) (h : I_1 n_1 (v1_2, (s0_3_terms, s0_3_number, s0_3_term, s0_3_triples, s0_3_store, s0_3_patterns, s0_3_query, s0_3_bound, s0_3_found, s0_3_work, s0_3_kept, s0_3_keptVariables, s0_3_answers, s0_3_thrown))) (H : Heap) (locs : List Loc) (hP : va_P (dC, dI) vwCl [(h0, .inr (8, [.int s0_3_terms, .ref h0_1, .ref h0_2, .int s0_3_triples, .ref h0_3, .int s0_3_patterns, .ref h0_4, .ref h0_5, .int s0_3_found, .ref h0_6, .int s0_3_kept, .int s0_3_keptVariables, .ref h0_7, .int s0_3_thrown])), (h0_1, .inl (cI, 100, .inl s0_3_number)), (h0_2, .inl (cI, 40, .inl s0_3_term)), (h0_3, .inl (cI, 180, .inl s0_3_store)), (h0_4, .inl (cI, 9, .inl s0_3_query)), (h0_5, .inl (cI, 16, .inl s0_3_bound)), (h0_6, .inl (cI, 2000, .inl s0_3_work)), (h0_7, .inl (cI, 2000, .inl s0_3_answers))] H) (hD : va_D A [(h0, .inr (8, [.int s0_3_terms, .ref h0_1, .ref h0_2, .int s0_3_triples, .ref h0_3, .int s0_3_patterns, .ref h0_4, .ref h0_5, .int s0_3_found, .ref h0_6, .int s0_3_kept, .int s0_3_keptVariables, .ref h0_7, .int s0_3_thrown])), (h0_1, .inl (cI, 100, .inl s0_3_number)), (h0_2, .inl (cI, 40, .inl s0_3_term)), (h0_3, .inl (cI, 180, .inl s0_3_store)), (h0_4, .inl (cI, 9, .inl s0_3_query)), (h0_5, .inl (cI, 16, .inl s0_3_bound)), (h0_6, .inl (cI, 2000, .inl s0_3_work)), (h0_7, .inl (cI, 2000, .inl s0_3_answers))]) (hS : va_S A s.heap H locs) (ls : Array Slot) (hl : lv_has ls 2 [(0, .ref h0), (1, .int v1_2)]), W p l e rm_X8_frees s m ([.ref h0] : List Value).toArray below meth c H locs 0 0 (MQ below (Q_X8_frees dC dI cI h0 h0_1 h0_2 h0_3 h0_4 h0_5 h0_6 h0_7 (s0_terms, s0_number, s0_term, s0_triples, s0_store, s0_patterns, s0_query, s0_bound, s0_found, s0_work, s0_kept, s0_keptVariables, s0_answers, s0_thrown) A post) (([.ref h0] : List Value).toArray) s 0 0 A) (F0 m 2 ls []) := by
    intro n_1
    induction n_1 using Nat.strongRecOn with
    | ind n_1 ih_1 =>
      intro v1_2 s0_3_terms s0_3_number s0_3_term s0_3_triples s0_3_store s0_3_patterns s0_3_query s0_3_bound s0_3_found s0_3_work s0_3_kept s0_3_keptVariables s0_3_answers s0_3_thrown h H locs hP hD hS ls hl
      have h := hI_1 n_1 _ h
      refine lv_iload_n hx hb dX8_frees_2 rfl (lv_at hl 1 rfl) ?_
      refine lv_iconst (v := (4 : Int32)) hx hb dX8_frees_3 (by decide) ?_
      obtain ⟨ht_, hf_⟩ := h
      refine lv_icmp_ge (tgt := 20) hx hb dX8_frees_4 (by decide) (fun c_4 => ?_) (fun c_4 => ?_)
      · have h := ht_ c_4
        exact W.vret hx hb hr (fun t ht hW => ⟨⟨(s0_3_terms, s0_3_number, s0_3_term, s0_3_triples, s0_3_store, s0_3_patterns, s0_3_query, s0_3_bound, s0_3_found, s0_3_work, s0_3_kept, s0_3_keptVariables, s0_3_answers, s0_3_thrown), rfl, h, ⟨by rw [ht]; exact hP, hD⟩⟩, hS.F ht⟩) hS.2.2 dX8_frees_20
      · have h := hf_ c_4
        refine lv_aload_n hx hb dX8_frees_7 rfl (lv_at hl 0 rfl) ?_
        refine va_get (D := (dC, dI)) (ci := 8) (v := .ref h0_5) (C := RX8) (T := TX8) (N := 14) hx hb hts (hinX8) hown hK hP 0 rfl rfl 7 (by decide) (hts (.fieldLink RX8 22 "TripleJoinsModel" "bound" "[I") (by decide +kernel)) (fun _ h9 => h9) rfl dX8_frees_8 ?_
        refine lv_iload_n hx hb dX8_frees_11 rfl (lv_at hl 1 rfl) ?_
        refine lv_iconst (v := (-1 : Int32)) hx hb dX8_frees_12 (by decide) ?_
        obtain ⟨hin, h⟩ := h
        refine va_iast (n := 16) hx hb hK hP hD hS 5 0 rfl rfl hin dX8_frees_13 (fun H locs hP hD hS => ?_)
        have hP : va_P (dC, dI) vwCl [(h0, .inr (8, [.int s0_3_terms, .ref h0_1, .ref h0_2, .int s0_3_triples, .ref h0_3, .int s0_3_patterns, .ref h0_4, .ref h0_5, .int s0_3_found, .ref h0_6, .int s0_3_kept, .int s0_3_keptVariables, .ref h0_7, .int s0_3_thrown])), (h0_1, .inl (cI, 100, .inl s0_3_number)), (h0_2, .inl (cI, 40, .inl s0_3_term)), (h0_3, .inl (cI, 180, .inl s0_3_store)), (h0_4, .inl (cI, 9, .inl s0_3_query)), (h0_5, .inl (cI, 16, .inl (upd s0_3_bound (v1_2).toNatClampNeg (-1 : Int32)))), (h0_6, .inl (cI, 2000, .inl s0_3_work)), (h0_7, .inl (cI, 2000, .inl s0_3_answers))] _ := hP
        have hD : va_D A [(h0, .inr (8, [.int s0_3_terms, .ref h0_1, .ref h0_2, .int s0_3_triples, .ref h0_3, .int s0_3_patterns, .ref h0_4, .ref h0_5, .int s0_3_found, .ref h0_6, .int s0_3_kept, .int s0_3_keptVariables, .ref h0_7, .int s0_3_thrown])), (h0_1, .inl (cI, 100, .inl s0_3_number)), (h0_2, .inl (cI, 40, .inl s0_3_term)), (h0_3, .inl (cI, 180, .inl s0_3_store)), (h0_4, .inl (cI, 9, .inl s0_3_query)), (h0_5, .inl (cI, 16, .inl (upd s0_3_bound (v1_2).toNatClampNeg (-1 : Int32)))), (h0_6, .inl (cI, 2000, .inl s0_3_work)), (h0_7, .inl (cI, 2000, .inl s0_3_answers))] := hD
        refine lv_iinc (v := (v1_2 + (1 : Int32))) (lv' := [(1, .int (v1_2 + (1 : Int32))), (0, .ref h0)]) hx hb dX8_frees_14 hl (k := 1) rfl rfl (by decide) rfl (fun ls hl => ?_)
        refine lv_goto (tgt := 2) hx hb dX8_frees_17 (by decide) ?_
        have hl : lv_has ls 2 [(0, .ref h0), (1, .int (v1_2 + (1 : Int32)))] := lv_sub hl [1, 0] rfl
        obtain ⟨k_5, hk_6, h⟩ := h
        exact ih_1 k_5 hk_6 (v1_2 + (1 : Int32)) s0_3_terms s0_3_number s0_3_term s0_3_triples s0_3_store s0_3_patterns s0_3_query (upd s0_3_bound (v1_2).toNatClampNeg (-1 : Int32)) s0_3_found s0_3_work s0_3_kept s0_3_keptVariables s0_3_answers s0_3_thrown h _ _ hP hD hS _ hl
  exact loop_1 n_1 (0 : Int32) s0_terms s0_number s0_term s0_triples s0_store s0_patterns s0_query s0_bound s0_found s0_work s0_kept s0_keptVariables s0_answers s0_thrown h _ _ hP hD hS _ hl
abbrev Q_X8_matching (dC : Nat → ClassId) (dI : Nat → Nat → Nat) (cI : ClassId) (h0 h0_1 h0_2 h0_3 h0_4 h0_5 h0_6 h0_7 : Nat) (s0 : ModS) (A : Nat → Prop) (post : Int32 → ModS → Prop) : Array Value → State → Outcome → State → Prop := va_Qi post (fun (u : ModS) (t : State) => va_P (dC, dI) vwCl [(h0, .inr (8, [.int u.terms, .ref h0_1, .ref h0_2, .int u.triples, .ref h0_3, .int u.patterns, .ref h0_4, .ref h0_5, .int u.found, .ref h0_6, .int u.kept, .int u.keptVariables, .ref h0_7, .int u.thrown])), (h0_1, .inl (cI, 100, .inl u.number)), (h0_2, .inl (cI, 40, .inl u.term)), (h0_3, .inl (cI, 180, .inl u.store)), (h0_4, .inl (cI, 9, .inl u.query)), (h0_5, .inl (cI, 16, .inl u.bound)), (h0_6, .inl (cI, 2000, .inl u.work)), (h0_7, .inl (cI, 2000, .inl u.answers))] t.heap ∧ va_D A [(h0, .inr (8, [.int u.terms, .ref h0_1, .ref h0_2, .int u.triples, .ref h0_3, .int u.patterns, .ref h0_4, .ref h0_5, .int u.found, .ref h0_6, .int u.kept, .int u.keptVariables, .ref h0_7, .int u.thrown])), (h0_1, .inl (cI, 100, .inl u.number)), (h0_2, .inl (cI, 40, .inl u.term)), (h0_3, .inl (cI, 180, .inl u.store)), (h0_4, .inl (cI, 9, .inl u.query)), (h0_5, .inl (cI, 16, .inl u.bound)), (h0_6, .inl (cI, 2000, .inl u.work)), (h0_7, .inl (cI, 2000, .inl u.answers))]) A
abbrev rm_X8_matching : Room := { frames := 1, cells := 0, slots := 0, locals := 28 }
set_option maxHeartbeats 4000000 in
set_option maxRecDepth 100000 in
theorem c_X8_matching (l : Launch) (dC : Nat → ClassId) (dI : Nat → Nat → Nat) (cI : ClassId) (h0 h0_1 h0_2 h0_3 h0_4 h0_5 h0_6 h0_7 : Nat) (sz : Nat) (s0 : ModS) (v1 : Int32) (post : Int32 → ModS → Prop) (h : P_X8_matching s0 v1 post) : Met l yX8_matching wsX8_matching rm_X8_matching (va_Pc [.ref h0, .int v1] (cpre (dC, dI) [(cI, .int)] [(h0, .inr (8, [.int s0.terms, .ref h0_1, .ref h0_2, .int s0.triples, .ref h0_3, .int s0.patterns, .ref h0_4, .ref h0_5, .int s0.found, .ref h0_6, .int s0.kept, .int s0.keptVariables, .ref h0_7, .int s0.thrown])), (h0_1, .inl (cI, 100, .inl s0.number)), (h0_2, .inl (cI, 40, .inl s0.term)), (h0_3, .inl (cI, 180, .inl s0.store)), (h0_4, .inl (cI, 9, .inl s0.query)), (h0_5, .inl (cI, 16, .inl s0.bound)), (h0_6, .inl (cI, 2000, .inl s0.work)), (h0_7, .inl (cI, 2000, .inl s0.answers))] sz)) (Q_X8_matching dC dI cI h0 h0_1 h0_2 h0_3 h0_4 h0_5 h0_6 h0_7 s0 (va_A [(h0, .inr (8, [.int s0.terms, .ref h0_1, .ref h0_2, .int s0.triples, .ref h0_3, .int s0.patterns, .ref h0_4, .ref h0_5, .int s0.found, .ref h0_6, .int s0.kept, .int s0.keptVariables, .ref h0_7, .int s0.thrown])), (h0_1, .inl (cI, 100, .inl s0.number)), (h0_2, .inl (cI, 40, .inl s0.term)), (h0_3, .inl (cI, 180, .inl s0.store)), (h0_4, .inl (cI, 9, .inl s0.query)), (h0_5, .inl (cI, 16, .inl s0.bound)), (h0_6, .inl (cI, 2000, .inl s0.work)), (h0_7, .inl (cI, 2000, .inl s0.answers))] sz) post) 0 0 (va_A [(h0, .inr (8, [.int s0.terms, .ref h0_1, .ref h0_2, .int s0.triples, .ref h0_3, .int s0.patterns, .ref h0_4, .ref h0_5, .int s0.found, .ref h0_6, .int s0.kept, .int s0.keptVariables, .ref h0_7, .int s0.thrown])), (h0_1, .inl (cI, 100, .inl s0.number)), (h0_2, .inl (cI, 40, .inl s0.term)), (h0_3, .inl (cI, 180, .inl s0.store)), (h0_4, .inl (cI, 9, .inl s0.query)), (h0_5, .inl (cI, 16, .inl s0.bound)), (h0_6, .inl (cI, 2000, .inl s0.work)), (h0_7, .inl (cI, 2000, .inl s0.answers))] sz) := by
  refine Met.ofW (cc := cX8_matching) (maxL := 4) (ret := (some .int)) (by decide) rfl ?_
  intro p e s m args below meth c s₁ B hml hv
  obtain ⟨rfl, hsz, hP, hK, hD0, hN⟩ := hv
  have hx := B.exec
  have hb := B.bytes
  have hr := B.returns
  have hts := atoms_spec (ws := wsX8_matching) B.pre
  have hown : s.vm.findClass RX8 = some m.cls := findClass_of_methodNamed B.named
  have hlocks := B.notSynchronized
  subst hsz
  have hD := hD0.self (sz := s.heap.size)
  generalize hAe : va_A [(h0, .inr (8, [.int s0.terms, .ref h0_1, .ref h0_2, .int s0.triples, .ref h0_3, .int s0.patterns, .ref h0_4, .ref h0_5, .int s0.found, .ref h0_6, .int s0.kept, .int s0.keptVariables, .ref h0_7, .int s0.thrown])), (h0_1, .inl (cI, 100, .inl s0.number)), (h0_2, .inl (cI, 40, .inl s0.term)), (h0_3, .inl (cI, 180, .inl s0.store)), (h0_4, .inl (cI, 9, .inl s0.query)), (h0_5, .inl (cI, 16, .inl s0.bound)), (h0_6, .inl (cI, 2000, .inl s0.work)), (h0_7, .inl (cI, 2000, .inl s0.answers))] s.heap.size = A at hD ⊢
  have hA : ∀ q : Nat, s.heap.size ≤ q → A q := fun q h => by rw [← hAe]; exact Or.inr h
  clear hAe hD0
  obtain ⟨s0_terms, s0_number, s0_term, s0_triples, s0_store, s0_patterns, s0_query, s0_bound, s0_found, s0_work, s0_kept, s0_keptVariables, s0_answers, s0_thrown⟩ := s0
  have hS : va_S A s.heap s.heap [] := va_S.rf
  have hP : va_P (dC, dI) vwCl [(h0, .inr (8, [.int s0_terms, .ref h0_1, .ref h0_2, .int s0_triples, .ref h0_3, .int s0_patterns, .ref h0_4, .ref h0_5, .int s0_found, .ref h0_6, .int s0_kept, .int s0_keptVariables, .ref h0_7, .int s0_thrown])), (h0_1, .inl (cI, 100, .inl s0_number)), (h0_2, .inl (cI, 40, .inl s0_term)), (h0_3, .inl (cI, 180, .inl s0_store)), (h0_4, .inl (cI, 9, .inl s0_query)), (h0_5, .inl (cI, 16, .inl s0_bound)), (h0_6, .inl (cI, 2000, .inl s0_work)), (h0_7, .inl (cI, 2000, .inl s0_answers))] s.heap := hP
  have hD : va_D A [(h0, .inr (8, [.int s0_terms, .ref h0_1, .ref h0_2, .int s0_triples, .ref h0_3, .int s0_patterns, .ref h0_4, .ref h0_5, .int s0_found, .ref h0_6, .int s0_kept, .int s0_keptVariables, .ref h0_7, .int s0_thrown])), (h0_1, .inl (cI, 100, .inl s0_number)), (h0_2, .inl (cI, 40, .inl s0_term)), (h0_3, .inl (cI, 180, .inl s0_store)), (h0_4, .inl (cI, 9, .inl s0_query)), (h0_5, .inl (cI, 16, .inl s0_bound)), (h0_6, .inl (cI, 2000, .inl s0_work)), (h0_7, .inl (cI, 2000, .inl s0_answers))] := hD
  have hl := lv_entry ([.ref h0, .int v1]) (n := 4) (Nat.le_of_ble_eq_true rfl)
  rw [lg_entry_eq]
  generalize (lg_sl ([.ref h0, .int v1]) ++ List.replicate (4 - (lg_sl ([.ref h0, .int v1])).length) Slot.unset).toArray = ls at hl ⊢
  have hl : lv_has ls 4 [(0, .ref h0), (1, .int v1)] := hl
  have hinX8 : ∀ w ∈ u_ws RX8 TX8 14, w ∈ wsX8_matching := by decide +kernel
  refine lv_aload_n hx hb dX8_matching_0 rfl (lv_at hl 0 rfl) ?_
  have hPc := hP.sub (ws' := [(h0, .inr (8, [.int s0_terms, .ref h0_1, .ref h0_2, .int s0_triples, .ref h0_3, .int s0_patterns, .ref h0_4, .ref h0_5, .int s0_found, .ref h0_6, .int s0_kept, .int s0_keptVariables, .ref h0_7, .int s0_thrown])), (h0_1, .inl (cI, 100, .inl s0_number)), (h0_2, .inl (cI, 40, .inl s0_term)), (h0_3, .inl (cI, 180, .inl s0_store)), (h0_4, .inl (cI, 9, .inl s0_query)), (h0_5, .inl (cI, 16, .inl s0_bound)), (h0_6, .inl (cI, 2000, .inl s0_work)), (h0_7, .inl (cI, 2000, .inl s0_answers))]) [0, 1, 2, 3, 4, 5, 6, 7] rfl
  have hDc := hD.sub (ws' := [(h0, .inr (8, [.int s0_terms, .ref h0_1, .ref h0_2, .int s0_triples, .ref h0_3, .int s0_patterns, .ref h0_4, .ref h0_5, .int s0_found, .ref h0_6, .int s0_kept, .int s0_keptVariables, .ref h0_7, .int s0_thrown])), (h0_1, .inl (cI, 100, .inl s0_number)), (h0_2, .inl (cI, 40, .inl s0_term)), (h0_3, .inl (cI, 180, .inl s0_store)), (h0_4, .inl (cI, 9, .inl s0_query)), (h0_5, .inl (cI, 16, .inl s0_bound)), (h0_6, .inl (cI, 2000, .inl s0_work)), (h0_7, .inl (cI, 2000, .inl s0_answers))]) [0, 1, 2, 3, 4, 5, 6, 7] (by decide) rfl
  have hFc := va_free (wc := [(h0, .inr (8, [.int s0_terms, .ref h0_1, .ref h0_2, .int s0_triples, .ref h0_3, .int s0_patterns, .ref h0_4, .ref h0_5, .int s0_found, .ref h0_6, .int s0_kept, .int s0_keptVariables, .ref h0_7, .int s0_thrown])), (h0_1, .inl (cI, 100, .inl s0_number)), (h0_2, .inl (cI, 40, .inl s0_term)), (h0_3, .inl (cI, 180, .inl s0_store)), (h0_4, .inl (cI, 9, .inl s0_query)), (h0_5, .inl (cI, 16, .inl s0_bound)), (h0_6, .inl (cI, 2000, .inl s0_work)), (h0_7, .inl (cI, 2000, .inl s0_answers))]) hD hS hA [0, 1, 2, 3, 4, 5, 6, 7] rfl
  refine va_callv (va_runV (As := []) (rest := []) ⟨hx, hb, hml, hown, hts⟩ (c_X8_frees l dC dI cI h0 h0_1 h0_2 h0_3 h0_4 h0_5 h0_6 h0_7 _ (s0_terms, s0_number, s0_term, s0_triples, s0_store, s0_patterns, s0_query, s0_bound, s0_found, s0_work, s0_kept, s0_keptVariables, s0_answers, s0_thrown) _ h) (cwV 0 hts gX8_matching_X8_frees rfl rfl rfl (by decide +kernel) ⟨Nat.le_of_ble_eq_true rfl, Nat.le_of_ble_eq_true rfl⟩) (pb_V hPc hK hDc hN (ci := 8) (q0 := 0) rfl rfl) rfl rfl hl.1 rfl (lv_room (Nat.le_of_ble_eq_true rfl)) dX8_matching_1 ⟨Nat.zero_le _, Nat.zero_le _⟩) hS (fun q _ h => hFc q h) hFc (fun u_1 t H locs ht hvm h hB hz1 hk1 hS => ?_)
  obtain ⟨u_1_terms, u_1_number, u_1_term, u_1_triples, u_1_store, u_1_patterns, u_1_query, u_1_bound, u_1_found, u_1_work, u_1_kept, u_1_keptVariables, u_1_answers, u_1_thrown⟩ := u_1
  obtain ⟨hP1, hD1⟩ := hB
  rw [ht] at hP1
  obtain ⟨hP, hD⟩ := cl_join (wr := []) (w1 := [(h0, .inr (8, [.int u_1_terms, .ref h0_1, .ref h0_2, .int u_1_triples, .ref h0_3, .int u_1_patterns, .ref h0_4, .ref h0_5, .int u_1_found, .ref h0_6, .int u_1_kept, .int u_1_keptVariables, .ref h0_7, .int u_1_thrown])), (h0_1, .inl (cI, 100, .inl u_1_number)), (h0_2, .inl (cI, 40, .inl u_1_term)), (h0_3, .inl (cI, 180, .inl u_1_store)), (h0_4, .inl (cI, 9, .inl u_1_query)), (h0_5, .inl (cI, 16, .inl u_1_bound)), (h0_6, .inl (cI, 2000, .inl u_1_work)), (h0_7, .inl (cI, 2000, .inl u_1_answers))]) (ws' := [(h0, .inr (8, [.int u_1_terms, .ref h0_1, .ref h0_2, .int u_1_triples, .ref h0_3, .int u_1_patterns, .ref h0_4, .ref h0_5, .int u_1_found, .ref h0_6, .int u_1_kept, .int u_1_keptVariables, .ref h0_7, .int u_1_thrown])), (h0_1, .inl (cI, 100, .inl u_1_number)), (h0_2, .inl (cI, 40, .inl u_1_term)), (h0_3, .inl (cI, 180, .inl u_1_store)), (h0_4, .inl (cI, 9, .inl u_1_query)), (h0_5, .inl (cI, 16, .inl u_1_bound)), (h0_6, .inl (cI, 2000, .inl u_1_work)), (h0_7, .inl (cI, 2000, .inl u_1_answers))]) hP hD [0, 1, 2, 3, 4, 5, 6, 7] [] [0, 1, 2, 3, 4, 5, 6, 7] rfl rfl (by decide) (by decide) (by decide) rfl hk1 hFc hP1 hD1
  refine lv_iconst (v := (0 : Int32)) hx hb dX8_matching_4 (by decide) ?_
  refine lv_istore_n (lv' := [(2, .int (0 : Int32)), (0, .ref h0), (1, .int v1)]) hx hb dX8_matching_5 rfl hl (by decide) rfl (fun ls hl => ?_)
  refine lv_iconst (v := (0 : Int32)) hx hb dX8_matching_6 (by decide) ?_
  refine lv_istore_n (lv' := [(3, .int (0 : Int32)), (2, .int (0 : Int32)), (0, .ref h0), (1, .int v1)]) hx hb dX8_matching_7 rfl hl (by decide) rfl (fun ls hl => ?_)
  have hl : lv_has ls 4 [(0, .ref h0), (1, .int v1), (2, .int (0 : Int32)), (3, .int (0 : Int32))] := lv_sub hl [2, 3, 1, 0] rfl
  obtain ⟨I_3, hI_3, n_3, h⟩ := h
  have loop_3 : ∀ (n_3 : Nat) (v2_4 : Int32) (v3_5 : Int32) (s0_6_terms : Int32) (s0_6_number : Nat → Int32) (s0_6_term : Nat → Int32) (s0_6_triples : Int32) (s0_6_store : Nat → Int32) (s0_6_patterns : Int32) (s0_6_query : Nat → Int32) (s0_6_bound : Nat → Int32) (s0_6_found : Int32) (s0_6_work : Nat → Int32) (s0_6_kept : Int32) (s0_6_keptVariables : Int32) (s0_6_answers : Nat → Int32) (s0_6_thrown : Int32) (h : I_3 n_3 (v2_4, v3_5, (s0_6_terms, s0_6_number, s0_6_term, s0_6_triples, s0_6_store, s0_6_patterns, s0_6_query, s0_6_bound, s0_6_found, s0_6_work, s0_6_kept, s0_6_keptVariables, s0_6_answers, s0_6_thrown))) (H : Heap) (locs : List Loc) (hP : va_P (dC, dI) vwCl [(h0, .inr (8, [.int s0_6_terms, .ref h0_1, .ref h0_2, .int s0_6_triples, .ref h0_3, .int s0_6_patterns, .ref h0_4, .ref h0_5, .int s0_6_found, .ref h0_6, .int s0_6_kept, .int s0_6_keptVariables, .ref h0_7, .int s0_6_thrown])), (h0_1, .inl (cI, 100, .inl s0_6_number)), (h0_2, .inl (cI, 40, .inl s0_6_term)), (h0_3, .inl (cI, 180, .inl s0_6_store)), (h0_4, .inl (cI, 9, .inl s0_6_query)), (h0_5, .inl (cI, 16, .inl s0_6_bound)), (h0_6, .inl (cI, 2000, .inl s0_6_work)), (h0_7, .inl (cI, 2000, .inl s0_6_answers))] H) (hD : va_D A [(h0, .inr (8, [.int s0_6_terms, .ref h0_1, .ref h0_2, .int s0_6_triples, .ref h0_3, .int s0_6_patterns, .ref h0_4, .ref h0_5, .int s0_6_found, .ref h0_6, .int s0_6_kept, .int s0_6_keptVariables, .ref h0_7, .int s0_6_thrown])), (h0_1, .inl (cI, 100, .inl s0_6_number)), (h0_2, .inl (cI, 40, .inl s0_6_term)), (h0_3, .inl (cI, 180, .inl s0_6_store)), (h0_4, .inl (cI, 9, .inl s0_6_query)), (h0_5, .inl (cI, 16, .inl s0_6_bound)), (h0_6, .inl (cI, 2000, .inl s0_6_work)), (h0_7, .inl (cI, 2000, .inl s0_6_answers))]) (hS : va_S A s.heap H locs) (ls : Array Slot) (hl : lv_has ls 4 [(0, .ref h0), (1, .int v1), (2, .int v2_4), (3, .int v3_5)]), W p l e rm_X8_matching s m ([.ref h0, .int v1] : List Value).toArray below meth c H locs 0 0 (MQ below (Q_X8_matching dC dI cI h0 h0_1 h0_2 h0_3 h0_4 h0_5 h0_6 h0_7 (s0_terms, s0_number, s0_term, s0_triples, s0_store, s0_patterns, s0_query, s0_bound, s0_found, s0_work, s0_kept, s0_keptVariables, s0_answers, s0_thrown) A post) (([.ref h0, .int v1] : List Value).toArray) s 0 0 A) (F0 m 8 ls []) := by
    intro n_3
    induction n_3 using Nat.strongRecOn with
    | ind n_3 ih_3 =>
      intro v2_4 v3_5 s0_6_terms s0_6_number s0_6_term s0_6_triples s0_6_store s0_6_patterns s0_6_query s0_6_bound s0_6_found s0_6_work s0_6_kept s0_6_keptVariables s0_6_answers s0_6_thrown h H locs hP hD hS ls hl
      have h := hI_3 n_3 _ h
      refine lv_iload_n hx hb dX8_matching_8 rfl (lv_at hl 3 rfl) ?_
      refine lv_aload_n hx hb dX8_matching_9 rfl (lv_at hl 0 rfl) ?_
      refine va_get (D := (dC, dI)) (ci := 8) (v := .int s0_6_triples) (C := RX8) (T := TX8) (N := 14) hx hb hts (hinX8) hown hK hP 0 rfl rfl 3 (by decide) (hts (.fieldLink RX8 39 "TripleJoinsModel" "triples" "I") (by decide +kernel)) (fun _ h9 => h9) rfl dX8_matching_10 ?_
      obtain ⟨ht_, hf_⟩ := h
      refine lv_icmp_ge (tgt := 40) hx hb dX8_matching_13 (by decide) (fun c_7 => ?_) (fun c_7 => ?_)
      · have h := ht_ c_7
        refine lv_iload_n hx hb dX8_matching_40 rfl (lv_at hl 2 rfl) ?_
        exact W.iret (v := v2_4) hx hb hr (fun t ht hW => ⟨⟨v2_4, (s0_6_terms, s0_6_number, s0_6_term, s0_6_triples, s0_6_store, s0_6_patterns, s0_6_query, s0_6_bound, s0_6_found, s0_6_work, s0_6_kept, s0_6_keptVariables, s0_6_answers, s0_6_thrown), rfl, h, ⟨by rw [ht]; exact hP, hD⟩⟩, hS.F ht⟩) hS.2.2 dX8_matching_41
      · have h := hf_ c_7
        refine lv_iload_n hx hb dX8_matching_16 rfl (lv_at hl 2 rfl) ?_
        refine lv_aload_n hx hb dX8_matching_17 rfl (lv_at hl 0 rfl) ?_
        refine lv_iconst (v := (0 : Int32)) hx hb dX8_matching_18 (by decide) ?_
        refine lv_iload_n hx hb dX8_matching_19 rfl (lv_at hl 1 rfl) ?_
        refine lv_iload_n hx hb dX8_matching_20 rfl (lv_at hl 3 rfl) ?_
        have hPc := hP.sub (ws' := [(h0, .inr (8, [.int s0_6_terms, .ref h0_1, .ref h0_2, .int s0_6_triples, .ref h0_3, .int s0_6_patterns, .ref h0_4, .ref h0_5, .int s0_6_found, .ref h0_6, .int s0_6_kept, .int s0_6_keptVariables, .ref h0_7, .int s0_6_thrown])), (h0_1, .inl (cI, 100, .inl s0_6_number)), (h0_2, .inl (cI, 40, .inl s0_6_term)), (h0_3, .inl (cI, 180, .inl s0_6_store)), (h0_4, .inl (cI, 9, .inl s0_6_query)), (h0_5, .inl (cI, 16, .inl s0_6_bound)), (h0_6, .inl (cI, 2000, .inl s0_6_work)), (h0_7, .inl (cI, 2000, .inl s0_6_answers))]) [0, 1, 2, 3, 4, 5, 6, 7] rfl
        have hDc := hD.sub (ws' := [(h0, .inr (8, [.int s0_6_terms, .ref h0_1, .ref h0_2, .int s0_6_triples, .ref h0_3, .int s0_6_patterns, .ref h0_4, .ref h0_5, .int s0_6_found, .ref h0_6, .int s0_6_kept, .int s0_6_keptVariables, .ref h0_7, .int s0_6_thrown])), (h0_1, .inl (cI, 100, .inl s0_6_number)), (h0_2, .inl (cI, 40, .inl s0_6_term)), (h0_3, .inl (cI, 180, .inl s0_6_store)), (h0_4, .inl (cI, 9, .inl s0_6_query)), (h0_5, .inl (cI, 16, .inl s0_6_bound)), (h0_6, .inl (cI, 2000, .inl s0_6_work)), (h0_7, .inl (cI, 2000, .inl s0_6_answers))]) [0, 1, 2, 3, 4, 5, 6, 7] (by decide) rfl
        have hFc := va_free (wc := [(h0, .inr (8, [.int s0_6_terms, .ref h0_1, .ref h0_2, .int s0_6_triples, .ref h0_3, .int s0_6_patterns, .ref h0_4, .ref h0_5, .int s0_6_found, .ref h0_6, .int s0_6_kept, .int s0_6_keptVariables, .ref h0_7, .int s0_6_thrown])), (h0_1, .inl (cI, 100, .inl s0_6_number)), (h0_2, .inl (cI, 40, .inl s0_6_term)), (h0_3, .inl (cI, 180, .inl s0_6_store)), (h0_4, .inl (cI, 9, .inl s0_6_query)), (h0_5, .inl (cI, 16, .inl s0_6_bound)), (h0_6, .inl (cI, 2000, .inl s0_6_work)), (h0_7, .inl (cI, 2000, .inl s0_6_answers))]) hD hS hA [0, 1, 2, 3, 4, 5, 6, 7] rfl
        refine va_calli (va_runV (As := [.int (0 : Int32), .int v1, .int v3_5]) (rest := [.int v2_4]) ⟨hx, hb, hml, hown, hts⟩ (c_X8_tries l dC dI cI h0 h0_1 h0_2 h0_3 h0_4 h0_5 h0_6 h0_7 _ (s0_6_terms, s0_6_number, s0_6_term, s0_6_triples, s0_6_store, s0_6_patterns, s0_6_query, s0_6_bound, s0_6_found, s0_6_work, s0_6_kept, s0_6_keptVariables, s0_6_answers, s0_6_thrown) (0 : Int32) v1 v3_5 _ h) (cwV 3 hts gX8_matching_X8_tries rfl rfl rfl (by decide +kernel) ⟨Nat.le_of_ble_eq_true rfl, Nat.le_of_ble_eq_true rfl⟩) (pb_V hPc hK hDc hN (ci := 8) (q0 := 0) rfl rfl) rfl rfl hl.1 rfl (lv_room (Nat.le_of_ble_eq_true rfl)) dX8_matching_21 ⟨Nat.zero_le _, Nat.zero_le _⟩) hS (fun q _ h => hFc q h) hFc (fun r_9 u_8 t H locs ht hvm h hB hz1 hk1 hS => ?_)
        obtain ⟨u_8_terms, u_8_number, u_8_term, u_8_triples, u_8_store, u_8_patterns, u_8_query, u_8_bound, u_8_found, u_8_work, u_8_kept, u_8_keptVariables, u_8_answers, u_8_thrown⟩ := u_8
        obtain ⟨hP1, hD1⟩ := hB
        rw [ht] at hP1
        obtain ⟨hP, hD⟩ := cl_join (wr := []) (w1 := [(h0, .inr (8, [.int u_8_terms, .ref h0_1, .ref h0_2, .int u_8_triples, .ref h0_3, .int u_8_patterns, .ref h0_4, .ref h0_5, .int u_8_found, .ref h0_6, .int u_8_kept, .int u_8_keptVariables, .ref h0_7, .int u_8_thrown])), (h0_1, .inl (cI, 100, .inl u_8_number)), (h0_2, .inl (cI, 40, .inl u_8_term)), (h0_3, .inl (cI, 180, .inl u_8_store)), (h0_4, .inl (cI, 9, .inl u_8_query)), (h0_5, .inl (cI, 16, .inl u_8_bound)), (h0_6, .inl (cI, 2000, .inl u_8_work)), (h0_7, .inl (cI, 2000, .inl u_8_answers))]) (ws' := [(h0, .inr (8, [.int u_8_terms, .ref h0_1, .ref h0_2, .int u_8_triples, .ref h0_3, .int u_8_patterns, .ref h0_4, .ref h0_5, .int u_8_found, .ref h0_6, .int u_8_kept, .int u_8_keptVariables, .ref h0_7, .int u_8_thrown])), (h0_1, .inl (cI, 100, .inl u_8_number)), (h0_2, .inl (cI, 40, .inl u_8_term)), (h0_3, .inl (cI, 180, .inl u_8_store)), (h0_4, .inl (cI, 9, .inl u_8_query)), (h0_5, .inl (cI, 16, .inl u_8_bound)), (h0_6, .inl (cI, 2000, .inl u_8_work)), (h0_7, .inl (cI, 2000, .inl u_8_answers))]) hP hD [0, 1, 2, 3, 4, 5, 6, 7] [] [0, 1, 2, 3, 4, 5, 6, 7] rfl rfl (by decide) (by decide) (by decide) rfl hk1 hFc hP1 hD1
        obtain ⟨ht_, hf_⟩ := h
        refine lv_if_eq (tgt := 31) hx hb dX8_matching_24 (by decide) (fun c_10 => ?_) (fun c_10 => ?_)
        · have h := ht_ c_10
          refine lv_iconst (v := (0 : Int32)) hx hb dX8_matching_31 (by decide) ?_
          refine lv_iadd hx hb dX8_matching_32 ?_
          refine lv_istore_n (lv' := [(2, .int (v2_4 + (0 : Int32))), (0, .ref h0), (1, .int v1), (3, .int v3_5)]) hx hb dX8_matching_33 rfl hl (by decide) rfl (fun ls hl => ?_)
          refine lv_iinc (v := (v3_5 + (1 : Int32))) (lv' := [(3, .int (v3_5 + (1 : Int32))), (2, .int (v2_4 + (0 : Int32))), (0, .ref h0), (1, .int v1)]) hx hb dX8_matching_34 hl (k := 3) rfl rfl (by decide) rfl (fun ls hl => ?_)
          refine lv_goto (tgt := 8) hx hb dX8_matching_37 (by decide) ?_
          have hl : lv_has ls 4 [(0, .ref h0), (1, .int v1), (2, .int (v2_4 + (0 : Int32))), (3, .int (v3_5 + (1 : Int32)))] := lv_sub hl [2, 3, 1, 0] rfl
          obtain ⟨k_11, hk_12, h⟩ := h
          exact ih_3 k_11 hk_12 (v2_4 + (0 : Int32)) (v3_5 + (1 : Int32)) u_8_terms u_8_number u_8_term u_8_triples u_8_store u_8_patterns u_8_query u_8_bound u_8_found u_8_work u_8_kept u_8_keptVariables u_8_answers u_8_thrown h _ _ hP hD hS _ hl
        · have h := hf_ c_10
          refine lv_iconst (v := (1 : Int32)) hx hb dX8_matching_27 (by decide) ?_
          refine lv_goto (tgt := 32) hx hb dX8_matching_28 (by decide) ?_
          refine lv_iadd hx hb dX8_matching_32 ?_
          refine lv_istore_n (lv' := [(2, .int (v2_4 + (1 : Int32))), (0, .ref h0), (1, .int v1), (3, .int v3_5)]) hx hb dX8_matching_33 rfl hl (by decide) rfl (fun ls hl => ?_)
          refine lv_iinc (v := (v3_5 + (1 : Int32))) (lv' := [(3, .int (v3_5 + (1 : Int32))), (2, .int (v2_4 + (1 : Int32))), (0, .ref h0), (1, .int v1)]) hx hb dX8_matching_34 hl (k := 3) rfl rfl (by decide) rfl (fun ls hl => ?_)
          refine lv_goto (tgt := 8) hx hb dX8_matching_37 (by decide) ?_
          have hl : lv_has ls 4 [(0, .ref h0), (1, .int v1), (2, .int (v2_4 + (1 : Int32))), (3, .int (v3_5 + (1 : Int32)))] := lv_sub hl [2, 3, 1, 0] rfl
          obtain ⟨k_13, hk_14, h⟩ := h
          exact ih_3 k_13 hk_14 (v2_4 + (1 : Int32)) (v3_5 + (1 : Int32)) u_8_terms u_8_number u_8_term u_8_triples u_8_store u_8_patterns u_8_query u_8_bound u_8_found u_8_work u_8_kept u_8_keptVariables u_8_answers u_8_thrown h _ _ hP hD hS _ hl
  exact loop_3 n_3 (0 : Int32) (0 : Int32) u_1_terms u_1_number u_1_term u_1_triples u_1_store u_1_patterns u_1_query u_1_bound u_1_found u_1_work u_1_kept u_1_keptVariables u_1_answers u_1_thrown h _ _ hP hD hS _ hl
abbrev Q_X8_matches (dC : Nat → ClassId) (dI : Nat → Nat → Nat) (cI : ClassId) (h0 h0_1 h0_2 h0_3 h0_4 h0_5 h0_6 h0_7 : Nat) (s0 : ModS) (A : Nat → Prop) (post : Int32 → ModS → Prop) : Array Value → State → Outcome → State → Prop := va_Qi post (fun (u : ModS) (t : State) => va_P (dC, dI) vwCl [(h0, .inr (8, [.int u.terms, .ref h0_1, .ref h0_2, .int u.triples, .ref h0_3, .int u.patterns, .ref h0_4, .ref h0_5, .int u.found, .ref h0_6, .int u.kept, .int u.keptVariables, .ref h0_7, .int u.thrown])), (h0_1, .inl (cI, 100, .inl u.number)), (h0_2, .inl (cI, 40, .inl u.term)), (h0_3, .inl (cI, 180, .inl u.store)), (h0_4, .inl (cI, 9, .inl u.query)), (h0_5, .inl (cI, 16, .inl u.bound)), (h0_6, .inl (cI, 2000, .inl u.work)), (h0_7, .inl (cI, 2000, .inl u.answers))] t.heap ∧ va_D A [(h0, .inr (8, [.int u.terms, .ref h0_1, .ref h0_2, .int u.triples, .ref h0_3, .int u.patterns, .ref h0_4, .ref h0_5, .int u.found, .ref h0_6, .int u.kept, .int u.keptVariables, .ref h0_7, .int u.thrown])), (h0_1, .inl (cI, 100, .inl u.number)), (h0_2, .inl (cI, 40, .inl u.term)), (h0_3, .inl (cI, 180, .inl u.store)), (h0_4, .inl (cI, 9, .inl u.query)), (h0_5, .inl (cI, 16, .inl u.bound)), (h0_6, .inl (cI, 2000, .inl u.work)), (h0_7, .inl (cI, 2000, .inl u.answers))]) A
abbrev rm_X8_matches : Room := { frames := 2, cells := 0, slots := 0, locals := 51 }
set_option maxHeartbeats 4000000 in
set_option maxRecDepth 100000 in
theorem c_X8_matches (l : Launch) (dC : Nat → ClassId) (dI : Nat → Nat → Nat) (cI : ClassId) (h0 h0_1 h0_2 h0_3 h0_4 h0_5 h0_6 h0_7 : Nat) (sz : Nat) (s0 : ModS) (v1 : Int32) (post : Int32 → ModS → Prop) (h : P_X8_matches s0 v1 post) : Met l yX8_matches wsX8_matches rm_X8_matches (va_Pc [.ref h0, .int v1] (cpre (dC, dI) [(cI, .int)] [(h0, .inr (8, [.int s0.terms, .ref h0_1, .ref h0_2, .int s0.triples, .ref h0_3, .int s0.patterns, .ref h0_4, .ref h0_5, .int s0.found, .ref h0_6, .int s0.kept, .int s0.keptVariables, .ref h0_7, .int s0.thrown])), (h0_1, .inl (cI, 100, .inl s0.number)), (h0_2, .inl (cI, 40, .inl s0.term)), (h0_3, .inl (cI, 180, .inl s0.store)), (h0_4, .inl (cI, 9, .inl s0.query)), (h0_5, .inl (cI, 16, .inl s0.bound)), (h0_6, .inl (cI, 2000, .inl s0.work)), (h0_7, .inl (cI, 2000, .inl s0.answers))] sz)) (Q_X8_matches dC dI cI h0 h0_1 h0_2 h0_3 h0_4 h0_5 h0_6 h0_7 s0 (va_A [(h0, .inr (8, [.int s0.terms, .ref h0_1, .ref h0_2, .int s0.triples, .ref h0_3, .int s0.patterns, .ref h0_4, .ref h0_5, .int s0.found, .ref h0_6, .int s0.kept, .int s0.keptVariables, .ref h0_7, .int s0.thrown])), (h0_1, .inl (cI, 100, .inl s0.number)), (h0_2, .inl (cI, 40, .inl s0.term)), (h0_3, .inl (cI, 180, .inl s0.store)), (h0_4, .inl (cI, 9, .inl s0.query)), (h0_5, .inl (cI, 16, .inl s0.bound)), (h0_6, .inl (cI, 2000, .inl s0.work)), (h0_7, .inl (cI, 2000, .inl s0.answers))] sz) post) 0 0 (va_A [(h0, .inr (8, [.int s0.terms, .ref h0_1, .ref h0_2, .int s0.triples, .ref h0_3, .int s0.patterns, .ref h0_4, .ref h0_5, .int s0.found, .ref h0_6, .int s0.kept, .int s0.keptVariables, .ref h0_7, .int s0.thrown])), (h0_1, .inl (cI, 100, .inl s0.number)), (h0_2, .inl (cI, 40, .inl s0.term)), (h0_3, .inl (cI, 180, .inl s0.store)), (h0_4, .inl (cI, 9, .inl s0.query)), (h0_5, .inl (cI, 16, .inl s0.bound)), (h0_6, .inl (cI, 2000, .inl s0.work)), (h0_7, .inl (cI, 2000, .inl s0.answers))] sz) := by
  refine Met.ofW (cc := cX8_matches) (maxL := 2) (ret := (some .int)) (by decide) rfl ?_
  intro p e s m args below meth c s₁ B hml hv
  obtain ⟨rfl, hsz, hP, hK, hD0, hN⟩ := hv
  have hx := B.exec
  have hb := B.bytes
  have hr := B.returns
  have hts := atoms_spec (ws := wsX8_matches) B.pre
  have hown : s.vm.findClass RX8 = some m.cls := findClass_of_methodNamed B.named
  have hlocks := B.notSynchronized
  subst hsz
  have hD := hD0.self (sz := s.heap.size)
  generalize hAe : va_A [(h0, .inr (8, [.int s0.terms, .ref h0_1, .ref h0_2, .int s0.triples, .ref h0_3, .int s0.patterns, .ref h0_4, .ref h0_5, .int s0.found, .ref h0_6, .int s0.kept, .int s0.keptVariables, .ref h0_7, .int s0.thrown])), (h0_1, .inl (cI, 100, .inl s0.number)), (h0_2, .inl (cI, 40, .inl s0.term)), (h0_3, .inl (cI, 180, .inl s0.store)), (h0_4, .inl (cI, 9, .inl s0.query)), (h0_5, .inl (cI, 16, .inl s0.bound)), (h0_6, .inl (cI, 2000, .inl s0.work)), (h0_7, .inl (cI, 2000, .inl s0.answers))] s.heap.size = A at hD ⊢
  have hA : ∀ q : Nat, s.heap.size ≤ q → A q := fun q h => by rw [← hAe]; exact Or.inr h
  clear hAe hD0
  obtain ⟨s0_terms, s0_number, s0_term, s0_triples, s0_store, s0_patterns, s0_query, s0_bound, s0_found, s0_work, s0_kept, s0_keptVariables, s0_answers, s0_thrown⟩ := s0
  have hS : va_S A s.heap s.heap [] := va_S.rf
  have hP : va_P (dC, dI) vwCl [(h0, .inr (8, [.int s0_terms, .ref h0_1, .ref h0_2, .int s0_triples, .ref h0_3, .int s0_patterns, .ref h0_4, .ref h0_5, .int s0_found, .ref h0_6, .int s0_kept, .int s0_keptVariables, .ref h0_7, .int s0_thrown])), (h0_1, .inl (cI, 100, .inl s0_number)), (h0_2, .inl (cI, 40, .inl s0_term)), (h0_3, .inl (cI, 180, .inl s0_store)), (h0_4, .inl (cI, 9, .inl s0_query)), (h0_5, .inl (cI, 16, .inl s0_bound)), (h0_6, .inl (cI, 2000, .inl s0_work)), (h0_7, .inl (cI, 2000, .inl s0_answers))] s.heap := hP
  have hD : va_D A [(h0, .inr (8, [.int s0_terms, .ref h0_1, .ref h0_2, .int s0_triples, .ref h0_3, .int s0_patterns, .ref h0_4, .ref h0_5, .int s0_found, .ref h0_6, .int s0_kept, .int s0_keptVariables, .ref h0_7, .int s0_thrown])), (h0_1, .inl (cI, 100, .inl s0_number)), (h0_2, .inl (cI, 40, .inl s0_term)), (h0_3, .inl (cI, 180, .inl s0_store)), (h0_4, .inl (cI, 9, .inl s0_query)), (h0_5, .inl (cI, 16, .inl s0_bound)), (h0_6, .inl (cI, 2000, .inl s0_work)), (h0_7, .inl (cI, 2000, .inl s0_answers))] := hD
  have hl := lv_entry ([.ref h0, .int v1]) (n := 2) (Nat.le_of_ble_eq_true rfl)
  rw [lg_entry_eq]
  generalize (lg_sl ([.ref h0, .int v1]) ++ List.replicate (2 - (lg_sl ([.ref h0, .int v1])).length) Slot.unset).toArray = ls at hl ⊢
  have hl : lv_has ls 2 [(0, .ref h0), (1, .int v1)] := hl
  have hinX8 : ∀ w ∈ u_ws RX8 TX8 14, w ∈ wsX8_matches := by decide +kernel
  have lab_20 : ∀ (s0_1_terms : Int32) (s0_1_number : Nat → Int32) (s0_1_term : Nat → Int32) (s0_1_triples : Int32) (s0_1_store : Nat → Int32) (s0_1_patterns : Int32) (s0_1_query : Nat → Int32) (s0_1_bound : Nat → Int32) (s0_1_found : Int32) (s0_1_work : Nat → Int32) (s0_1_kept : Int32) (s0_1_keptVariables : Int32) (s0_1_answers : Nat → Int32) (s0_1_thrown : Int32) (x0_2 : Int32) (h : P_X8_matches_j20 (s0_1_terms, s0_1_number, s0_1_term, s0_1_triples, s0_1_store, s0_1_patterns, s0_1_query, s0_1_bound, s0_1_found, s0_1_work, s0_1_kept, s0_1_keptVariables, s0_1_answers, s0_1_thrown) v1 x0_2 post) (H : Heap) (locs : List Loc) (hP : va_P (dC, dI) vwCl [(h0, .inr (8, [.int s0_1_terms, .ref h0_1, .ref h0_2, .int s0_1_triples, .ref h0_3, .int s0_1_patterns, .ref h0_4, .ref h0_5, .int s0_1_found, .ref h0_6, .int s0_1_kept, .int s0_1_keptVariables, .ref h0_7, .int s0_1_thrown])), (h0_1, .inl (cI, 100, .inl s0_1_number)), (h0_2, .inl (cI, 40, .inl s0_1_term)), (h0_3, .inl (cI, 180, .inl s0_1_store)), (h0_4, .inl (cI, 9, .inl s0_1_query)), (h0_5, .inl (cI, 16, .inl s0_1_bound)), (h0_6, .inl (cI, 2000, .inl s0_1_work)), (h0_7, .inl (cI, 2000, .inl s0_1_answers))] H) (hD : va_D A [(h0, .inr (8, [.int s0_1_terms, .ref h0_1, .ref h0_2, .int s0_1_triples, .ref h0_3, .int s0_1_patterns, .ref h0_4, .ref h0_5, .int s0_1_found, .ref h0_6, .int s0_1_kept, .int s0_1_keptVariables, .ref h0_7, .int s0_1_thrown])), (h0_1, .inl (cI, 100, .inl s0_1_number)), (h0_2, .inl (cI, 40, .inl s0_1_term)), (h0_3, .inl (cI, 180, .inl s0_1_store)), (h0_4, .inl (cI, 9, .inl s0_1_query)), (h0_5, .inl (cI, 16, .inl s0_1_bound)), (h0_6, .inl (cI, 2000, .inl s0_1_work)), (h0_7, .inl (cI, 2000, .inl s0_1_answers))]) (hS : va_S A s.heap H locs) (ls : Array Slot) (hl : lv_has ls 2 [(0, .ref h0), (1, .int v1)]), W p l e rm_X8_matches s m ([.ref h0, .int v1] : List Value).toArray below meth c H locs 0 0 (MQ below (Q_X8_matches dC dI cI h0 h0_1 h0_2 h0_3 h0_4 h0_5 h0_6 h0_7 (s0_terms, s0_number, s0_term, s0_triples, s0_store, s0_patterns, s0_query, s0_bound, s0_found, s0_work, s0_kept, s0_keptVariables, s0_answers, s0_thrown) A post) (([.ref h0, .int v1] : List Value).toArray) s 0 0 A) (F0 m 20 ls [.int x0_2, .ref h0]) := by
    intro s0_1_terms s0_1_number s0_1_term s0_1_triples s0_1_store s0_1_patterns s0_1_query s0_1_bound s0_1_found s0_1_work s0_1_kept s0_1_keptVariables s0_1_answers s0_1_thrown x0_2 h H locs hP hD hS ls hl
    refine va_put (D := (dC, dI)) (ci := 8) (v := .int x0_2) (ty := .int) (C := RX8) (T := TX8) (N := 14) hx hb hts (hinX8) tyX8 tyX8_ok nmX8 hown hK hP hD hS 0 rfl rfl 13 (by decide) (hts (.fieldLink RX8 31 "TripleJoinsModel" "thrown" "I") (by decide +kernel)) (fun _ h9 => h9) rfl (by decide +kernel) rfl rfl (Nat.le_of_ble_eq_true rfl) dX8_matches_20 (fun H locs hP hD hS => ?_)
    have hP : va_P (dC, dI) vwCl [(h0, .inr (8, [.int s0_1_terms, .ref h0_1, .ref h0_2, .int s0_1_triples, .ref h0_3, .int s0_1_patterns, .ref h0_4, .ref h0_5, .int s0_1_found, .ref h0_6, .int s0_1_kept, .int s0_1_keptVariables, .ref h0_7, .int x0_2])), (h0_1, .inl (cI, 100, .inl s0_1_number)), (h0_2, .inl (cI, 40, .inl s0_1_term)), (h0_3, .inl (cI, 180, .inl s0_1_store)), (h0_4, .inl (cI, 9, .inl s0_1_query)), (h0_5, .inl (cI, 16, .inl s0_1_bound)), (h0_6, .inl (cI, 2000, .inl s0_1_work)), (h0_7, .inl (cI, 2000, .inl s0_1_answers))] _ := hP
    have hD : va_D A [(h0, .inr (8, [.int s0_1_terms, .ref h0_1, .ref h0_2, .int s0_1_triples, .ref h0_3, .int s0_1_patterns, .ref h0_4, .ref h0_5, .int s0_1_found, .ref h0_6, .int s0_1_kept, .int s0_1_keptVariables, .ref h0_7, .int x0_2])), (h0_1, .inl (cI, 100, .inl s0_1_number)), (h0_2, .inl (cI, 40, .inl s0_1_term)), (h0_3, .inl (cI, 180, .inl s0_1_store)), (h0_4, .inl (cI, 9, .inl s0_1_query)), (h0_5, .inl (cI, 16, .inl s0_1_bound)), (h0_6, .inl (cI, 2000, .inl s0_1_work)), (h0_7, .inl (cI, 2000, .inl s0_1_answers))] := hD
    refine lv_aload_n hx hb dX8_matches_23 rfl (lv_at hl 0 rfl) ?_
    refine va_get (D := (dC, dI)) (ci := 8) (v := .int x0_2) (C := RX8) (T := TX8) (N := 14) hx hb hts (hinX8) hown hK hP 0 rfl rfl 13 (by decide) (hts (.fieldLink RX8 31 "TripleJoinsModel" "thrown" "I") (by decide +kernel)) (fun _ h9 => h9) rfl dX8_matches_24 ?_
    obtain ⟨ht_, hf_⟩ := h
    refine lv_if_le (tgt := 34) hx hb dX8_matches_27 (by decide) (fun c_3 => ?_) (fun c_3 => ?_)
    · have h := ht_ c_3
      refine lv_aload_n hx hb dX8_matches_34 rfl (lv_at hl 0 rfl) ?_
      refine lv_iload_n hx hb dX8_matches_35 rfl (lv_at hl 1 rfl) ?_
      have hPc := hP.sub (ws' := [(h0, .inr (8, [.int s0_1_terms, .ref h0_1, .ref h0_2, .int s0_1_triples, .ref h0_3, .int s0_1_patterns, .ref h0_4, .ref h0_5, .int s0_1_found, .ref h0_6, .int s0_1_kept, .int s0_1_keptVariables, .ref h0_7, .int x0_2])), (h0_1, .inl (cI, 100, .inl s0_1_number)), (h0_2, .inl (cI, 40, .inl s0_1_term)), (h0_3, .inl (cI, 180, .inl s0_1_store)), (h0_4, .inl (cI, 9, .inl s0_1_query)), (h0_5, .inl (cI, 16, .inl s0_1_bound)), (h0_6, .inl (cI, 2000, .inl s0_1_work)), (h0_7, .inl (cI, 2000, .inl s0_1_answers))]) [0, 1, 2, 3, 4, 5, 6, 7] rfl
      have hDc := hD.sub (ws' := [(h0, .inr (8, [.int s0_1_terms, .ref h0_1, .ref h0_2, .int s0_1_triples, .ref h0_3, .int s0_1_patterns, .ref h0_4, .ref h0_5, .int s0_1_found, .ref h0_6, .int s0_1_kept, .int s0_1_keptVariables, .ref h0_7, .int x0_2])), (h0_1, .inl (cI, 100, .inl s0_1_number)), (h0_2, .inl (cI, 40, .inl s0_1_term)), (h0_3, .inl (cI, 180, .inl s0_1_store)), (h0_4, .inl (cI, 9, .inl s0_1_query)), (h0_5, .inl (cI, 16, .inl s0_1_bound)), (h0_6, .inl (cI, 2000, .inl s0_1_work)), (h0_7, .inl (cI, 2000, .inl s0_1_answers))]) [0, 1, 2, 3, 4, 5, 6, 7] (by decide) rfl
      have hFc := va_free (wc := [(h0, .inr (8, [.int s0_1_terms, .ref h0_1, .ref h0_2, .int s0_1_triples, .ref h0_3, .int s0_1_patterns, .ref h0_4, .ref h0_5, .int s0_1_found, .ref h0_6, .int s0_1_kept, .int s0_1_keptVariables, .ref h0_7, .int x0_2])), (h0_1, .inl (cI, 100, .inl s0_1_number)), (h0_2, .inl (cI, 40, .inl s0_1_term)), (h0_3, .inl (cI, 180, .inl s0_1_store)), (h0_4, .inl (cI, 9, .inl s0_1_query)), (h0_5, .inl (cI, 16, .inl s0_1_bound)), (h0_6, .inl (cI, 2000, .inl s0_1_work)), (h0_7, .inl (cI, 2000, .inl s0_1_answers))]) hD hS hA [0, 1, 2, 3, 4, 5, 6, 7] rfl
      refine va_calli (va_runV (As := [.int v1]) (rest := []) ⟨hx, hb, hml, hown, hts⟩ (c_X8_matching l dC dI cI h0 h0_1 h0_2 h0_3 h0_4 h0_5 h0_6 h0_7 _ (s0_1_terms, s0_1_number, s0_1_term, s0_1_triples, s0_1_store, s0_1_patterns, s0_1_query, s0_1_bound, s0_1_found, s0_1_work, s0_1_kept, s0_1_keptVariables, s0_1_answers, x0_2) v1 _ h) (cwV 1 hts gX8_matches_X8_matching rfl rfl rfl (by decide +kernel) ⟨Nat.le_of_ble_eq_true rfl, Nat.le_of_ble_eq_true rfl⟩) (pb_V hPc hK hDc hN (ci := 8) (q0 := 0) rfl rfl) rfl rfl hl.1 rfl (lv_room (Nat.le_of_ble_eq_true rfl)) dX8_matches_36 ⟨Nat.zero_le _, Nat.zero_le _⟩) hS (fun q _ h => hFc q h) hFc (fun r_5 u_4 t H locs ht hvm h hB hz1 hk1 hS => ?_)
      obtain ⟨u_4_terms, u_4_number, u_4_term, u_4_triples, u_4_store, u_4_patterns, u_4_query, u_4_bound, u_4_found, u_4_work, u_4_kept, u_4_keptVariables, u_4_answers, u_4_thrown⟩ := u_4
      obtain ⟨hP1, hD1⟩ := hB
      rw [ht] at hP1
      obtain ⟨hP, hD⟩ := cl_join (wr := []) (w1 := [(h0, .inr (8, [.int u_4_terms, .ref h0_1, .ref h0_2, .int u_4_triples, .ref h0_3, .int u_4_patterns, .ref h0_4, .ref h0_5, .int u_4_found, .ref h0_6, .int u_4_kept, .int u_4_keptVariables, .ref h0_7, .int u_4_thrown])), (h0_1, .inl (cI, 100, .inl u_4_number)), (h0_2, .inl (cI, 40, .inl u_4_term)), (h0_3, .inl (cI, 180, .inl u_4_store)), (h0_4, .inl (cI, 9, .inl u_4_query)), (h0_5, .inl (cI, 16, .inl u_4_bound)), (h0_6, .inl (cI, 2000, .inl u_4_work)), (h0_7, .inl (cI, 2000, .inl u_4_answers))]) (ws' := [(h0, .inr (8, [.int u_4_terms, .ref h0_1, .ref h0_2, .int u_4_triples, .ref h0_3, .int u_4_patterns, .ref h0_4, .ref h0_5, .int u_4_found, .ref h0_6, .int u_4_kept, .int u_4_keptVariables, .ref h0_7, .int u_4_thrown])), (h0_1, .inl (cI, 100, .inl u_4_number)), (h0_2, .inl (cI, 40, .inl u_4_term)), (h0_3, .inl (cI, 180, .inl u_4_store)), (h0_4, .inl (cI, 9, .inl u_4_query)), (h0_5, .inl (cI, 16, .inl u_4_bound)), (h0_6, .inl (cI, 2000, .inl u_4_work)), (h0_7, .inl (cI, 2000, .inl u_4_answers))]) hP hD [0, 1, 2, 3, 4, 5, 6, 7] [] [0, 1, 2, 3, 4, 5, 6, 7] rfl rfl (by decide) (by decide) (by decide) rfl hk1 hFc hP1 hD1
      exact W.iret (v := r_5) hx hb hr (fun t ht hW => ⟨⟨r_5, (u_4_terms, u_4_number, u_4_term, u_4_triples, u_4_store, u_4_patterns, u_4_query, u_4_bound, u_4_found, u_4_work, u_4_kept, u_4_keptVariables, u_4_answers, u_4_thrown), rfl, h, ⟨by rw [ht]; exact hP, hD⟩⟩, hS.F ht⟩) hS.2.2 dX8_matches_39
    · have h := hf_ c_3
      refine lv_iconst (v := (0 : Int32)) hx hb dX8_matches_30 (by decide) ?_
      refine lv_goto (tgt := 39) hx hb dX8_matches_31 (by decide) ?_
      exact W.iret (v := (0 : Int32)) hx hb hr (fun t ht hW => ⟨⟨(0 : Int32), (s0_1_terms, s0_1_number, s0_1_term, s0_1_triples, s0_1_store, s0_1_patterns, s0_1_query, s0_1_bound, s0_1_found, s0_1_work, s0_1_kept, s0_1_keptVariables, s0_1_answers, x0_2), rfl, h, ⟨by rw [ht]; exact hP, hD⟩⟩, hS.F ht⟩) hS.2.2 dX8_matches_39
  refine lv_aload_n hx hb dX8_matches_0 rfl (lv_at hl 0 rfl) ?_
  refine lv_iload_n hx hb dX8_matches_1 rfl (lv_at hl 1 rfl) ?_
  refine lv_iconst (v := (0 : Int32)) hx hb dX8_matches_2 (by decide) ?_
  refine lv_aload_n hx hb dX8_matches_3 rfl (lv_at hl 0 rfl) ?_
  refine va_get (D := (dC, dI)) (ci := 8) (v := .int s0_patterns) (C := RX8) (T := TX8) (N := 14) hx hb hts (hinX8) hown hK hP 0 rfl rfl 5 (by decide) (hts (.fieldLink RX8 67 "TripleJoinsModel" "patterns" "I") (by decide +kernel)) (fun _ h9 => h9) rfl dX8_matches_4 ?_
  refine lv_iconst (v := (1 : Int32)) hx hb dX8_matches_7 (by decide) ?_
  refine lv_isub hx hb dX8_matches_8 ?_
  have hPc := hP.sub (ws' := []) [] rfl
  have hDc := hD.sub (ws' := []) [] (by decide) rfl
  have hFc := fr0 hA hS
  refine va_calli (va_runS (As := [.int v1, .int (0 : Int32), .int (s0_patterns - (1 : Int32))]) (rest := [.ref h0]) ⟨hx, hb, hml, hown, hts⟩ (c_X8_isIn l dC dI cI  _ v1 (0 : Int32) (s0_patterns - (1 : Int32)) _ h) (va_cwS 3 hts gX8_matches_X8_isIn rfl rfl rfl (by decide +kernel) ⟨Nat.le_of_ble_eq_true rfl, Nat.le_of_ble_eq_true rfl⟩) (pb_S hPc hK hDc hN) rfl rfl hl.1 rfl (lv_room (Nat.le_of_ble_eq_true rfl)) dX8_matches_9 ⟨Nat.zero_le _, Nat.zero_le _⟩) hS (fun q _ h => hFc q h) hFc (fun r_7 u_6 t H locs ht hvm h hB hz1 hk1 hS => ?_)
  have hP := vaPk hP hk1
  obtain ⟨ht_, hf_⟩ := h
  refine lv_if_eq (tgt := 19) hx hb dX8_matches_12 (by decide) (fun c_8 => ?_) (fun c_8 => ?_)
  · have h := ht_ c_8
    refine lv_iconst (v := (1 : Int32)) hx hb dX8_matches_19 (by decide) ?_
    exact lab_20 s0_terms s0_number s0_term s0_triples s0_store s0_patterns s0_query s0_bound s0_found s0_work s0_kept s0_keptVariables s0_answers s0_thrown (1 : Int32) h _ _ hP hD hS _ hl
  · have h := hf_ c_8
    refine lv_iconst (v := (0 : Int32)) hx hb dX8_matches_15 (by decide) ?_
    refine lv_goto (tgt := 20) hx hb dX8_matches_16 (by decide) ?_
    exact lab_20 s0_terms s0_number s0_term s0_triples s0_store s0_patterns s0_query s0_bound s0_found s0_work s0_kept s0_keptVariables s0_answers s0_thrown (0 : Int32) h _ _ hP hD hS _ hl
abbrev Q_X8_variablesOf (dC : Nat → ClassId) (dI : Nat → Nat → Nat) (cI : ClassId) (h0 h0_1 h0_2 h0_3 h0_4 h0_5 h0_6 h0_7 : Nat) (s0 : ModS) (A : Nat → Prop) (post : Int32 → Prop) : Array Value → State → Outcome → State → Prop := va_Qi (fun (r : Int32) (_ : Unit) => post r) (fun _ _ => True) A
abbrev rm_X8_variablesOf : Room := { frames := 0, cells := 0, slots := 0, locals := 0 }
set_option maxHeartbeats 4000000 in
set_option maxRecDepth 100000 in
theorem c_X8_variablesOf (l : Launch) (dC : Nat → ClassId) (dI : Nat → Nat → Nat) (cI : ClassId) (h0 h0_1 h0_2 h0_3 h0_4 h0_5 h0_6 h0_7 : Nat) (sz : Nat) (s0 : ModS) (v1 : Int32) (post : Int32 → Prop) (h : P_X8_variablesOf s0 v1 post) : Met l yX8_variablesOf wsX8_variablesOf rm_X8_variablesOf (va_Pc [.ref h0, .int v1] (cpre (dC, dI) [(cI, .int)] [(h0, .inr (8, [.int s0.terms, .ref h0_1, .ref h0_2, .int s0.triples, .ref h0_3, .int s0.patterns, .ref h0_4, .ref h0_5, .int s0.found, .ref h0_6, .int s0.kept, .int s0.keptVariables, .ref h0_7, .int s0.thrown])), (h0_1, .inl (cI, 100, .inl s0.number)), (h0_2, .inl (cI, 40, .inl s0.term)), (h0_3, .inl (cI, 180, .inl s0.store)), (h0_4, .inl (cI, 9, .inl s0.query)), (h0_5, .inl (cI, 16, .inl s0.bound)), (h0_6, .inl (cI, 2000, .inl s0.work)), (h0_7, .inl (cI, 2000, .inl s0.answers))] sz)) (Q_X8_variablesOf dC dI cI h0 h0_1 h0_2 h0_3 h0_4 h0_5 h0_6 h0_7 s0 (va_A [] sz) post) 0 0 (va_A [] sz) := by
  refine Met.ofW (cc := cX8_variablesOf) (maxL := 4) (ret := (some .int)) (by decide) rfl ?_
  intro p e s m args below meth c s₁ B hml hv
  obtain ⟨rfl, hsz, hP, hK, hD0, hN⟩ := hv
  have hx := B.exec
  have hb := B.bytes
  have hr := B.returns
  have hts := atoms_spec (ws := wsX8_variablesOf) B.pre
  have hown : s.vm.findClass RX8 = some m.cls := findClass_of_methodNamed B.named
  have hlocks := B.notSynchronized
  subst hsz
  have hD := hD0
  generalize hAe : va_A [] s.heap.size = A
  have hA : ∀ q : Nat, s.heap.size ≤ q → A q := fun q h => by rw [← hAe]; exact Or.inr h
  clear hAe hD0
  obtain ⟨s0_terms, s0_number, s0_term, s0_triples, s0_store, s0_patterns, s0_query, s0_bound, s0_found, s0_work, s0_kept, s0_keptVariables, s0_answers, s0_thrown⟩ := s0
  have hS : va_S A s.heap s.heap [] := va_S.rf
  have hP : va_P (dC, dI) vwCl [(h0, .inr (8, [.int s0_terms, .ref h0_1, .ref h0_2, .int s0_triples, .ref h0_3, .int s0_patterns, .ref h0_4, .ref h0_5, .int s0_found, .ref h0_6, .int s0_kept, .int s0_keptVariables, .ref h0_7, .int s0_thrown])), (h0_1, .inl (cI, 100, .inl s0_number)), (h0_2, .inl (cI, 40, .inl s0_term)), (h0_3, .inl (cI, 180, .inl s0_store)), (h0_4, .inl (cI, 9, .inl s0_query)), (h0_5, .inl (cI, 16, .inl s0_bound)), (h0_6, .inl (cI, 2000, .inl s0_work)), (h0_7, .inl (cI, 2000, .inl s0_answers))] s.heap := hP
  have hD : va_D (fun _ : Nat => True) [(h0, .inr (8, [.int s0_terms, .ref h0_1, .ref h0_2, .int s0_triples, .ref h0_3, .int s0_patterns, .ref h0_4, .ref h0_5, .int s0_found, .ref h0_6, .int s0_kept, .int s0_keptVariables, .ref h0_7, .int s0_thrown])), (h0_1, .inl (cI, 100, .inl s0_number)), (h0_2, .inl (cI, 40, .inl s0_term)), (h0_3, .inl (cI, 180, .inl s0_store)), (h0_4, .inl (cI, 9, .inl s0_query)), (h0_5, .inl (cI, 16, .inl s0_bound)), (h0_6, .inl (cI, 2000, .inl s0_work)), (h0_7, .inl (cI, 2000, .inl s0_answers))] := hD
  have hl := lv_entry ([.ref h0, .int v1]) (n := 4) (Nat.le_of_ble_eq_true rfl)
  rw [lg_entry_eq]
  generalize (lg_sl ([.ref h0, .int v1]) ++ List.replicate (4 - (lg_sl ([.ref h0, .int v1])).length) Slot.unset).toArray = ls at hl ⊢
  have hl : lv_has ls 4 [(0, .ref h0), (1, .int v1)] := hl
  have hinX8 : ∀ w ∈ u_ws RX8 TX8 14, w ∈ wsX8_variablesOf := by decide +kernel
  refine lv_iconst (v := (0 : Int32)) hx hb dX8_variablesOf_0 (by decide) ?_
  refine lv_istore_n (lv' := [(2, .int (0 : Int32)), (0, .ref h0), (1, .int v1)]) hx hb dX8_variablesOf_1 rfl hl (by decide) rfl (fun ls hl => ?_)
  refine lv_iconst (v := (3 : Int32)) hx hb dX8_variablesOf_2 (by decide) ?_
  refine lv_iload_n hx hb dX8_variablesOf_3 rfl (lv_at hl 2 rfl) ?_
  refine lv_imul hx hb dX8_variablesOf_4 ?_
  refine lv_istore_n (lv' := [(3, .int ((3 : Int32) * v1)), (2, .int (0 : Int32)), (0, .ref h0), (1, .int v1)]) hx hb dX8_variablesOf_5 rfl hl (by decide) rfl (fun ls hl => ?_)
  have hl : lv_has ls 4 [(0, .ref h0), (1, .int v1), (2, .int (0 : Int32)), (3, .int ((3 : Int32) * v1))] := lv_sub hl [2, 3, 1, 0] rfl
  obtain ⟨I_1, hI_1, n_1, h⟩ := h
  have loop_1 : ∀ (n_1 : Nat) (v2_2 : Int32) (v3_3 : Int32) (h : I_1 n_1 (v2_2, v3_3)) (H : Heap) (locs : List Loc) (hP : va_P (dC, dI) vwCl [(h0, .inr (8, [.int s0_terms, .ref h0_1, .ref h0_2, .int s0_triples, .ref h0_3, .int s0_patterns, .ref h0_4, .ref h0_5, .int s0_found, .ref h0_6, .int s0_kept, .int s0_keptVariables, .ref h0_7, .int s0_thrown])), (h0_1, .inl (cI, 100, .inl s0_number)), (h0_2, .inl (cI, 40, .inl s0_term)), (h0_3, .inl (cI, 180, .inl s0_store)), (h0_4, .inl (cI, 9, .inl s0_query)), (h0_5, .inl (cI, 16, .inl s0_bound)), (h0_6, .inl (cI, 2000, .inl s0_work)), (h0_7, .inl (cI, 2000, .inl s0_answers))] H) (hD : va_D (fun _ : Nat => True) [(h0, .inr (8, [.int s0_terms, .ref h0_1, .ref h0_2, .int s0_triples, .ref h0_3, .int s0_patterns, .ref h0_4, .ref h0_5, .int s0_found, .ref h0_6, .int s0_kept, .int s0_keptVariables, .ref h0_7, .int s0_thrown])), (h0_1, .inl (cI, 100, .inl s0_number)), (h0_2, .inl (cI, 40, .inl s0_term)), (h0_3, .inl (cI, 180, .inl s0_store)), (h0_4, .inl (cI, 9, .inl s0_query)), (h0_5, .inl (cI, 16, .inl s0_bound)), (h0_6, .inl (cI, 2000, .inl s0_work)), (h0_7, .inl (cI, 2000, .inl s0_answers))]) (hS : va_S A s.heap H locs) (ls : Array Slot) (hl : lv_has ls 4 [(0, .ref h0), (1, .int v1), (2, .int v2_2), (3, .int v3_3)]), W p l e rm_X8_variablesOf s m ([.ref h0, .int v1] : List Value).toArray below meth c H locs 0 0 (MQ below (Q_X8_variablesOf dC dI cI h0 h0_1 h0_2 h0_3 h0_4 h0_5 h0_6 h0_7 (s0_terms, s0_number, s0_term, s0_triples, s0_store, s0_patterns, s0_query, s0_bound, s0_found, s0_work, s0_kept, s0_keptVariables, s0_answers, s0_thrown) A post) (([.ref h0, .int v1] : List Value).toArray) s 0 0 A) (F0 m 6 ls []) := by
    intro n_1
    induction n_1 using Nat.strongRecOn with
    | ind n_1 ih_1 =>
      intro v2_2 v3_3 h H locs hP hD hS ls hl
      have h := hI_1 n_1 _ h
      refine lv_iload_n hx hb dX8_variablesOf_6 rfl (lv_at hl 3 rfl) ?_
      refine lv_iconst (v := (3 : Int32)) hx hb dX8_variablesOf_7 (by decide) ?_
      refine lv_iload_n hx hb dX8_variablesOf_8 rfl (lv_at hl 1 rfl) ?_
      refine lv_imul hx hb dX8_variablesOf_9 ?_
      refine lv_iconst (v := (3 : Int32)) hx hb dX8_variablesOf_10 (by decide) ?_
      refine lv_iadd hx hb dX8_variablesOf_11 ?_
      obtain ⟨ht_, hf_⟩ := h
      refine lv_icmp_ge (tgt := 47) hx hb dX8_variablesOf_12 (by decide) (fun c_4 => ?_) (fun c_4 => ?_)
      · have h := ht_ c_4
        refine lv_iload_n hx hb dX8_variablesOf_47 rfl (lv_at hl 2 rfl) ?_
        exact W.iret (v := v2_2) hx hb hr (fun t ht hW => ⟨⟨v2_2, (), rfl, h, trivial⟩, hS.F ht⟩) hS.2.2 dX8_variablesOf_48
      · have h := hf_ c_4
        refine lv_iload_n hx hb dX8_variablesOf_15 rfl (lv_at hl 2 rfl) ?_
        refine lv_aload_n hx hb dX8_variablesOf_16 rfl (lv_at hl 0 rfl) ?_
        refine va_get (D := (dC, dI)) (ci := 8) (v := .ref h0_4) (C := RX8) (T := TX8) (N := 14) hx hb hts (hinX8) hown hK hP 0 rfl rfl 6 (by decide) (hts (.fieldLink RX8 19 "TripleJoinsModel" "query" "[I") (by decide +kernel)) (fun _ h9 => h9) rfl dX8_variablesOf_17 ?_
        refine lv_iload_n hx hb dX8_variablesOf_20 rfl (lv_at hl 3 rfl) ?_
        obtain ⟨hin, h⟩ := h
        refine va_iald (n := 9) hx hb hK hP 4 0 rfl rfl hin dX8_variablesOf_21 ?_
        obtain ⟨ht_, hf_⟩ := h
        refine lv_if_ge (tgt := 38) hx hb dX8_variablesOf_22 (by decide) (fun c_5 => ?_) (fun c_5 => ?_)
        · have h := ht_ c_5
          refine lv_iconst (v := (0 : Int32)) hx hb dX8_variablesOf_38 (by decide) ?_
          refine lv_ior hx hb dX8_variablesOf_39 ?_
          refine lv_istore_n (lv' := [(2, .int (v2_2 ||| (0 : Int32))), (0, .ref h0), (1, .int v1), (3, .int v3_3)]) hx hb dX8_variablesOf_40 rfl hl (by decide) rfl (fun ls hl => ?_)
          refine lv_iinc (v := (v3_3 + (1 : Int32))) (lv' := [(3, .int (v3_3 + (1 : Int32))), (2, .int (v2_2 ||| (0 : Int32))), (0, .ref h0), (1, .int v1)]) hx hb dX8_variablesOf_41 hl (k := 3) rfl rfl (by decide) rfl (fun ls hl => ?_)
          refine lv_goto (tgt := 6) hx hb dX8_variablesOf_44 (by decide) ?_
          have hl : lv_has ls 4 [(0, .ref h0), (1, .int v1), (2, .int (v2_2 ||| (0 : Int32))), (3, .int (v3_3 + (1 : Int32)))] := lv_sub hl [2, 3, 1, 0] rfl
          obtain ⟨k_6, hk_7, h⟩ := h
          exact ih_1 k_6 hk_7 (v2_2 ||| (0 : Int32)) (v3_3 + (1 : Int32)) h _ _ hP hD hS _ hl
        · have h := hf_ c_5
          refine lv_iconst (v := (1 : Int32)) hx hb dX8_variablesOf_25 (by decide) ?_
          refine lv_iconst (v := (-1 : Int32)) hx hb dX8_variablesOf_26 (by decide) ?_
          refine lv_aload_n hx hb dX8_variablesOf_27 rfl (lv_at hl 0 rfl) ?_
          refine va_get (D := (dC, dI)) (ci := 8) (v := .ref h0_4) (C := RX8) (T := TX8) (N := 14) hx hb hts (hinX8) hown hK hP 0 rfl rfl 6 (by decide) (hts (.fieldLink RX8 19 "TripleJoinsModel" "query" "[I") (by decide +kernel)) (fun _ h9 => h9) rfl dX8_variablesOf_28 ?_
          refine lv_iload_n hx hb dX8_variablesOf_31 rfl (lv_at hl 3 rfl) ?_
          obtain ⟨hin, h⟩ := h
          refine va_iald (n := 9) hx hb hK hP 4 0 rfl rfl hin dX8_variablesOf_32 ?_
          refine lv_isub hx hb dX8_variablesOf_33 ?_
          refine lv_ishl hx hb dX8_variablesOf_34 ?_
          refine lv_goto (tgt := 39) hx hb dX8_variablesOf_35 (by decide) ?_
          refine lv_ior hx hb dX8_variablesOf_39 ?_
          refine lv_istore_n (lv' := [(2, .int (v2_2 ||| ((1 : Int32) <<< (((-1 : Int32) - (s0_query (v3_3).toNatClampNeg)) &&& 31)))), (0, .ref h0), (1, .int v1), (3, .int v3_3)]) hx hb dX8_variablesOf_40 rfl hl (by decide) rfl (fun ls hl => ?_)
          refine lv_iinc (v := (v3_3 + (1 : Int32))) (lv' := [(3, .int (v3_3 + (1 : Int32))), (2, .int (v2_2 ||| ((1 : Int32) <<< (((-1 : Int32) - (s0_query (v3_3).toNatClampNeg)) &&& 31)))), (0, .ref h0), (1, .int v1)]) hx hb dX8_variablesOf_41 hl (k := 3) rfl rfl (by decide) rfl (fun ls hl => ?_)
          refine lv_goto (tgt := 6) hx hb dX8_variablesOf_44 (by decide) ?_
          have hl : lv_has ls 4 [(0, .ref h0), (1, .int v1), (2, .int (v2_2 ||| ((1 : Int32) <<< (((-1 : Int32) - (s0_query (v3_3).toNatClampNeg)) &&& 31)))), (3, .int (v3_3 + (1 : Int32)))] := lv_sub hl [2, 3, 1, 0] rfl
          obtain ⟨k_8, hk_9, h⟩ := h
          exact ih_1 k_8 hk_9 (v2_2 ||| ((1 : Int32) <<< (((-1 : Int32) - (s0_query (v3_3).toNatClampNeg)) &&& 31))) (v3_3 + (1 : Int32)) h _ _ hP hD hS _ hl
  exact loop_1 n_1 (0 : Int32) ((3 : Int32) * v1) h _ _ hP hD hS _ hl
abbrev Q_X8_allVariables (dC : Nat → ClassId) (dI : Nat → Nat → Nat) (cI : ClassId) (h0 h0_1 h0_2 h0_3 h0_4 h0_5 h0_6 h0_7 : Nat) (s0 : ModS) (A : Nat → Prop) (post : Int32 → Prop) : Array Value → State → Outcome → State → Prop := va_Qi (fun (r : Int32) (_ : Unit) => post r) (fun _ _ => True) A
abbrev rm_X8_allVariables : Room := { frames := 1, cells := 0, slots := 0, locals := 23 }
set_option maxHeartbeats 4000000 in
set_option maxRecDepth 100000 in
theorem c_X8_allVariables (l : Launch) (dC : Nat → ClassId) (dI : Nat → Nat → Nat) (cI : ClassId) (h0 h0_1 h0_2 h0_3 h0_4 h0_5 h0_6 h0_7 : Nat) (sz : Nat) (s0 : ModS) (post : Int32 → Prop) (h : P_X8_allVariables s0 post) : Met l yX8_allVariables wsX8_allVariables rm_X8_allVariables (va_Pc [.ref h0] (cpre (dC, dI) [(cI, .int)] [(h0, .inr (8, [.int s0.terms, .ref h0_1, .ref h0_2, .int s0.triples, .ref h0_3, .int s0.patterns, .ref h0_4, .ref h0_5, .int s0.found, .ref h0_6, .int s0.kept, .int s0.keptVariables, .ref h0_7, .int s0.thrown])), (h0_1, .inl (cI, 100, .inl s0.number)), (h0_2, .inl (cI, 40, .inl s0.term)), (h0_3, .inl (cI, 180, .inl s0.store)), (h0_4, .inl (cI, 9, .inl s0.query)), (h0_5, .inl (cI, 16, .inl s0.bound)), (h0_6, .inl (cI, 2000, .inl s0.work)), (h0_7, .inl (cI, 2000, .inl s0.answers))] sz)) (Q_X8_allVariables dC dI cI h0 h0_1 h0_2 h0_3 h0_4 h0_5 h0_6 h0_7 s0 (va_A [] sz) post) 0 0 (va_A [] sz) := by
  refine Met.ofW (cc := cX8_allVariables) (maxL := 3) (ret := (some .int)) (by decide) rfl ?_
  intro p e s m args below meth c s₁ B hml hv
  obtain ⟨rfl, hsz, hP, hK, hD0, hN⟩ := hv
  have hx := B.exec
  have hb := B.bytes
  have hr := B.returns
  have hts := atoms_spec (ws := wsX8_allVariables) B.pre
  have hown : s.vm.findClass RX8 = some m.cls := findClass_of_methodNamed B.named
  have hlocks := B.notSynchronized
  subst hsz
  have hD := hD0
  generalize hAe : va_A [] s.heap.size = A
  have hA : ∀ q : Nat, s.heap.size ≤ q → A q := fun q h => by rw [← hAe]; exact Or.inr h
  clear hAe hD0
  obtain ⟨s0_terms, s0_number, s0_term, s0_triples, s0_store, s0_patterns, s0_query, s0_bound, s0_found, s0_work, s0_kept, s0_keptVariables, s0_answers, s0_thrown⟩ := s0
  have hS : va_S A s.heap s.heap [] := va_S.rf
  have hP : va_P (dC, dI) vwCl [(h0, .inr (8, [.int s0_terms, .ref h0_1, .ref h0_2, .int s0_triples, .ref h0_3, .int s0_patterns, .ref h0_4, .ref h0_5, .int s0_found, .ref h0_6, .int s0_kept, .int s0_keptVariables, .ref h0_7, .int s0_thrown])), (h0_1, .inl (cI, 100, .inl s0_number)), (h0_2, .inl (cI, 40, .inl s0_term)), (h0_3, .inl (cI, 180, .inl s0_store)), (h0_4, .inl (cI, 9, .inl s0_query)), (h0_5, .inl (cI, 16, .inl s0_bound)), (h0_6, .inl (cI, 2000, .inl s0_work)), (h0_7, .inl (cI, 2000, .inl s0_answers))] s.heap := hP
  have hD : va_D (fun _ : Nat => True) [(h0, .inr (8, [.int s0_terms, .ref h0_1, .ref h0_2, .int s0_triples, .ref h0_3, .int s0_patterns, .ref h0_4, .ref h0_5, .int s0_found, .ref h0_6, .int s0_kept, .int s0_keptVariables, .ref h0_7, .int s0_thrown])), (h0_1, .inl (cI, 100, .inl s0_number)), (h0_2, .inl (cI, 40, .inl s0_term)), (h0_3, .inl (cI, 180, .inl s0_store)), (h0_4, .inl (cI, 9, .inl s0_query)), (h0_5, .inl (cI, 16, .inl s0_bound)), (h0_6, .inl (cI, 2000, .inl s0_work)), (h0_7, .inl (cI, 2000, .inl s0_answers))] := hD
  have hl := lv_entry ([.ref h0]) (n := 3) (Nat.le_of_ble_eq_true rfl)
  rw [lg_entry_eq]
  generalize (lg_sl ([.ref h0]) ++ List.replicate (3 - (lg_sl ([.ref h0])).length) Slot.unset).toArray = ls at hl ⊢
  have hl : lv_has ls 3 [(0, .ref h0)] := hl
  have hinX8 : ∀ w ∈ u_ws RX8 TX8 14, w ∈ wsX8_allVariables := by decide +kernel
  refine lv_iconst (v := (0 : Int32)) hx hb dX8_allVariables_0 (by decide) ?_
  refine lv_istore_n (lv' := [(1, .int (0 : Int32)), (0, .ref h0)]) hx hb dX8_allVariables_1 rfl hl (by decide) rfl (fun ls hl => ?_)
  refine lv_iconst (v := (0 : Int32)) hx hb dX8_allVariables_2 (by decide) ?_
  refine lv_istore_n (lv' := [(2, .int (0 : Int32)), (1, .int (0 : Int32)), (0, .ref h0)]) hx hb dX8_allVariables_3 rfl hl (by decide) rfl (fun ls hl => ?_)
  have hl : lv_has ls 3 [(0, .ref h0), (1, .int (0 : Int32)), (2, .int (0 : Int32))] := lv_sub hl [2, 1, 0] rfl
  obtain ⟨I_1, hI_1, n_1, h⟩ := h
  have loop_1 : ∀ (n_1 : Nat) (v1_2 : Int32) (v2_3 : Int32) (h : I_1 n_1 (v1_2, v2_3)) (H : Heap) (locs : List Loc) (hP : va_P (dC, dI) vwCl [(h0, .inr (8, [.int s0_terms, .ref h0_1, .ref h0_2, .int s0_triples, .ref h0_3, .int s0_patterns, .ref h0_4, .ref h0_5, .int s0_found, .ref h0_6, .int s0_kept, .int s0_keptVariables, .ref h0_7, .int s0_thrown])), (h0_1, .inl (cI, 100, .inl s0_number)), (h0_2, .inl (cI, 40, .inl s0_term)), (h0_3, .inl (cI, 180, .inl s0_store)), (h0_4, .inl (cI, 9, .inl s0_query)), (h0_5, .inl (cI, 16, .inl s0_bound)), (h0_6, .inl (cI, 2000, .inl s0_work)), (h0_7, .inl (cI, 2000, .inl s0_answers))] H) (hD : va_D (fun _ : Nat => True) [(h0, .inr (8, [.int s0_terms, .ref h0_1, .ref h0_2, .int s0_triples, .ref h0_3, .int s0_patterns, .ref h0_4, .ref h0_5, .int s0_found, .ref h0_6, .int s0_kept, .int s0_keptVariables, .ref h0_7, .int s0_thrown])), (h0_1, .inl (cI, 100, .inl s0_number)), (h0_2, .inl (cI, 40, .inl s0_term)), (h0_3, .inl (cI, 180, .inl s0_store)), (h0_4, .inl (cI, 9, .inl s0_query)), (h0_5, .inl (cI, 16, .inl s0_bound)), (h0_6, .inl (cI, 2000, .inl s0_work)), (h0_7, .inl (cI, 2000, .inl s0_answers))]) (hS : va_S A s.heap H locs) (ls : Array Slot) (hl : lv_has ls 3 [(0, .ref h0), (1, .int v1_2), (2, .int v2_3)]), W p l e rm_X8_allVariables s m ([.ref h0] : List Value).toArray below meth c H locs 0 0 (MQ below (Q_X8_allVariables dC dI cI h0 h0_1 h0_2 h0_3 h0_4 h0_5 h0_6 h0_7 (s0_terms, s0_number, s0_term, s0_triples, s0_store, s0_patterns, s0_query, s0_bound, s0_found, s0_work, s0_kept, s0_keptVariables, s0_answers, s0_thrown) A post) (([.ref h0] : List Value).toArray) s 0 0 A) (F0 m 4 ls []) := by
    intro n_1
    induction n_1 using Nat.strongRecOn with
    | ind n_1 ih_1 =>
      intro v1_2 v2_3 h H locs hP hD hS ls hl
      have h := hI_1 n_1 _ h
      refine lv_iload_n hx hb dX8_allVariables_4 rfl (lv_at hl 2 rfl) ?_
      refine lv_aload_n hx hb dX8_allVariables_5 rfl (lv_at hl 0 rfl) ?_
      refine va_get (D := (dC, dI)) (ci := 8) (v := .int s0_patterns) (C := RX8) (T := TX8) (N := 14) hx hb hts (hinX8) hown hK hP 0 rfl rfl 5 (by decide) (hts (.fieldLink RX8 67 "TripleJoinsModel" "patterns" "I") (by decide +kernel)) (fun _ h9 => h9) rfl dX8_allVariables_6 ?_
      obtain ⟨ht_, hf_⟩ := h
      refine lv_icmp_ge (tgt := 26) hx hb dX8_allVariables_9 (by decide) (fun c_4 => ?_) (fun c_4 => ?_)
      · have h := ht_ c_4
        refine lv_iload_n hx hb dX8_allVariables_26 rfl (lv_at hl 1 rfl) ?_
        exact W.iret (v := v1_2) hx hb hr (fun t ht hW => ⟨⟨v1_2, (), rfl, h, trivial⟩, hS.F ht⟩) hS.2.2 dX8_allVariables_27
      · have h := hf_ c_4
        refine lv_iload_n hx hb dX8_allVariables_12 rfl (lv_at hl 1 rfl) ?_
        refine lv_aload_n hx hb dX8_allVariables_13 rfl (lv_at hl 0 rfl) ?_
        refine lv_iload_n hx hb dX8_allVariables_14 rfl (lv_at hl 2 rfl) ?_
        have hPc := hP.sub (ws' := [(h0, .inr (8, [.int s0_terms, .ref h0_1, .ref h0_2, .int s0_triples, .ref h0_3, .int s0_patterns, .ref h0_4, .ref h0_5, .int s0_found, .ref h0_6, .int s0_kept, .int s0_keptVariables, .ref h0_7, .int s0_thrown])), (h0_1, .inl (cI, 100, .inl s0_number)), (h0_2, .inl (cI, 40, .inl s0_term)), (h0_3, .inl (cI, 180, .inl s0_store)), (h0_4, .inl (cI, 9, .inl s0_query)), (h0_5, .inl (cI, 16, .inl s0_bound)), (h0_6, .inl (cI, 2000, .inl s0_work)), (h0_7, .inl (cI, 2000, .inl s0_answers))]) [0, 1, 2, 3, 4, 5, 6, 7] rfl
        have hDc := hD.sub (ws' := [(h0, .inr (8, [.int s0_terms, .ref h0_1, .ref h0_2, .int s0_triples, .ref h0_3, .int s0_patterns, .ref h0_4, .ref h0_5, .int s0_found, .ref h0_6, .int s0_kept, .int s0_keptVariables, .ref h0_7, .int s0_thrown])), (h0_1, .inl (cI, 100, .inl s0_number)), (h0_2, .inl (cI, 40, .inl s0_term)), (h0_3, .inl (cI, 180, .inl s0_store)), (h0_4, .inl (cI, 9, .inl s0_query)), (h0_5, .inl (cI, 16, .inl s0_bound)), (h0_6, .inl (cI, 2000, .inl s0_work)), (h0_7, .inl (cI, 2000, .inl s0_answers))]) [0, 1, 2, 3, 4, 5, 6, 7] (by decide) rfl
        have hFc := fr0 hA hS
        refine va_calli (va_runV (As := [.int v2_3]) (rest := [.int v1_2]) ⟨hx, hb, hml, hown, hts⟩ (c_X8_variablesOf l dC dI cI h0 h0_1 h0_2 h0_3 h0_4 h0_5 h0_6 h0_7 _ (s0_terms, s0_number, s0_term, s0_triples, s0_store, s0_patterns, s0_query, s0_bound, s0_found, s0_work, s0_kept, s0_keptVariables, s0_answers, s0_thrown) v2_3 _ h) (cwV 1 hts gX8_allVariables_X8_variablesOf rfl rfl rfl (by decide +kernel) ⟨Nat.le_of_ble_eq_true rfl, Nat.le_of_ble_eq_true rfl⟩) (pb_V hPc hK hDc hN (ci := 8) (q0 := 0) rfl rfl) rfl rfl hl.1 rfl (lv_room (Nat.le_of_ble_eq_true rfl)) dX8_allVariables_15 ⟨Nat.zero_le _, Nat.zero_le _⟩) hS (fun q _ h => hFc q h) hFc (fun r_6 u_5 t H locs ht hvm h hB hz1 hk1 hS => ?_)
        have hP := vaPk hP hk1
        refine lv_ior hx hb dX8_allVariables_18 ?_
        refine lv_istore_n (lv' := [(1, .int (v1_2 ||| r_6)), (0, .ref h0), (2, .int v2_3)]) hx hb dX8_allVariables_19 rfl hl (by decide) rfl (fun ls hl => ?_)
        refine lv_iinc (v := (v2_3 + (1 : Int32))) (lv' := [(2, .int (v2_3 + (1 : Int32))), (1, .int (v1_2 ||| r_6)), (0, .ref h0)]) hx hb dX8_allVariables_20 hl (k := 2) rfl rfl (by decide) rfl (fun ls hl => ?_)
        refine lv_goto (tgt := 4) hx hb dX8_allVariables_23 (by decide) ?_
        have hl : lv_has ls 3 [(0, .ref h0), (1, .int (v1_2 ||| r_6)), (2, .int (v2_3 + (1 : Int32)))] := lv_sub hl [2, 1, 0] rfl
        obtain ⟨k_7, hk_8, h⟩ := h
        exact ih_1 k_7 hk_8 (v1_2 ||| r_6) (v2_3 + (1 : Int32)) h _ _ hP hD hS _ hl
  exact loop_1 n_1 (0 : Int32) (0 : Int32) h _ _ hP hD hS _ hl
abbrev Q_X8_variables (dC : Nat → ClassId) (dI : Nat → Nat → Nat) (cI : ClassId) (h0 h0_1 h0_2 h0_3 h0_4 h0_5 h0_6 h0_7 : Nat) (s0 : ModS) (A : Nat → Prop) (post : Int32 → ModS → Prop) : Array Value → State → Outcome → State → Prop := va_Qi post (fun (u : ModS) (t : State) => va_P (dC, dI) vwCl [(h0, .inr (8, [.int u.terms, .ref h0_1, .ref h0_2, .int u.triples, .ref h0_3, .int u.patterns, .ref h0_4, .ref h0_5, .int u.found, .ref h0_6, .int u.kept, .int u.keptVariables, .ref h0_7, .int u.thrown])), (h0_1, .inl (cI, 100, .inl u.number)), (h0_2, .inl (cI, 40, .inl u.term)), (h0_3, .inl (cI, 180, .inl u.store)), (h0_4, .inl (cI, 9, .inl u.query)), (h0_5, .inl (cI, 16, .inl u.bound)), (h0_6, .inl (cI, 2000, .inl u.work)), (h0_7, .inl (cI, 2000, .inl u.answers))] t.heap ∧ va_D A [(h0, .inr (8, [.int u.terms, .ref h0_1, .ref h0_2, .int u.triples, .ref h0_3, .int u.patterns, .ref h0_4, .ref h0_5, .int u.found, .ref h0_6, .int u.kept, .int u.keptVariables, .ref h0_7, .int u.thrown])), (h0_1, .inl (cI, 100, .inl u.number)), (h0_2, .inl (cI, 40, .inl u.term)), (h0_3, .inl (cI, 180, .inl u.store)), (h0_4, .inl (cI, 9, .inl u.query)), (h0_5, .inl (cI, 16, .inl u.bound)), (h0_6, .inl (cI, 2000, .inl u.work)), (h0_7, .inl (cI, 2000, .inl u.answers))]) A
abbrev rm_X8_variables : Room := { frames := 2, cells := 0, slots := 0, locals := 45 }
set_option maxHeartbeats 4000000 in
set_option maxRecDepth 100000 in
theorem c_X8_variables (l : Launch) (dC : Nat → ClassId) (dI : Nat → Nat → Nat) (cI : ClassId) (h0 h0_1 h0_2 h0_3 h0_4 h0_5 h0_6 h0_7 : Nat) (sz : Nat) (s0 : ModS) (post : Int32 → ModS → Prop) (h : P_X8_variables s0 post) : Met l yX8_variables wsX8_variables rm_X8_variables (va_Pc [.ref h0] (cpre (dC, dI) [(cI, .int)] [(h0, .inr (8, [.int s0.terms, .ref h0_1, .ref h0_2, .int s0.triples, .ref h0_3, .int s0.patterns, .ref h0_4, .ref h0_5, .int s0.found, .ref h0_6, .int s0.kept, .int s0.keptVariables, .ref h0_7, .int s0.thrown])), (h0_1, .inl (cI, 100, .inl s0.number)), (h0_2, .inl (cI, 40, .inl s0.term)), (h0_3, .inl (cI, 180, .inl s0.store)), (h0_4, .inl (cI, 9, .inl s0.query)), (h0_5, .inl (cI, 16, .inl s0.bound)), (h0_6, .inl (cI, 2000, .inl s0.work)), (h0_7, .inl (cI, 2000, .inl s0.answers))] sz)) (Q_X8_variables dC dI cI h0 h0_1 h0_2 h0_3 h0_4 h0_5 h0_6 h0_7 s0 (va_A [(h0, .inr (8, [.int s0.terms, .ref h0_1, .ref h0_2, .int s0.triples, .ref h0_3, .int s0.patterns, .ref h0_4, .ref h0_5, .int s0.found, .ref h0_6, .int s0.kept, .int s0.keptVariables, .ref h0_7, .int s0.thrown])), (h0_1, .inl (cI, 100, .inl s0.number)), (h0_2, .inl (cI, 40, .inl s0.term)), (h0_3, .inl (cI, 180, .inl s0.store)), (h0_4, .inl (cI, 9, .inl s0.query)), (h0_5, .inl (cI, 16, .inl s0.bound)), (h0_6, .inl (cI, 2000, .inl s0.work)), (h0_7, .inl (cI, 2000, .inl s0.answers))] sz) post) 0 0 (va_A [(h0, .inr (8, [.int s0.terms, .ref h0_1, .ref h0_2, .int s0.triples, .ref h0_3, .int s0.patterns, .ref h0_4, .ref h0_5, .int s0.found, .ref h0_6, .int s0.kept, .int s0.keptVariables, .ref h0_7, .int s0.thrown])), (h0_1, .inl (cI, 100, .inl s0.number)), (h0_2, .inl (cI, 40, .inl s0.term)), (h0_3, .inl (cI, 180, .inl s0.store)), (h0_4, .inl (cI, 9, .inl s0.query)), (h0_5, .inl (cI, 16, .inl s0.bound)), (h0_6, .inl (cI, 2000, .inl s0.work)), (h0_7, .inl (cI, 2000, .inl s0.answers))] sz) := by
  refine Met.ofW (cc := cX8_variables) (maxL := 1) (ret := (some .int)) (by decide) rfl ?_
  intro p e s m args below meth c s₁ B hml hv
  obtain ⟨rfl, hsz, hP, hK, hD0, hN⟩ := hv
  have hx := B.exec
  have hb := B.bytes
  have hr := B.returns
  have hts := atoms_spec (ws := wsX8_variables) B.pre
  have hown : s.vm.findClass RX8 = some m.cls := findClass_of_methodNamed B.named
  have hlocks := B.notSynchronized
  subst hsz
  have hD := hD0.self (sz := s.heap.size)
  generalize hAe : va_A [(h0, .inr (8, [.int s0.terms, .ref h0_1, .ref h0_2, .int s0.triples, .ref h0_3, .int s0.patterns, .ref h0_4, .ref h0_5, .int s0.found, .ref h0_6, .int s0.kept, .int s0.keptVariables, .ref h0_7, .int s0.thrown])), (h0_1, .inl (cI, 100, .inl s0.number)), (h0_2, .inl (cI, 40, .inl s0.term)), (h0_3, .inl (cI, 180, .inl s0.store)), (h0_4, .inl (cI, 9, .inl s0.query)), (h0_5, .inl (cI, 16, .inl s0.bound)), (h0_6, .inl (cI, 2000, .inl s0.work)), (h0_7, .inl (cI, 2000, .inl s0.answers))] s.heap.size = A at hD ⊢
  have hA : ∀ q : Nat, s.heap.size ≤ q → A q := fun q h => by rw [← hAe]; exact Or.inr h
  clear hAe hD0
  obtain ⟨s0_terms, s0_number, s0_term, s0_triples, s0_store, s0_patterns, s0_query, s0_bound, s0_found, s0_work, s0_kept, s0_keptVariables, s0_answers, s0_thrown⟩ := s0
  have hS : va_S A s.heap s.heap [] := va_S.rf
  have hP : va_P (dC, dI) vwCl [(h0, .inr (8, [.int s0_terms, .ref h0_1, .ref h0_2, .int s0_triples, .ref h0_3, .int s0_patterns, .ref h0_4, .ref h0_5, .int s0_found, .ref h0_6, .int s0_kept, .int s0_keptVariables, .ref h0_7, .int s0_thrown])), (h0_1, .inl (cI, 100, .inl s0_number)), (h0_2, .inl (cI, 40, .inl s0_term)), (h0_3, .inl (cI, 180, .inl s0_store)), (h0_4, .inl (cI, 9, .inl s0_query)), (h0_5, .inl (cI, 16, .inl s0_bound)), (h0_6, .inl (cI, 2000, .inl s0_work)), (h0_7, .inl (cI, 2000, .inl s0_answers))] s.heap := hP
  have hD : va_D A [(h0, .inr (8, [.int s0_terms, .ref h0_1, .ref h0_2, .int s0_triples, .ref h0_3, .int s0_patterns, .ref h0_4, .ref h0_5, .int s0_found, .ref h0_6, .int s0_kept, .int s0_keptVariables, .ref h0_7, .int s0_thrown])), (h0_1, .inl (cI, 100, .inl s0_number)), (h0_2, .inl (cI, 40, .inl s0_term)), (h0_3, .inl (cI, 180, .inl s0_store)), (h0_4, .inl (cI, 9, .inl s0_query)), (h0_5, .inl (cI, 16, .inl s0_bound)), (h0_6, .inl (cI, 2000, .inl s0_work)), (h0_7, .inl (cI, 2000, .inl s0_answers))] := hD
  have hl := lv_entry ([.ref h0]) (n := 1) (Nat.le_of_ble_eq_true rfl)
  rw [lg_entry_eq]
  generalize (lg_sl ([.ref h0]) ++ List.replicate (1 - (lg_sl ([.ref h0])).length) Slot.unset).toArray = ls at hl ⊢
  have hl : lv_has ls 1 [(0, .ref h0)] := hl
  have hinX8 : ∀ w ∈ u_ws RX8 TX8 14, w ∈ wsX8_variables := by decide +kernel
  refine lv_aload_n hx hb dX8_variables_0 rfl (lv_at hl 0 rfl) ?_
  refine lv_iconst (v := (0 : Int32)) hx hb dX8_variables_1 (by decide) ?_
  refine va_put (D := (dC, dI)) (ci := 8) (v := .int (0 : Int32)) (ty := .int) (C := RX8) (T := TX8) (N := 14) hx hb hts (hinX8) tyX8 tyX8_ok nmX8 hown hK hP hD hS 0 rfl rfl 13 (by decide) (hts (.fieldLink RX8 31 "TripleJoinsModel" "thrown" "I") (by decide +kernel)) (fun _ h9 => h9) rfl (by decide +kernel) rfl rfl (Nat.le_of_ble_eq_true rfl) dX8_variables_2 (fun H locs hP hD hS => ?_)
  have hP : va_P (dC, dI) vwCl [(h0, .inr (8, [.int s0_terms, .ref h0_1, .ref h0_2, .int s0_triples, .ref h0_3, .int s0_patterns, .ref h0_4, .ref h0_5, .int s0_found, .ref h0_6, .int s0_kept, .int s0_keptVariables, .ref h0_7, .int (0 : Int32)])), (h0_1, .inl (cI, 100, .inl s0_number)), (h0_2, .inl (cI, 40, .inl s0_term)), (h0_3, .inl (cI, 180, .inl s0_store)), (h0_4, .inl (cI, 9, .inl s0_query)), (h0_5, .inl (cI, 16, .inl s0_bound)), (h0_6, .inl (cI, 2000, .inl s0_work)), (h0_7, .inl (cI, 2000, .inl s0_answers))] _ := hP
  have hD : va_D A [(h0, .inr (8, [.int s0_terms, .ref h0_1, .ref h0_2, .int s0_triples, .ref h0_3, .int s0_patterns, .ref h0_4, .ref h0_5, .int s0_found, .ref h0_6, .int s0_kept, .int s0_keptVariables, .ref h0_7, .int (0 : Int32)])), (h0_1, .inl (cI, 100, .inl s0_number)), (h0_2, .inl (cI, 40, .inl s0_term)), (h0_3, .inl (cI, 180, .inl s0_store)), (h0_4, .inl (cI, 9, .inl s0_query)), (h0_5, .inl (cI, 16, .inl s0_bound)), (h0_6, .inl (cI, 2000, .inl s0_work)), (h0_7, .inl (cI, 2000, .inl s0_answers))] := hD
  refine lv_aload_n hx hb dX8_variables_5 rfl (lv_at hl 0 rfl) ?_
  have hPc := hP.sub (ws' := [(h0, .inr (8, [.int s0_terms, .ref h0_1, .ref h0_2, .int s0_triples, .ref h0_3, .int s0_patterns, .ref h0_4, .ref h0_5, .int s0_found, .ref h0_6, .int s0_kept, .int s0_keptVariables, .ref h0_7, .int (0 : Int32)])), (h0_1, .inl (cI, 100, .inl s0_number)), (h0_2, .inl (cI, 40, .inl s0_term)), (h0_3, .inl (cI, 180, .inl s0_store)), (h0_4, .inl (cI, 9, .inl s0_query)), (h0_5, .inl (cI, 16, .inl s0_bound)), (h0_6, .inl (cI, 2000, .inl s0_work)), (h0_7, .inl (cI, 2000, .inl s0_answers))]) [0, 1, 2, 3, 4, 5, 6, 7] rfl
  have hDc := hD.sub (ws' := [(h0, .inr (8, [.int s0_terms, .ref h0_1, .ref h0_2, .int s0_triples, .ref h0_3, .int s0_patterns, .ref h0_4, .ref h0_5, .int s0_found, .ref h0_6, .int s0_kept, .int s0_keptVariables, .ref h0_7, .int (0 : Int32)])), (h0_1, .inl (cI, 100, .inl s0_number)), (h0_2, .inl (cI, 40, .inl s0_term)), (h0_3, .inl (cI, 180, .inl s0_store)), (h0_4, .inl (cI, 9, .inl s0_query)), (h0_5, .inl (cI, 16, .inl s0_bound)), (h0_6, .inl (cI, 2000, .inl s0_work)), (h0_7, .inl (cI, 2000, .inl s0_answers))]) [0, 1, 2, 3, 4, 5, 6, 7] (by decide) rfl
  have hFc := fr0 hA hS
  refine va_calli (va_runV (As := []) (rest := []) ⟨hx, hb, hml, hown, hts⟩ (c_X8_allVariables l dC dI cI h0 h0_1 h0_2 h0_3 h0_4 h0_5 h0_6 h0_7 _ (s0_terms, s0_number, s0_term, s0_triples, s0_store, s0_patterns, s0_query, s0_bound, s0_found, s0_work, s0_kept, s0_keptVariables, s0_answers, (0 : Int32)) _ h) (cwV 0 hts gX8_variables_X8_allVariables rfl rfl rfl (by decide +kernel) ⟨Nat.le_of_ble_eq_true rfl, Nat.le_of_ble_eq_true rfl⟩) (pb_V hPc hK hDc hN (ci := 8) (q0 := 0) rfl rfl) rfl rfl hl.1 rfl (lv_room (Nat.le_of_ble_eq_true rfl)) dX8_variables_6 ⟨Nat.zero_le _, Nat.zero_le _⟩) hS (fun q _ h => hFc q h) hFc (fun r_2 u_1 t H locs ht hvm h hB hz1 hk1 hS => ?_)
  have hP := vaPk hP hk1
  exact W.iret (v := r_2) hx hb hr (fun t ht hW => ⟨⟨r_2, (s0_terms, s0_number, s0_term, s0_triples, s0_store, s0_patterns, s0_query, s0_bound, s0_found, s0_work, s0_kept, s0_keptVariables, s0_answers, (0 : Int32)), rfl, h, ⟨by rw [ht]; exact hP, hD⟩⟩, hS.F ht⟩) hS.2.2 dX8_variables_9
abbrev Q_X8_shape (dC : Nat → ClassId) (dI : Nat → Nat → Nat) (cI : ClassId) (h0 h0_1 h0_2 h0_3 h0_4 h0_5 h0_6 h0_7 : Nat) (s0 : ModS) (A : Nat → Prop) (post : Int32 → ModS → Prop) : Array Value → State → Outcome → State → Prop := va_Qi post (fun (u : ModS) (t : State) => va_P (dC, dI) vwCl [(h0, .inr (8, [.int u.terms, .ref h0_1, .ref h0_2, .int u.triples, .ref h0_3, .int u.patterns, .ref h0_4, .ref h0_5, .int u.found, .ref h0_6, .int u.kept, .int u.keptVariables, .ref h0_7, .int u.thrown])), (h0_1, .inl (cI, 100, .inl u.number)), (h0_2, .inl (cI, 40, .inl u.term)), (h0_3, .inl (cI, 180, .inl u.store)), (h0_4, .inl (cI, 9, .inl u.query)), (h0_5, .inl (cI, 16, .inl u.bound)), (h0_6, .inl (cI, 2000, .inl u.work)), (h0_7, .inl (cI, 2000, .inl u.answers))] t.heap ∧ va_D A [(h0, .inr (8, [.int u.terms, .ref h0_1, .ref h0_2, .int u.triples, .ref h0_3, .int u.patterns, .ref h0_4, .ref h0_5, .int u.found, .ref h0_6, .int u.kept, .int u.keptVariables, .ref h0_7, .int u.thrown])), (h0_1, .inl (cI, 100, .inl u.number)), (h0_2, .inl (cI, 40, .inl u.term)), (h0_3, .inl (cI, 180, .inl u.store)), (h0_4, .inl (cI, 9, .inl u.query)), (h0_5, .inl (cI, 16, .inl u.bound)), (h0_6, .inl (cI, 2000, .inl u.work)), (h0_7, .inl (cI, 2000, .inl u.answers))]) A
abbrev rm_X8_shape : Room := { frames := 0, cells := 0, slots := 0, locals := 0 }
set_option maxHeartbeats 4000000 in
set_option maxRecDepth 100000 in
theorem c_X8_shape (l : Launch) (dC : Nat → ClassId) (dI : Nat → Nat → Nat) (cI : ClassId) (h0 h0_1 h0_2 h0_3 h0_4 h0_5 h0_6 h0_7 : Nat) (sz : Nat) (s0 : ModS) (post : Int32 → ModS → Prop) (h : P_X8_shape s0 post) : Met l yX8_shape wsX8_shape rm_X8_shape (va_Pc [.ref h0] (cpre (dC, dI) [(cI, .int)] [(h0, .inr (8, [.int s0.terms, .ref h0_1, .ref h0_2, .int s0.triples, .ref h0_3, .int s0.patterns, .ref h0_4, .ref h0_5, .int s0.found, .ref h0_6, .int s0.kept, .int s0.keptVariables, .ref h0_7, .int s0.thrown])), (h0_1, .inl (cI, 100, .inl s0.number)), (h0_2, .inl (cI, 40, .inl s0.term)), (h0_3, .inl (cI, 180, .inl s0.store)), (h0_4, .inl (cI, 9, .inl s0.query)), (h0_5, .inl (cI, 16, .inl s0.bound)), (h0_6, .inl (cI, 2000, .inl s0.work)), (h0_7, .inl (cI, 2000, .inl s0.answers))] sz)) (Q_X8_shape dC dI cI h0 h0_1 h0_2 h0_3 h0_4 h0_5 h0_6 h0_7 s0 (va_A [(h0, .inr (8, [.int s0.terms, .ref h0_1, .ref h0_2, .int s0.triples, .ref h0_3, .int s0.patterns, .ref h0_4, .ref h0_5, .int s0.found, .ref h0_6, .int s0.kept, .int s0.keptVariables, .ref h0_7, .int s0.thrown])), (h0_1, .inl (cI, 100, .inl s0.number)), (h0_2, .inl (cI, 40, .inl s0.term)), (h0_3, .inl (cI, 180, .inl s0.store)), (h0_4, .inl (cI, 9, .inl s0.query)), (h0_5, .inl (cI, 16, .inl s0.bound)), (h0_6, .inl (cI, 2000, .inl s0.work)), (h0_7, .inl (cI, 2000, .inl s0.answers))] sz) post) 0 0 (va_A [(h0, .inr (8, [.int s0.terms, .ref h0_1, .ref h0_2, .int s0.triples, .ref h0_3, .int s0.patterns, .ref h0_4, .ref h0_5, .int s0.found, .ref h0_6, .int s0.kept, .int s0.keptVariables, .ref h0_7, .int s0.thrown])), (h0_1, .inl (cI, 100, .inl s0.number)), (h0_2, .inl (cI, 40, .inl s0.term)), (h0_3, .inl (cI, 180, .inl s0.store)), (h0_4, .inl (cI, 9, .inl s0.query)), (h0_5, .inl (cI, 16, .inl s0.bound)), (h0_6, .inl (cI, 2000, .inl s0.work)), (h0_7, .inl (cI, 2000, .inl s0.answers))] sz) := by
  refine Met.ofW (cc := cX8_shape) (maxL := 4) (ret := (some .int)) (by decide) rfl ?_
  intro p e s m args below meth c s₁ B hml hv
  obtain ⟨rfl, hsz, hP, hK, hD0, hN⟩ := hv
  have hx := B.exec
  have hb := B.bytes
  have hr := B.returns
  have hts := atoms_spec (ws := wsX8_shape) B.pre
  have hown : s.vm.findClass RX8 = some m.cls := findClass_of_methodNamed B.named
  have hlocks := B.notSynchronized
  subst hsz
  have hD := hD0.self (sz := s.heap.size)
  generalize hAe : va_A [(h0, .inr (8, [.int s0.terms, .ref h0_1, .ref h0_2, .int s0.triples, .ref h0_3, .int s0.patterns, .ref h0_4, .ref h0_5, .int s0.found, .ref h0_6, .int s0.kept, .int s0.keptVariables, .ref h0_7, .int s0.thrown])), (h0_1, .inl (cI, 100, .inl s0.number)), (h0_2, .inl (cI, 40, .inl s0.term)), (h0_3, .inl (cI, 180, .inl s0.store)), (h0_4, .inl (cI, 9, .inl s0.query)), (h0_5, .inl (cI, 16, .inl s0.bound)), (h0_6, .inl (cI, 2000, .inl s0.work)), (h0_7, .inl (cI, 2000, .inl s0.answers))] s.heap.size = A at hD ⊢
  have hA : ∀ q : Nat, s.heap.size ≤ q → A q := fun q h => by rw [← hAe]; exact Or.inr h
  clear hAe hD0
  obtain ⟨s0_terms, s0_number, s0_term, s0_triples, s0_store, s0_patterns, s0_query, s0_bound, s0_found, s0_work, s0_kept, s0_keptVariables, s0_answers, s0_thrown⟩ := s0
  have hS : va_S A s.heap s.heap [] := va_S.rf
  have hP : va_P (dC, dI) vwCl [(h0, .inr (8, [.int s0_terms, .ref h0_1, .ref h0_2, .int s0_triples, .ref h0_3, .int s0_patterns, .ref h0_4, .ref h0_5, .int s0_found, .ref h0_6, .int s0_kept, .int s0_keptVariables, .ref h0_7, .int s0_thrown])), (h0_1, .inl (cI, 100, .inl s0_number)), (h0_2, .inl (cI, 40, .inl s0_term)), (h0_3, .inl (cI, 180, .inl s0_store)), (h0_4, .inl (cI, 9, .inl s0_query)), (h0_5, .inl (cI, 16, .inl s0_bound)), (h0_6, .inl (cI, 2000, .inl s0_work)), (h0_7, .inl (cI, 2000, .inl s0_answers))] s.heap := hP
  have hD : va_D A [(h0, .inr (8, [.int s0_terms, .ref h0_1, .ref h0_2, .int s0_triples, .ref h0_3, .int s0_patterns, .ref h0_4, .ref h0_5, .int s0_found, .ref h0_6, .int s0_kept, .int s0_keptVariables, .ref h0_7, .int s0_thrown])), (h0_1, .inl (cI, 100, .inl s0_number)), (h0_2, .inl (cI, 40, .inl s0_term)), (h0_3, .inl (cI, 180, .inl s0_store)), (h0_4, .inl (cI, 9, .inl s0_query)), (h0_5, .inl (cI, 16, .inl s0_bound)), (h0_6, .inl (cI, 2000, .inl s0_work)), (h0_7, .inl (cI, 2000, .inl s0_answers))] := hD
  have hl := lv_entry ([.ref h0]) (n := 4) (Nat.le_of_ble_eq_true rfl)
  rw [lg_entry_eq]
  generalize (lg_sl ([.ref h0]) ++ List.replicate (4 - (lg_sl ([.ref h0])).length) Slot.unset).toArray = ls at hl ⊢
  have hl : lv_has ls 4 [(0, .ref h0)] := hl
  have hinX8 : ∀ w ∈ u_ws RX8 TX8 14, w ∈ wsX8_shape := by decide +kernel
  have lab_134 : ∀ (s0_1_terms : Int32) (s0_1_number : Nat → Int32) (s0_1_term : Nat → Int32) (s0_1_triples : Int32) (s0_1_store : Nat → Int32) (s0_1_patterns : Int32) (s0_1_query : Nat → Int32) (s0_1_bound : Nat → Int32) (s0_1_found : Int32) (s0_1_work : Nat → Int32) (s0_1_kept : Int32) (s0_1_keptVariables : Int32) (s0_1_answers : Nat → Int32) (s0_1_thrown : Int32) (v2_2 : Int32) (x0_3 : Int32) (h : P_X8_shape_j134 (s0_1_terms, s0_1_number, s0_1_term, s0_1_triples, s0_1_store, s0_1_patterns, s0_1_query, s0_1_bound, s0_1_found, s0_1_work, s0_1_kept, s0_1_keptVariables, s0_1_answers, s0_1_thrown) v2_2 x0_3 post) (H : Heap) (locs : List Loc) (hP : va_P (dC, dI) vwCl [(h0, .inr (8, [.int s0_1_terms, .ref h0_1, .ref h0_2, .int s0_1_triples, .ref h0_3, .int s0_1_patterns, .ref h0_4, .ref h0_5, .int s0_1_found, .ref h0_6, .int s0_1_kept, .int s0_1_keptVariables, .ref h0_7, .int s0_1_thrown])), (h0_1, .inl (cI, 100, .inl s0_1_number)), (h0_2, .inl (cI, 40, .inl s0_1_term)), (h0_3, .inl (cI, 180, .inl s0_1_store)), (h0_4, .inl (cI, 9, .inl s0_1_query)), (h0_5, .inl (cI, 16, .inl s0_1_bound)), (h0_6, .inl (cI, 2000, .inl s0_1_work)), (h0_7, .inl (cI, 2000, .inl s0_1_answers))] H) (hD : va_D A [(h0, .inr (8, [.int s0_1_terms, .ref h0_1, .ref h0_2, .int s0_1_triples, .ref h0_3, .int s0_1_patterns, .ref h0_4, .ref h0_5, .int s0_1_found, .ref h0_6, .int s0_1_kept, .int s0_1_keptVariables, .ref h0_7, .int s0_1_thrown])), (h0_1, .inl (cI, 100, .inl s0_1_number)), (h0_2, .inl (cI, 40, .inl s0_1_term)), (h0_3, .inl (cI, 180, .inl s0_1_store)), (h0_4, .inl (cI, 9, .inl s0_1_query)), (h0_5, .inl (cI, 16, .inl s0_1_bound)), (h0_6, .inl (cI, 2000, .inl s0_1_work)), (h0_7, .inl (cI, 2000, .inl s0_1_answers))]) (hS : va_S A s.heap H locs) (ls : Array Slot) (hl : lv_has ls 4 [(2, .int v2_2)]), W p l e rm_X8_shape s m ([.ref h0] : List Value).toArray below meth c H locs 0 0 (MQ below (Q_X8_shape dC dI cI h0 h0_1 h0_2 h0_3 h0_4 h0_5 h0_6 h0_7 (s0_terms, s0_number, s0_term, s0_triples, s0_store, s0_patterns, s0_query, s0_bound, s0_found, s0_work, s0_kept, s0_keptVariables, s0_answers, s0_thrown) A post) (([.ref h0] : List Value).toArray) s 0 0 A) (F0 m 134 ls [.int x0_3]) := by
    intro s0_1_terms s0_1_number s0_1_term s0_1_triples s0_1_store s0_1_patterns s0_1_query s0_1_bound s0_1_found s0_1_work s0_1_kept s0_1_keptVariables s0_1_answers s0_1_thrown v2_2 x0_3 h H locs hP hD hS ls hl
    refine lv_iload_n hx hb dX8_shape_134 rfl (lv_at hl 0 rfl) ?_
    obtain ⟨ht_, hf_⟩ := h
    refine lv_if_eq (tgt := 142) hx hb dX8_shape_135 (by decide) (fun c_4 => ?_) (fun c_4 => ?_)
    · have h := ht_ c_4
      refine lv_iconst (v := (0 : Int32)) hx hb dX8_shape_142 (by decide) ?_
      refine lv_iadd hx hb dX8_shape_143 ?_
      exact W.iret (v := (x0_3 + (0 : Int32))) hx hb hr (fun t ht hW => ⟨⟨(x0_3 + (0 : Int32)), (s0_1_terms, s0_1_number, s0_1_term, s0_1_triples, s0_1_store, s0_1_patterns, s0_1_query, s0_1_bound, s0_1_found, s0_1_work, s0_1_kept, s0_1_keptVariables, s0_1_answers, s0_1_thrown), rfl, h, ⟨by rw [ht]; exact hP, hD⟩⟩, hS.F ht⟩) hS.2.2 dX8_shape_144
    · have h := hf_ c_4
      refine lv_iconst (v := (2 : Int32)) hx hb dX8_shape_138 (by decide) ?_
      refine lv_goto (tgt := 143) hx hb dX8_shape_139 (by decide) ?_
      refine lv_iadd hx hb dX8_shape_143 ?_
      exact W.iret (v := (x0_3 + (2 : Int32))) hx hb hr (fun t ht hW => ⟨⟨(x0_3 + (2 : Int32)), (s0_1_terms, s0_1_number, s0_1_term, s0_1_triples, s0_1_store, s0_1_patterns, s0_1_query, s0_1_bound, s0_1_found, s0_1_work, s0_1_kept, s0_1_keptVariables, s0_1_answers, s0_1_thrown), rfl, h, ⟨by rw [ht]; exact hP, hD⟩⟩, hS.F ht⟩) hS.2.2 dX8_shape_144
  have lab_32 : ∀ (s0_5_terms : Int32) (s0_5_number : Nat → Int32) (s0_5_term : Nat → Int32) (s0_5_triples : Int32) (s0_5_store : Nat → Int32) (s0_5_patterns : Int32) (s0_5_query : Nat → Int32) (s0_5_bound : Nat → Int32) (s0_5_found : Int32) (s0_5_work : Nat → Int32) (s0_5_kept : Int32) (s0_5_keptVariables : Int32) (s0_5_answers : Nat → Int32) (s0_5_thrown : Int32) (v1_6 : Int32) (x0_7 : Int32) (h : P_X8_shape_j32 (s0_5_terms, s0_5_number, s0_5_term, s0_5_triples, s0_5_store, s0_5_patterns, s0_5_query, s0_5_bound, s0_5_found, s0_5_work, s0_5_kept, s0_5_keptVariables, s0_5_answers, s0_5_thrown) v1_6 x0_7 post) (H : Heap) (locs : List Loc) (hP : va_P (dC, dI) vwCl [(h0, .inr (8, [.int s0_5_terms, .ref h0_1, .ref h0_2, .int s0_5_triples, .ref h0_3, .int s0_5_patterns, .ref h0_4, .ref h0_5, .int s0_5_found, .ref h0_6, .int s0_5_kept, .int s0_5_keptVariables, .ref h0_7, .int s0_5_thrown])), (h0_1, .inl (cI, 100, .inl s0_5_number)), (h0_2, .inl (cI, 40, .inl s0_5_term)), (h0_3, .inl (cI, 180, .inl s0_5_store)), (h0_4, .inl (cI, 9, .inl s0_5_query)), (h0_5, .inl (cI, 16, .inl s0_5_bound)), (h0_6, .inl (cI, 2000, .inl s0_5_work)), (h0_7, .inl (cI, 2000, .inl s0_5_answers))] H) (hD : va_D A [(h0, .inr (8, [.int s0_5_terms, .ref h0_1, .ref h0_2, .int s0_5_triples, .ref h0_3, .int s0_5_patterns, .ref h0_4, .ref h0_5, .int s0_5_found, .ref h0_6, .int s0_5_kept, .int s0_5_keptVariables, .ref h0_7, .int s0_5_thrown])), (h0_1, .inl (cI, 100, .inl s0_5_number)), (h0_2, .inl (cI, 40, .inl s0_5_term)), (h0_3, .inl (cI, 180, .inl s0_5_store)), (h0_4, .inl (cI, 9, .inl s0_5_query)), (h0_5, .inl (cI, 16, .inl s0_5_bound)), (h0_6, .inl (cI, 2000, .inl s0_5_work)), (h0_7, .inl (cI, 2000, .inl s0_5_answers))]) (hS : va_S A s.heap H locs) (ls : Array Slot) (hl : lv_has ls 4 [(0, .ref h0), (1, .int v1_6)]), W p l e rm_X8_shape s m ([.ref h0] : List Value).toArray below meth c H locs 0 0 (MQ below (Q_X8_shape dC dI cI h0 h0_1 h0_2 h0_3 h0_4 h0_5 h0_6 h0_7 (s0_terms, s0_number, s0_term, s0_triples, s0_store, s0_patterns, s0_query, s0_bound, s0_found, s0_work, s0_kept, s0_keptVariables, s0_answers, s0_thrown) A post) (([.ref h0] : List Value).toArray) s 0 0 A) (F0 m 32 ls [.int x0_7]) := by
    intro s0_5_terms s0_5_number s0_5_term s0_5_triples s0_5_store s0_5_patterns s0_5_query s0_5_bound s0_5_found s0_5_work s0_5_kept s0_5_keptVariables s0_5_answers s0_5_thrown v1_6 x0_7 h H locs hP hD hS ls hl
    refine lv_istore_n (lv' := [(2, .int x0_7), (0, .ref h0), (1, .int v1_6)]) hx hb dX8_shape_32 rfl hl (by decide) rfl (fun ls hl => ?_)
    refine lv_iconst (v := (1 : Int32)) hx hb dX8_shape_33 (by decide) ?_
    refine lv_istore_n (lv' := [(3, .int (1 : Int32)), (2, .int x0_7), (0, .ref h0), (1, .int v1_6)]) hx hb dX8_shape_34 rfl hl (by decide) rfl (fun ls hl => ?_)
    have hl : lv_has ls 4 [(0, .ref h0), (1, .int v1_6), (2, .int x0_7), (3, .int (1 : Int32))] := lv_sub hl [2, 3, 1, 0] rfl
    obtain ⟨I_8, hI_8, n_8, h⟩ := h
    have loop_8 : ∀ (n_8 : Nat) (v1_9 : Int32) (v2_10 : Int32) (v3_11 : Int32) (h : I_8 n_8 (v1_9, v2_10, v3_11)) (H : Heap) (locs : List Loc) (hP : va_P (dC, dI) vwCl [(h0, .inr (8, [.int s0_5_terms, .ref h0_1, .ref h0_2, .int s0_5_triples, .ref h0_3, .int s0_5_patterns, .ref h0_4, .ref h0_5, .int s0_5_found, .ref h0_6, .int s0_5_kept, .int s0_5_keptVariables, .ref h0_7, .int s0_5_thrown])), (h0_1, .inl (cI, 100, .inl s0_5_number)), (h0_2, .inl (cI, 40, .inl s0_5_term)), (h0_3, .inl (cI, 180, .inl s0_5_store)), (h0_4, .inl (cI, 9, .inl s0_5_query)), (h0_5, .inl (cI, 16, .inl s0_5_bound)), (h0_6, .inl (cI, 2000, .inl s0_5_work)), (h0_7, .inl (cI, 2000, .inl s0_5_answers))] H) (hD : va_D A [(h0, .inr (8, [.int s0_5_terms, .ref h0_1, .ref h0_2, .int s0_5_triples, .ref h0_3, .int s0_5_patterns, .ref h0_4, .ref h0_5, .int s0_5_found, .ref h0_6, .int s0_5_kept, .int s0_5_keptVariables, .ref h0_7, .int s0_5_thrown])), (h0_1, .inl (cI, 100, .inl s0_5_number)), (h0_2, .inl (cI, 40, .inl s0_5_term)), (h0_3, .inl (cI, 180, .inl s0_5_store)), (h0_4, .inl (cI, 9, .inl s0_5_query)), (h0_5, .inl (cI, 16, .inl s0_5_bound)), (h0_6, .inl (cI, 2000, .inl s0_5_work)), (h0_7, .inl (cI, 2000, .inl s0_5_answers))]) (hS : va_S A s.heap H locs) (ls : Array Slot) (hl : lv_has ls 4 [(0, .ref h0), (1, .int v1_9), (2, .int v2_10), (3, .int v3_11)]), W p l e rm_X8_shape s m ([.ref h0] : List Value).toArray below meth c H locs 0 0 (MQ below (Q_X8_shape dC dI cI h0 h0_1 h0_2 h0_3 h0_4 h0_5 h0_6 h0_7 (s0_terms, s0_number, s0_term, s0_triples, s0_store, s0_patterns, s0_query, s0_bound, s0_found, s0_work, s0_kept, s0_keptVariables, s0_answers, s0_thrown) A post) (([.ref h0] : List Value).toArray) s 0 0 A) (F0 m 35 ls []) := by
      intro n_8
      induction n_8 using Nat.strongRecOn with
      | ind n_8 ih_8 =>
        intro v1_9 v2_10 v3_11 h H locs hP hD hS ls hl
        have h := hI_8 n_8 _ h
        have lab_75 : ∀ (v2_12 : Int32) (v3_13 : Int32) (x0_14 : Int32) (x1_15 : Int32) (h : P_X8_shape_j75 (s0_5_terms, s0_5_number, s0_5_term, s0_5_triples, s0_5_store, s0_5_patterns, s0_5_query, s0_5_bound, s0_5_found, s0_5_work, s0_5_kept, s0_5_keptVariables, s0_5_answers, s0_5_thrown) v2_12 v3_13 x0_14 x1_15 (fun w => ∃ k, k < n_8 ∧ I_8 k w) post) (H : Heap) (locs : List Loc) (hP : va_P (dC, dI) vwCl [(h0, .inr (8, [.int s0_5_terms, .ref h0_1, .ref h0_2, .int s0_5_triples, .ref h0_3, .int s0_5_patterns, .ref h0_4, .ref h0_5, .int s0_5_found, .ref h0_6, .int s0_5_kept, .int s0_5_keptVariables, .ref h0_7, .int s0_5_thrown])), (h0_1, .inl (cI, 100, .inl s0_5_number)), (h0_2, .inl (cI, 40, .inl s0_5_term)), (h0_3, .inl (cI, 180, .inl s0_5_store)), (h0_4, .inl (cI, 9, .inl s0_5_query)), (h0_5, .inl (cI, 16, .inl s0_5_bound)), (h0_6, .inl (cI, 2000, .inl s0_5_work)), (h0_7, .inl (cI, 2000, .inl s0_5_answers))] H) (hD : va_D A [(h0, .inr (8, [.int s0_5_terms, .ref h0_1, .ref h0_2, .int s0_5_triples, .ref h0_3, .int s0_5_patterns, .ref h0_4, .ref h0_5, .int s0_5_found, .ref h0_6, .int s0_5_kept, .int s0_5_keptVariables, .ref h0_7, .int s0_5_thrown])), (h0_1, .inl (cI, 100, .inl s0_5_number)), (h0_2, .inl (cI, 40, .inl s0_5_term)), (h0_3, .inl (cI, 180, .inl s0_5_store)), (h0_4, .inl (cI, 9, .inl s0_5_query)), (h0_5, .inl (cI, 16, .inl s0_5_bound)), (h0_6, .inl (cI, 2000, .inl s0_5_work)), (h0_7, .inl (cI, 2000, .inl s0_5_answers))]) (hS : va_S A s.heap H locs) (ls : Array Slot) (hl : lv_has ls 4 [(0, .ref h0), (2, .int v2_12), (3, .int v3_13)]), W p l e rm_X8_shape s m ([.ref h0] : List Value).toArray below meth c H locs 0 0 (MQ below (Q_X8_shape dC dI cI h0 h0_1 h0_2 h0_3 h0_4 h0_5 h0_6 h0_7 (s0_terms, s0_number, s0_term, s0_triples, s0_store, s0_patterns, s0_query, s0_bound, s0_found, s0_work, s0_kept, s0_keptVariables, s0_answers, s0_thrown) A post) (([.ref h0] : List Value).toArray) s 0 0 A) (F0 m 75 ls [.int x0_14, .int x1_15]) := by
          intro v2_12 v3_13 x0_14 x1_15 h H locs hP hD hS ls hl
          refine lv_iand hx hb dX8_shape_75 ?_
          refine lv_istore_n (lv' := [(1, .int (x1_15 &&& x0_14)), (0, .ref h0), (2, .int v2_12), (3, .int v3_13)]) hx hb dX8_shape_76 rfl hl (by decide) rfl (fun ls hl => ?_)
          refine lv_iload_n hx hb dX8_shape_77 rfl (lv_at hl 2 rfl) ?_
          refine lv_aload_n hx hb dX8_shape_78 rfl (lv_at hl 1 rfl) ?_
          refine va_get (D := (dC, dI)) (ci := 8) (v := .ref h0_4) (C := RX8) (T := TX8) (N := 14) hx hb hts (hinX8) hown hK hP 0 rfl rfl 6 (by decide) (hts (.fieldLink RX8 19 "TripleJoinsModel" "query" "[I") (by decide +kernel)) (fun _ h9 => h9) rfl dX8_shape_79 ?_
          refine lv_iconst (v := (3 : Int32)) hx hb dX8_shape_82 (by decide) ?_
          refine lv_iload_n hx hb dX8_shape_83 rfl (lv_at hl 3 rfl) ?_
          refine lv_imul hx hb dX8_shape_84 ?_
          refine lv_iconst (v := (1 : Int32)) hx hb dX8_shape_85 (by decide) ?_
          refine lv_isub hx hb dX8_shape_86 ?_
          obtain ⟨hin, h⟩ := h
          refine va_iald (n := 9) hx hb hK hP 4 0 rfl rfl hin dX8_shape_87 ?_
          obtain ⟨ht_, hf_⟩ := h
          refine lv_if_ge (tgt := 116) hx hb dX8_shape_88 (by decide) (fun c_16 => ?_) (fun c_16 => ?_)
          · have h := ht_ c_16
            refine lv_iconst (v := (0 : Int32)) hx hb dX8_shape_116 (by decide) ?_
            refine lv_iand hx hb dX8_shape_117 ?_
            refine lv_istore_n (lv' := [(2, .int (v2_12 &&& (0 : Int32))), (1, .int (x1_15 &&& x0_14)), (0, .ref h0), (3, .int v3_13)]) hx hb dX8_shape_118 rfl hl (by decide) rfl (fun ls hl => ?_)
            refine lv_iinc (v := (v3_13 + (1 : Int32))) (lv' := [(3, .int (v3_13 + (1 : Int32))), (2, .int (v2_12 &&& (0 : Int32))), (1, .int (x1_15 &&& x0_14)), (0, .ref h0)]) hx hb dX8_shape_119 hl (k := 3) rfl rfl (by decide) rfl (fun ls hl => ?_)
            refine lv_goto (tgt := 35) hx hb dX8_shape_122 (by decide) ?_
            have hl : lv_has ls 4 [(0, .ref h0), (1, .int (x1_15 &&& x0_14)), (2, .int (v2_12 &&& (0 : Int32))), (3, .int (v3_13 + (1 : Int32)))] := lv_sub hl [3, 2, 1, 0] rfl
            obtain ⟨k_17, hk_18, h⟩ := h
            exact ih_8 k_17 hk_18 (x1_15 &&& x0_14) (v2_12 &&& (0 : Int32)) (v3_13 + (1 : Int32)) h _ _ hP hD hS _ hl
          · have h := hf_ c_16
            refine lv_aload_n hx hb dX8_shape_91 rfl (lv_at hl 1 rfl) ?_
            refine va_get (D := (dC, dI)) (ci := 8) (v := .ref h0_4) (C := RX8) (T := TX8) (N := 14) hx hb hts (hinX8) hown hK hP 0 rfl rfl 6 (by decide) (hts (.fieldLink RX8 19 "TripleJoinsModel" "query" "[I") (by decide +kernel)) (fun _ h9 => h9) rfl dX8_shape_92 ?_
            refine lv_iconst (v := (3 : Int32)) hx hb dX8_shape_95 (by decide) ?_
            refine lv_iload_n hx hb dX8_shape_96 rfl (lv_at hl 3 rfl) ?_
            refine lv_imul hx hb dX8_shape_97 ?_
            refine lv_iconst (v := (1 : Int32)) hx hb dX8_shape_98 (by decide) ?_
            refine lv_isub hx hb dX8_shape_99 ?_
            obtain ⟨hin, h⟩ := h
            refine va_iald (n := 9) hx hb hK hP 4 0 rfl rfl hin dX8_shape_100 ?_
            refine lv_aload_n hx hb dX8_shape_101 rfl (lv_at hl 1 rfl) ?_
            refine va_get (D := (dC, dI)) (ci := 8) (v := .ref h0_4) (C := RX8) (T := TX8) (N := 14) hx hb hts (hinX8) hown hK hP 0 rfl rfl 6 (by decide) (hts (.fieldLink RX8 19 "TripleJoinsModel" "query" "[I") (by decide +kernel)) (fun _ h9 => h9) rfl dX8_shape_102 ?_
            refine lv_iconst (v := (3 : Int32)) hx hb dX8_shape_105 (by decide) ?_
            refine lv_iload_n hx hb dX8_shape_106 rfl (lv_at hl 3 rfl) ?_
            refine lv_imul hx hb dX8_shape_107 ?_
            obtain ⟨hin, h⟩ := h
            refine va_iald (n := 9) hx hb hK hP 4 0 rfl rfl hin dX8_shape_108 ?_
            obtain ⟨ht_, hf_⟩ := h
            refine lv_icmp_ne (tgt := 116) hx hb dX8_shape_109 (by decide) (fun c_19 => ?_) (fun c_19 => ?_)
            · have h := ht_ c_19
              refine lv_iconst (v := (0 : Int32)) hx hb dX8_shape_116 (by decide) ?_
              refine lv_iand hx hb dX8_shape_117 ?_
              refine lv_istore_n (lv' := [(2, .int (v2_12 &&& (0 : Int32))), (1, .int (x1_15 &&& x0_14)), (0, .ref h0), (3, .int v3_13)]) hx hb dX8_shape_118 rfl hl (by decide) rfl (fun ls hl => ?_)
              refine lv_iinc (v := (v3_13 + (1 : Int32))) (lv' := [(3, .int (v3_13 + (1 : Int32))), (2, .int (v2_12 &&& (0 : Int32))), (1, .int (x1_15 &&& x0_14)), (0, .ref h0)]) hx hb dX8_shape_119 hl (k := 3) rfl rfl (by decide) rfl (fun ls hl => ?_)
              refine lv_goto (tgt := 35) hx hb dX8_shape_122 (by decide) ?_
              have hl : lv_has ls 4 [(0, .ref h0), (1, .int (x1_15 &&& x0_14)), (2, .int (v2_12 &&& (0 : Int32))), (3, .int (v3_13 + (1 : Int32)))] := lv_sub hl [3, 2, 1, 0] rfl
              obtain ⟨k_20, hk_21, h⟩ := h
              exact ih_8 k_20 hk_21 (x1_15 &&& x0_14) (v2_12 &&& (0 : Int32)) (v3_13 + (1 : Int32)) h _ _ hP hD hS _ hl
            · have h := hf_ c_19
              refine lv_iconst (v := (1 : Int32)) hx hb dX8_shape_112 (by decide) ?_
              refine lv_goto (tgt := 117) hx hb dX8_shape_113 (by decide) ?_
              refine lv_iand hx hb dX8_shape_117 ?_
              refine lv_istore_n (lv' := [(2, .int (v2_12 &&& (1 : Int32))), (1, .int (x1_15 &&& x0_14)), (0, .ref h0), (3, .int v3_13)]) hx hb dX8_shape_118 rfl hl (by decide) rfl (fun ls hl => ?_)
              refine lv_iinc (v := (v3_13 + (1 : Int32))) (lv' := [(3, .int (v3_13 + (1 : Int32))), (2, .int (v2_12 &&& (1 : Int32))), (1, .int (x1_15 &&& x0_14)), (0, .ref h0)]) hx hb dX8_shape_119 hl (k := 3) rfl rfl (by decide) rfl (fun ls hl => ?_)
              refine lv_goto (tgt := 35) hx hb dX8_shape_122 (by decide) ?_
              have hl : lv_has ls 4 [(0, .ref h0), (1, .int (x1_15 &&& x0_14)), (2, .int (v2_12 &&& (1 : Int32))), (3, .int (v3_13 + (1 : Int32)))] := lv_sub hl [3, 2, 1, 0] rfl
              obtain ⟨k_22, hk_23, h⟩ := h
              exact ih_8 k_22 hk_23 (x1_15 &&& x0_14) (v2_12 &&& (1 : Int32)) (v3_13 + (1 : Int32)) h _ _ hP hD hS _ hl
        have lab_74 : ∀ (v2_24 : Int32) (v3_25 : Int32) (x0_26 : Int32) (h : P_X8_shape_j74 (s0_5_terms, s0_5_number, s0_5_term, s0_5_triples, s0_5_store, s0_5_patterns, s0_5_query, s0_5_bound, s0_5_found, s0_5_work, s0_5_kept, s0_5_keptVariables, s0_5_answers, s0_5_thrown) v2_24 v3_25 x0_26 (fun w => ∃ k, k < n_8 ∧ I_8 k w) post) (H : Heap) (locs : List Loc) (hP : va_P (dC, dI) vwCl [(h0, .inr (8, [.int s0_5_terms, .ref h0_1, .ref h0_2, .int s0_5_triples, .ref h0_3, .int s0_5_patterns, .ref h0_4, .ref h0_5, .int s0_5_found, .ref h0_6, .int s0_5_kept, .int s0_5_keptVariables, .ref h0_7, .int s0_5_thrown])), (h0_1, .inl (cI, 100, .inl s0_5_number)), (h0_2, .inl (cI, 40, .inl s0_5_term)), (h0_3, .inl (cI, 180, .inl s0_5_store)), (h0_4, .inl (cI, 9, .inl s0_5_query)), (h0_5, .inl (cI, 16, .inl s0_5_bound)), (h0_6, .inl (cI, 2000, .inl s0_5_work)), (h0_7, .inl (cI, 2000, .inl s0_5_answers))] H) (hD : va_D A [(h0, .inr (8, [.int s0_5_terms, .ref h0_1, .ref h0_2, .int s0_5_triples, .ref h0_3, .int s0_5_patterns, .ref h0_4, .ref h0_5, .int s0_5_found, .ref h0_6, .int s0_5_kept, .int s0_5_keptVariables, .ref h0_7, .int s0_5_thrown])), (h0_1, .inl (cI, 100, .inl s0_5_number)), (h0_2, .inl (cI, 40, .inl s0_5_term)), (h0_3, .inl (cI, 180, .inl s0_5_store)), (h0_4, .inl (cI, 9, .inl s0_5_query)), (h0_5, .inl (cI, 16, .inl s0_5_bound)), (h0_6, .inl (cI, 2000, .inl s0_5_work)), (h0_7, .inl (cI, 2000, .inl s0_5_answers))]) (hS : va_S A s.heap H locs) (ls : Array Slot) (hl : lv_has ls 4 [(0, .ref h0), (2, .int v2_24), (3, .int v3_25)]), W p l e rm_X8_shape s m ([.ref h0] : List Value).toArray below meth c H locs 0 0 (MQ below (Q_X8_shape dC dI cI h0 h0_1 h0_2 h0_3 h0_4 h0_5 h0_6 h0_7 (s0_terms, s0_number, s0_term, s0_triples, s0_store, s0_patterns, s0_query, s0_bound, s0_found, s0_work, s0_kept, s0_keptVariables, s0_answers, s0_thrown) A post) (([.ref h0] : List Value).toArray) s 0 0 A) (F0 m 74 ls [.int x0_26]) := by
          intro v2_24 v3_25 x0_26 h H locs hP hD hS ls hl
          refine lv_iconst (v := (0 : Int32)) hx hb dX8_shape_74 (by decide) ?_
          exact lab_75 v2_24 v3_25 (0 : Int32) x0_26 h _ _ hP hD hS _ hl
        refine lv_iload_n hx hb dX8_shape_35 rfl (lv_at hl 3 rfl) ?_
        refine lv_aload_n hx hb dX8_shape_36 rfl (lv_at hl 0 rfl) ?_
        refine va_get (D := (dC, dI)) (ci := 8) (v := .int s0_5_patterns) (C := RX8) (T := TX8) (N := 14) hx hb hts (hinX8) hown hK hP 0 rfl rfl 5 (by decide) (hts (.fieldLink RX8 67 "TripleJoinsModel" "patterns" "I") (by decide +kernel)) (fun _ h9 => h9) rfl dX8_shape_37 ?_
        obtain ⟨ht_, hf_⟩ := h
        refine lv_icmp_ge (tgt := 125) hx hb dX8_shape_40 (by decide) (fun c_27 => ?_) (fun c_27 => ?_)
        · have h := ht_ c_27
          refine lv_iload_n hx hb dX8_shape_125 rfl (lv_at hl 1 rfl) ?_
          obtain ⟨ht_, hf_⟩ := h
          refine lv_if_eq (tgt := 133) hx hb dX8_shape_126 (by decide) (fun c_28 => ?_) (fun c_28 => ?_)
          · have h := ht_ c_28
            refine lv_iconst (v := (0 : Int32)) hx hb dX8_shape_133 (by decide) ?_
            have hl : lv_has ls 4 [(2, .int v2_10)] := lv_sub hl [2] rfl
            exact lab_134 s0_5_terms s0_5_number s0_5_term s0_5_triples s0_5_store s0_5_patterns s0_5_query s0_5_bound s0_5_found s0_5_work s0_5_kept s0_5_keptVariables s0_5_answers s0_5_thrown v2_10 (0 : Int32) h _ _ hP hD hS _ hl
          · have h := hf_ c_28
            refine lv_iconst (v := (1 : Int32)) hx hb dX8_shape_129 (by decide) ?_
            refine lv_goto (tgt := 134) hx hb dX8_shape_130 (by decide) ?_
            have hl : lv_has ls 4 [(2, .int v2_10)] := lv_sub hl [2] rfl
            exact lab_134 s0_5_terms s0_5_number s0_5_term s0_5_triples s0_5_store s0_5_patterns s0_5_query s0_5_bound s0_5_found s0_5_work s0_5_kept s0_5_keptVariables s0_5_answers s0_5_thrown v2_10 (1 : Int32) h _ _ hP hD hS _ hl
        · have h := hf_ c_27
          refine lv_iload_n hx hb dX8_shape_43 rfl (lv_at hl 1 rfl) ?_
          refine lv_aload_n hx hb dX8_shape_44 rfl (lv_at hl 0 rfl) ?_
          refine va_get (D := (dC, dI)) (ci := 8) (v := .ref h0_4) (C := RX8) (T := TX8) (N := 14) hx hb hts (hinX8) hown hK hP 0 rfl rfl 6 (by decide) (hts (.fieldLink RX8 19 "TripleJoinsModel" "query" "[I") (by decide +kernel)) (fun _ h9 => h9) rfl dX8_shape_45 ?_
          refine lv_iconst (v := (0 : Int32)) hx hb dX8_shape_48 (by decide) ?_
          obtain ⟨hin, h⟩ := h
          refine va_iald (n := 9) hx hb hK hP 4 0 rfl rfl hin dX8_shape_49 ?_
          obtain ⟨ht_, hf_⟩ := h
          refine lv_if_ge (tgt := 74) hx hb dX8_shape_50 (by decide) (fun c_29 => ?_) (fun c_29 => ?_)
          · have h := ht_ c_29
            have hl : lv_has ls 4 [(0, .ref h0), (2, .int v2_10), (3, .int v3_11)] := lv_sub hl [0, 2, 3] rfl
            exact lab_74 v2_10 v3_11 v1_9 h _ _ hP hD hS _ hl
          · have h := hf_ c_29
            refine lv_aload_n hx hb dX8_shape_53 rfl (lv_at hl 0 rfl) ?_
            refine va_get (D := (dC, dI)) (ci := 8) (v := .ref h0_4) (C := RX8) (T := TX8) (N := 14) hx hb hts (hinX8) hown hK hP 0 rfl rfl 6 (by decide) (hts (.fieldLink RX8 19 "TripleJoinsModel" "query" "[I") (by decide +kernel)) (fun _ h9 => h9) rfl dX8_shape_54 ?_
            refine lv_iconst (v := (3 : Int32)) hx hb dX8_shape_57 (by decide) ?_
            refine lv_iload_n hx hb dX8_shape_58 rfl (lv_at hl 3 rfl) ?_
            refine lv_imul hx hb dX8_shape_59 ?_
            obtain ⟨hin, h⟩ := h
            refine va_iald (n := 9) hx hb hK hP 4 0 rfl rfl hin dX8_shape_60 ?_
            refine lv_aload_n hx hb dX8_shape_61 rfl (lv_at hl 0 rfl) ?_
            refine va_get (D := (dC, dI)) (ci := 8) (v := .ref h0_4) (C := RX8) (T := TX8) (N := 14) hx hb hts (hinX8) hown hK hP 0 rfl rfl 6 (by decide) (hts (.fieldLink RX8 19 "TripleJoinsModel" "query" "[I") (by decide +kernel)) (fun _ h9 => h9) rfl dX8_shape_62 ?_
            refine lv_iconst (v := (0 : Int32)) hx hb dX8_shape_65 (by decide) ?_
            obtain ⟨hin, h⟩ := h
            refine va_iald (n := 9) hx hb hK hP 4 0 rfl rfl hin dX8_shape_66 ?_
            obtain ⟨ht_, hf_⟩ := h
            refine lv_icmp_ne (tgt := 74) hx hb dX8_shape_67 (by decide) (fun c_30 => ?_) (fun c_30 => ?_)
            · have h := ht_ c_30
              have hl : lv_has ls 4 [(0, .ref h0), (2, .int v2_10), (3, .int v3_11)] := lv_sub hl [0, 2, 3] rfl
              exact lab_74 v2_10 v3_11 v1_9 h _ _ hP hD hS _ hl
            · have h := hf_ c_30
              refine lv_iconst (v := (1 : Int32)) hx hb dX8_shape_70 (by decide) ?_
              refine lv_goto (tgt := 75) hx hb dX8_shape_71 (by decide) ?_
              have hl : lv_has ls 4 [(0, .ref h0), (2, .int v2_10), (3, .int v3_11)] := lv_sub hl [0, 2, 3] rfl
              exact lab_75 v2_10 v3_11 (1 : Int32) v1_9 h _ _ hP hD hS _ hl
    exact loop_8 n_8 v1_6 x0_7 (1 : Int32) h _ _ hP hD hS _ hl
  have lab_18 : ∀ (s0_31_terms : Int32) (s0_31_number : Nat → Int32) (s0_31_term : Nat → Int32) (s0_31_triples : Int32) (s0_31_store : Nat → Int32) (s0_31_patterns : Int32) (s0_31_query : Nat → Int32) (s0_31_bound : Nat → Int32) (s0_31_found : Int32) (s0_31_work : Nat → Int32) (s0_31_kept : Int32) (s0_31_keptVariables : Int32) (s0_31_answers : Nat → Int32) (s0_31_thrown : Int32) (x0_32 : Int32) (h : P_X8_shape_j18 (s0_31_terms, s0_31_number, s0_31_term, s0_31_triples, s0_31_store, s0_31_patterns, s0_31_query, s0_31_bound, s0_31_found, s0_31_work, s0_31_kept, s0_31_keptVariables, s0_31_answers, s0_31_thrown) x0_32 post) (H : Heap) (locs : List Loc) (hP : va_P (dC, dI) vwCl [(h0, .inr (8, [.int s0_31_terms, .ref h0_1, .ref h0_2, .int s0_31_triples, .ref h0_3, .int s0_31_patterns, .ref h0_4, .ref h0_5, .int s0_31_found, .ref h0_6, .int s0_31_kept, .int s0_31_keptVariables, .ref h0_7, .int s0_31_thrown])), (h0_1, .inl (cI, 100, .inl s0_31_number)), (h0_2, .inl (cI, 40, .inl s0_31_term)), (h0_3, .inl (cI, 180, .inl s0_31_store)), (h0_4, .inl (cI, 9, .inl s0_31_query)), (h0_5, .inl (cI, 16, .inl s0_31_bound)), (h0_6, .inl (cI, 2000, .inl s0_31_work)), (h0_7, .inl (cI, 2000, .inl s0_31_answers))] H) (hD : va_D A [(h0, .inr (8, [.int s0_31_terms, .ref h0_1, .ref h0_2, .int s0_31_triples, .ref h0_3, .int s0_31_patterns, .ref h0_4, .ref h0_5, .int s0_31_found, .ref h0_6, .int s0_31_kept, .int s0_31_keptVariables, .ref h0_7, .int s0_31_thrown])), (h0_1, .inl (cI, 100, .inl s0_31_number)), (h0_2, .inl (cI, 40, .inl s0_31_term)), (h0_3, .inl (cI, 180, .inl s0_31_store)), (h0_4, .inl (cI, 9, .inl s0_31_query)), (h0_5, .inl (cI, 16, .inl s0_31_bound)), (h0_6, .inl (cI, 2000, .inl s0_31_work)), (h0_7, .inl (cI, 2000, .inl s0_31_answers))]) (hS : va_S A s.heap H locs) (ls : Array Slot) (hl : lv_has ls 4 [(0, .ref h0)]), W p l e rm_X8_shape s m ([.ref h0] : List Value).toArray below meth c H locs 0 0 (MQ below (Q_X8_shape dC dI cI h0 h0_1 h0_2 h0_3 h0_4 h0_5 h0_6 h0_7 (s0_terms, s0_number, s0_term, s0_triples, s0_store, s0_patterns, s0_query, s0_bound, s0_found, s0_work, s0_kept, s0_keptVariables, s0_answers, s0_thrown) A post) (([.ref h0] : List Value).toArray) s 0 0 A) (F0 m 18 ls [.int x0_32]) := by
    intro s0_31_terms s0_31_number s0_31_term s0_31_triples s0_31_store s0_31_patterns s0_31_query s0_31_bound s0_31_found s0_31_work s0_31_kept s0_31_keptVariables s0_31_answers s0_31_thrown x0_32 h H locs hP hD hS ls hl
    refine lv_istore_n (lv' := [(1, .int x0_32), (0, .ref h0)]) hx hb dX8_shape_18 rfl hl (by decide) rfl (fun ls hl => ?_)
    refine lv_aload_n hx hb dX8_shape_19 rfl (lv_at hl 1 rfl) ?_
    refine va_get (D := (dC, dI)) (ci := 8) (v := .int s0_31_patterns) (C := RX8) (T := TX8) (N := 14) hx hb hts (hinX8) hown hK hP 0 rfl rfl 5 (by decide) (hts (.fieldLink RX8 67 "TripleJoinsModel" "patterns" "I") (by decide +kernel)) (fun _ h9 => h9) rfl dX8_shape_20 ?_
    refine lv_iconst (v := (1 : Int32)) hx hb dX8_shape_23 (by decide) ?_
    obtain ⟨ht_, hf_⟩ := h
    refine lv_icmp_le (tgt := 31) hx hb dX8_shape_24 (by decide) (fun c_33 => ?_) (fun c_33 => ?_)
    · have h := ht_ c_33
      refine lv_iconst (v := (0 : Int32)) hx hb dX8_shape_31 (by decide) ?_
      have hl : lv_has ls 4 [(0, .ref h0), (1, .int x0_32)] := lv_sub hl [1, 0] rfl
      exact lab_32 s0_31_terms s0_31_number s0_31_term s0_31_triples s0_31_store s0_31_patterns s0_31_query s0_31_bound s0_31_found s0_31_work s0_31_kept s0_31_keptVariables s0_31_answers s0_31_thrown x0_32 (0 : Int32) h _ _ hP hD hS _ hl
    · have h := hf_ c_33
      refine lv_iconst (v := (1 : Int32)) hx hb dX8_shape_27 (by decide) ?_
      refine lv_goto (tgt := 32) hx hb dX8_shape_28 (by decide) ?_
      have hl : lv_has ls 4 [(0, .ref h0), (1, .int x0_32)] := lv_sub hl [1, 0] rfl
      exact lab_32 s0_31_terms s0_31_number s0_31_term s0_31_triples s0_31_store s0_31_patterns s0_31_query s0_31_bound s0_31_found s0_31_work s0_31_kept s0_31_keptVariables s0_31_answers s0_31_thrown x0_32 (1 : Int32) h _ _ hP hD hS _ hl
  refine lv_aload_n hx hb dX8_shape_0 rfl (lv_at hl 0 rfl) ?_
  refine lv_iconst (v := (0 : Int32)) hx hb dX8_shape_1 (by decide) ?_
  refine va_put (D := (dC, dI)) (ci := 8) (v := .int (0 : Int32)) (ty := .int) (C := RX8) (T := TX8) (N := 14) hx hb hts (hinX8) tyX8 tyX8_ok nmX8 hown hK hP hD hS 0 rfl rfl 13 (by decide) (hts (.fieldLink RX8 31 "TripleJoinsModel" "thrown" "I") (by decide +kernel)) (fun _ h9 => h9) rfl (by decide +kernel) rfl rfl (Nat.le_of_ble_eq_true rfl) dX8_shape_2 (fun H locs hP hD hS => ?_)
  have hP : va_P (dC, dI) vwCl [(h0, .inr (8, [.int s0_terms, .ref h0_1, .ref h0_2, .int s0_triples, .ref h0_3, .int s0_patterns, .ref h0_4, .ref h0_5, .int s0_found, .ref h0_6, .int s0_kept, .int s0_keptVariables, .ref h0_7, .int (0 : Int32)])), (h0_1, .inl (cI, 100, .inl s0_number)), (h0_2, .inl (cI, 40, .inl s0_term)), (h0_3, .inl (cI, 180, .inl s0_store)), (h0_4, .inl (cI, 9, .inl s0_query)), (h0_5, .inl (cI, 16, .inl s0_bound)), (h0_6, .inl (cI, 2000, .inl s0_work)), (h0_7, .inl (cI, 2000, .inl s0_answers))] _ := hP
  have hD : va_D A [(h0, .inr (8, [.int s0_terms, .ref h0_1, .ref h0_2, .int s0_triples, .ref h0_3, .int s0_patterns, .ref h0_4, .ref h0_5, .int s0_found, .ref h0_6, .int s0_kept, .int s0_keptVariables, .ref h0_7, .int (0 : Int32)])), (h0_1, .inl (cI, 100, .inl s0_number)), (h0_2, .inl (cI, 40, .inl s0_term)), (h0_3, .inl (cI, 180, .inl s0_store)), (h0_4, .inl (cI, 9, .inl s0_query)), (h0_5, .inl (cI, 16, .inl s0_bound)), (h0_6, .inl (cI, 2000, .inl s0_work)), (h0_7, .inl (cI, 2000, .inl s0_answers))] := hD
  refine lv_aload_n hx hb dX8_shape_5 rfl (lv_at hl 0 rfl) ?_
  refine va_get (D := (dC, dI)) (ci := 8) (v := .int s0_patterns) (C := RX8) (T := TX8) (N := 14) hx hb hts (hinX8) hown hK hP 0 rfl rfl 5 (by decide) (hts (.fieldLink RX8 67 "TripleJoinsModel" "patterns" "I") (by decide +kernel)) (fun _ h9 => h9) rfl dX8_shape_6 ?_
  refine lv_iconst (v := (1 : Int32)) hx hb dX8_shape_9 (by decide) ?_
  obtain ⟨ht_, hf_⟩ := h
  refine lv_icmp_le (tgt := 17) hx hb dX8_shape_10 (by decide) (fun c_34 => ?_) (fun c_34 => ?_)
  · have h := ht_ c_34
    refine lv_iconst (v := (0 : Int32)) hx hb dX8_shape_17 (by decide) ?_
    exact lab_18 s0_terms s0_number s0_term s0_triples s0_store s0_patterns s0_query s0_bound s0_found s0_work s0_kept s0_keptVariables s0_answers (0 : Int32) (0 : Int32) h _ _ hP hD hS _ hl
  · have h := hf_ c_34
    refine lv_iconst (v := (1 : Int32)) hx hb dX8_shape_13 (by decide) ?_
    refine lv_goto (tgt := 18) hx hb dX8_shape_14 (by decide) ?_
    exact lab_18 s0_terms s0_number s0_term s0_triples s0_store s0_patterns s0_query s0_bound s0_found s0_work s0_kept s0_keptVariables s0_answers (0 : Int32) (1 : Int32) h _ _ hP hD hS _ hl
abbrev Q_X8_joined (dC : Nat → ClassId) (dI : Nat → Nat → Nat) (cI : ClassId) (h0 h0_1 h0_2 h0_3 h0_4 h0_5 h0_6 h0_7 : Nat) (s0 : ModS) (A : Nat → Prop) (post : Int32 → ModS → Prop) : Array Value → State → Outcome → State → Prop := va_Qi post (fun (u : ModS) (t : State) => va_P (dC, dI) vwCl [(h0, .inr (8, [.int u.terms, .ref h0_1, .ref h0_2, .int u.triples, .ref h0_3, .int u.patterns, .ref h0_4, .ref h0_5, .int u.found, .ref h0_6, .int u.kept, .int u.keptVariables, .ref h0_7, .int u.thrown])), (h0_1, .inl (cI, 100, .inl u.number)), (h0_2, .inl (cI, 40, .inl u.term)), (h0_3, .inl (cI, 180, .inl u.store)), (h0_4, .inl (cI, 9, .inl u.query)), (h0_5, .inl (cI, 16, .inl u.bound)), (h0_6, .inl (cI, 2000, .inl u.work)), (h0_7, .inl (cI, 2000, .inl u.answers))] t.heap ∧ va_D A [(h0, .inr (8, [.int u.terms, .ref h0_1, .ref h0_2, .int u.triples, .ref h0_3, .int u.patterns, .ref h0_4, .ref h0_5, .int u.found, .ref h0_6, .int u.kept, .int u.keptVariables, .ref h0_7, .int u.thrown])), (h0_1, .inl (cI, 100, .inl u.number)), (h0_2, .inl (cI, 40, .inl u.term)), (h0_3, .inl (cI, 180, .inl u.store)), (h0_4, .inl (cI, 9, .inl u.query)), (h0_5, .inl (cI, 16, .inl u.bound)), (h0_6, .inl (cI, 2000, .inl u.work)), (h0_7, .inl (cI, 2000, .inl u.answers))]) A
abbrev rm_X8_joined : Room := { frames := 2, cells := 0, slots := 0, locals := 51 }
set_option maxHeartbeats 4000000 in
set_option maxRecDepth 100000 in
theorem c_X8_joined (l : Launch) (dC : Nat → ClassId) (dI : Nat → Nat → Nat) (cI : ClassId) (h0 h0_1 h0_2 h0_3 h0_4 h0_5 h0_6 h0_7 : Nat) (sz : Nat) (s0 : ModS) (v1 : Int32) (post : Int32 → ModS → Prop) (h : P_X8_joined s0 v1 post) : Met l yX8_joined wsX8_joined rm_X8_joined (va_Pc [.ref h0, .int v1] (cpre (dC, dI) [(cI, .int)] [(h0, .inr (8, [.int s0.terms, .ref h0_1, .ref h0_2, .int s0.triples, .ref h0_3, .int s0.patterns, .ref h0_4, .ref h0_5, .int s0.found, .ref h0_6, .int s0.kept, .int s0.keptVariables, .ref h0_7, .int s0.thrown])), (h0_1, .inl (cI, 100, .inl s0.number)), (h0_2, .inl (cI, 40, .inl s0.term)), (h0_3, .inl (cI, 180, .inl s0.store)), (h0_4, .inl (cI, 9, .inl s0.query)), (h0_5, .inl (cI, 16, .inl s0.bound)), (h0_6, .inl (cI, 2000, .inl s0.work)), (h0_7, .inl (cI, 2000, .inl s0.answers))] sz)) (Q_X8_joined dC dI cI h0 h0_1 h0_2 h0_3 h0_4 h0_5 h0_6 h0_7 s0 (va_A [(h0, .inr (8, [.int s0.terms, .ref h0_1, .ref h0_2, .int s0.triples, .ref h0_3, .int s0.patterns, .ref h0_4, .ref h0_5, .int s0.found, .ref h0_6, .int s0.kept, .int s0.keptVariables, .ref h0_7, .int s0.thrown])), (h0_1, .inl (cI, 100, .inl s0.number)), (h0_2, .inl (cI, 40, .inl s0.term)), (h0_3, .inl (cI, 180, .inl s0.store)), (h0_4, .inl (cI, 9, .inl s0.query)), (h0_5, .inl (cI, 16, .inl s0.bound)), (h0_6, .inl (cI, 2000, .inl s0.work)), (h0_7, .inl (cI, 2000, .inl s0.answers))] sz) post) 0 0 (va_A [(h0, .inr (8, [.int s0.terms, .ref h0_1, .ref h0_2, .int s0.triples, .ref h0_3, .int s0.patterns, .ref h0_4, .ref h0_5, .int s0.found, .ref h0_6, .int s0.kept, .int s0.keptVariables, .ref h0_7, .int s0.thrown])), (h0_1, .inl (cI, 100, .inl s0.number)), (h0_2, .inl (cI, 40, .inl s0.term)), (h0_3, .inl (cI, 180, .inl s0.store)), (h0_4, .inl (cI, 9, .inl s0.query)), (h0_5, .inl (cI, 16, .inl s0.bound)), (h0_6, .inl (cI, 2000, .inl s0.work)), (h0_7, .inl (cI, 2000, .inl s0.answers))] sz) := by
  refine Met.ofW (cc := cX8_joined) (maxL := 9) (ret := (some .int)) (by decide) rfl ?_
  intro p e s m args below meth c s₁ B hml hv
  obtain ⟨rfl, hsz, hP, hK, hD0, hN⟩ := hv
  have hx := B.exec
  have hb := B.bytes
  have hr := B.returns
  have hts := atoms_spec (ws := wsX8_joined) B.pre
  have hown : s.vm.findClass RX8 = some m.cls := findClass_of_methodNamed B.named
  have hlocks := B.notSynchronized
  subst hsz
  have hD := hD0.self (sz := s.heap.size)
  generalize hAe : va_A [(h0, .inr (8, [.int s0.terms, .ref h0_1, .ref h0_2, .int s0.triples, .ref h0_3, .int s0.patterns, .ref h0_4, .ref h0_5, .int s0.found, .ref h0_6, .int s0.kept, .int s0.keptVariables, .ref h0_7, .int s0.thrown])), (h0_1, .inl (cI, 100, .inl s0.number)), (h0_2, .inl (cI, 40, .inl s0.term)), (h0_3, .inl (cI, 180, .inl s0.store)), (h0_4, .inl (cI, 9, .inl s0.query)), (h0_5, .inl (cI, 16, .inl s0.bound)), (h0_6, .inl (cI, 2000, .inl s0.work)), (h0_7, .inl (cI, 2000, .inl s0.answers))] s.heap.size = A at hD ⊢
  have hA : ∀ q : Nat, s.heap.size ≤ q → A q := fun q h => by rw [← hAe]; exact Or.inr h
  clear hAe hD0
  obtain ⟨s0_terms, s0_number, s0_term, s0_triples, s0_store, s0_patterns, s0_query, s0_bound, s0_found, s0_work, s0_kept, s0_keptVariables, s0_answers, s0_thrown⟩ := s0
  have hS : va_S A s.heap s.heap [] := va_S.rf
  have hP : va_P (dC, dI) vwCl [(h0, .inr (8, [.int s0_terms, .ref h0_1, .ref h0_2, .int s0_triples, .ref h0_3, .int s0_patterns, .ref h0_4, .ref h0_5, .int s0_found, .ref h0_6, .int s0_kept, .int s0_keptVariables, .ref h0_7, .int s0_thrown])), (h0_1, .inl (cI, 100, .inl s0_number)), (h0_2, .inl (cI, 40, .inl s0_term)), (h0_3, .inl (cI, 180, .inl s0_store)), (h0_4, .inl (cI, 9, .inl s0_query)), (h0_5, .inl (cI, 16, .inl s0_bound)), (h0_6, .inl (cI, 2000, .inl s0_work)), (h0_7, .inl (cI, 2000, .inl s0_answers))] s.heap := hP
  have hD : va_D A [(h0, .inr (8, [.int s0_terms, .ref h0_1, .ref h0_2, .int s0_triples, .ref h0_3, .int s0_patterns, .ref h0_4, .ref h0_5, .int s0_found, .ref h0_6, .int s0_kept, .int s0_keptVariables, .ref h0_7, .int s0_thrown])), (h0_1, .inl (cI, 100, .inl s0_number)), (h0_2, .inl (cI, 40, .inl s0_term)), (h0_3, .inl (cI, 180, .inl s0_store)), (h0_4, .inl (cI, 9, .inl s0_query)), (h0_5, .inl (cI, 16, .inl s0_bound)), (h0_6, .inl (cI, 2000, .inl s0_work)), (h0_7, .inl (cI, 2000, .inl s0_answers))] := hD
  have hl := lv_entry ([.ref h0, .int v1]) (n := 9) (Nat.le_of_ble_eq_true rfl)
  rw [lg_entry_eq]
  generalize (lg_sl ([.ref h0, .int v1]) ++ List.replicate (9 - (lg_sl ([.ref h0, .int v1])).length) Slot.unset).toArray = ls at hl ⊢
  have hl : lv_has ls 9 [(0, .ref h0), (1, .int v1)] := hl
  have hinX8 : ∀ w ∈ u_ws RX8 TX8 14, w ∈ wsX8_joined := by decide +kernel
  have lab_206 : ∀ (s0_1_terms : Int32) (s0_1_number : Nat → Int32) (s0_1_term : Nat → Int32) (s0_1_triples : Int32) (s0_1_store : Nat → Int32) (s0_1_patterns : Int32) (s0_1_query : Nat → Int32) (s0_1_bound : Nat → Int32) (s0_1_found : Int32) (s0_1_work : Nat → Int32) (s0_1_kept : Int32) (s0_1_keptVariables : Int32) (s0_1_answers : Nat → Int32) (s0_1_thrown : Int32) (v4_2 : Int32) (h : P_X8_joined_j206 (s0_1_terms, s0_1_number, s0_1_term, s0_1_triples, s0_1_store, s0_1_patterns, s0_1_query, s0_1_bound, s0_1_found, s0_1_work, s0_1_kept, s0_1_keptVariables, s0_1_answers, s0_1_thrown) v4_2 post) (H : Heap) (locs : List Loc) (hP : va_P (dC, dI) vwCl [(h0, .inr (8, [.int s0_1_terms, .ref h0_1, .ref h0_2, .int s0_1_triples, .ref h0_3, .int s0_1_patterns, .ref h0_4, .ref h0_5, .int s0_1_found, .ref h0_6, .int s0_1_kept, .int s0_1_keptVariables, .ref h0_7, .int s0_1_thrown])), (h0_1, .inl (cI, 100, .inl s0_1_number)), (h0_2, .inl (cI, 40, .inl s0_1_term)), (h0_3, .inl (cI, 180, .inl s0_1_store)), (h0_4, .inl (cI, 9, .inl s0_1_query)), (h0_5, .inl (cI, 16, .inl s0_1_bound)), (h0_6, .inl (cI, 2000, .inl s0_1_work)), (h0_7, .inl (cI, 2000, .inl s0_1_answers))] H) (hD : va_D A [(h0, .inr (8, [.int s0_1_terms, .ref h0_1, .ref h0_2, .int s0_1_triples, .ref h0_3, .int s0_1_patterns, .ref h0_4, .ref h0_5, .int s0_1_found, .ref h0_6, .int s0_1_kept, .int s0_1_keptVariables, .ref h0_7, .int s0_1_thrown])), (h0_1, .inl (cI, 100, .inl s0_1_number)), (h0_2, .inl (cI, 40, .inl s0_1_term)), (h0_3, .inl (cI, 180, .inl s0_1_store)), (h0_4, .inl (cI, 9, .inl s0_1_query)), (h0_5, .inl (cI, 16, .inl s0_1_bound)), (h0_6, .inl (cI, 2000, .inl s0_1_work)), (h0_7, .inl (cI, 2000, .inl s0_1_answers))]) (hS : va_S A s.heap H locs) (ls : Array Slot) (hl : lv_has ls 9 [(0, .ref h0), (4, .int v4_2)]), W p l e rm_X8_joined s m ([.ref h0, .int v1] : List Value).toArray below meth c H locs 0 0 (MQ below (Q_X8_joined dC dI cI h0 h0_1 h0_2 h0_3 h0_4 h0_5 h0_6 h0_7 (s0_terms, s0_number, s0_term, s0_triples, s0_store, s0_patterns, s0_query, s0_bound, s0_found, s0_work, s0_kept, s0_keptVariables, s0_answers, s0_thrown) A post) (([.ref h0, .int v1] : List Value).toArray) s 0 0 A) (F0 m 206 ls []) := by
    intro s0_1_terms s0_1_number s0_1_term s0_1_triples s0_1_store s0_1_patterns s0_1_query s0_1_bound s0_1_found s0_1_work s0_1_kept s0_1_keptVariables s0_1_answers s0_1_thrown v4_2 h H locs hP hD hS ls hl
    refine lv_aload_n hx hb dX8_joined_206 rfl (lv_at hl 0 rfl) ?_
    refine va_get (D := (dC, dI)) (ci := 8) (v := .int s0_1_thrown) (C := RX8) (T := TX8) (N := 14) hx hb hts (hinX8) hown hK hP 0 rfl rfl 13 (by decide) (hts (.fieldLink RX8 31 "TripleJoinsModel" "thrown" "I") (by decide +kernel)) (fun _ h9 => h9) rfl dX8_joined_207 ?_
    obtain ⟨ht_, hf_⟩ := h
    refine lv_if_le (tgt := 217) hx hb dX8_joined_210 (by decide) (fun c_3 => ?_) (fun c_3 => ?_)
    · have h := ht_ c_3
      refine lv_iload hx hb dX8_joined_217 (lv_at hl 1 rfl) ?_
      exact W.iret (v := v4_2) hx hb hr (fun t ht hW => ⟨⟨v4_2, (s0_1_terms, s0_1_number, s0_1_term, s0_1_triples, s0_1_store, s0_1_patterns, s0_1_query, s0_1_bound, s0_1_found, s0_1_work, s0_1_kept, s0_1_keptVariables, s0_1_answers, s0_1_thrown), rfl, h, ⟨by rw [ht]; exact hP, hD⟩⟩, hS.F ht⟩) hS.2.2 dX8_joined_219
    · have h := hf_ c_3
      refine lv_iconst (v := (0 : Int32)) hx hb dX8_joined_213 (by decide) ?_
      refine lv_goto (tgt := 219) hx hb dX8_joined_214 (by decide) ?_
      exact W.iret (v := (0 : Int32)) hx hb hr (fun t ht hW => ⟨⟨(0 : Int32), (s0_1_terms, s0_1_number, s0_1_term, s0_1_triples, s0_1_store, s0_1_patterns, s0_1_query, s0_1_bound, s0_1_found, s0_1_work, s0_1_kept, s0_1_keptVariables, s0_1_answers, s0_1_thrown), rfl, h, ⟨by rw [ht]; exact hP, hD⟩⟩, hS.F ht⟩) hS.2.2 dX8_joined_219
  have lab_20 : ∀ (s0_4_terms : Int32) (s0_4_number : Nat → Int32) (s0_4_term : Nat → Int32) (s0_4_triples : Int32) (s0_4_store : Nat → Int32) (s0_4_patterns : Int32) (s0_4_query : Nat → Int32) (s0_4_bound : Nat → Int32) (s0_4_found : Int32) (s0_4_work : Nat → Int32) (s0_4_kept : Int32) (s0_4_keptVariables : Int32) (s0_4_answers : Nat → Int32) (s0_4_thrown : Int32) (x0_5 : Int32) (h : P_X8_joined_j20 (s0_4_terms, s0_4_number, s0_4_term, s0_4_triples, s0_4_store, s0_4_patterns, s0_4_query, s0_4_bound, s0_4_found, s0_4_work, s0_4_kept, s0_4_keptVariables, s0_4_answers, s0_4_thrown) v1 x0_5 post) (H : Heap) (locs : List Loc) (hP : va_P (dC, dI) vwCl [(h0, .inr (8, [.int s0_4_terms, .ref h0_1, .ref h0_2, .int s0_4_triples, .ref h0_3, .int s0_4_patterns, .ref h0_4, .ref h0_5, .int s0_4_found, .ref h0_6, .int s0_4_kept, .int s0_4_keptVariables, .ref h0_7, .int s0_4_thrown])), (h0_1, .inl (cI, 100, .inl s0_4_number)), (h0_2, .inl (cI, 40, .inl s0_4_term)), (h0_3, .inl (cI, 180, .inl s0_4_store)), (h0_4, .inl (cI, 9, .inl s0_4_query)), (h0_5, .inl (cI, 16, .inl s0_4_bound)), (h0_6, .inl (cI, 2000, .inl s0_4_work)), (h0_7, .inl (cI, 2000, .inl s0_4_answers))] H) (hD : va_D A [(h0, .inr (8, [.int s0_4_terms, .ref h0_1, .ref h0_2, .int s0_4_triples, .ref h0_3, .int s0_4_patterns, .ref h0_4, .ref h0_5, .int s0_4_found, .ref h0_6, .int s0_4_kept, .int s0_4_keptVariables, .ref h0_7, .int s0_4_thrown])), (h0_1, .inl (cI, 100, .inl s0_4_number)), (h0_2, .inl (cI, 40, .inl s0_4_term)), (h0_3, .inl (cI, 180, .inl s0_4_store)), (h0_4, .inl (cI, 9, .inl s0_4_query)), (h0_5, .inl (cI, 16, .inl s0_4_bound)), (h0_6, .inl (cI, 2000, .inl s0_4_work)), (h0_7, .inl (cI, 2000, .inl s0_4_answers))]) (hS : va_S A s.heap H locs) (ls : Array Slot) (hl : lv_has ls 9 [(0, .ref h0), (1, .int v1)]), W p l e rm_X8_joined s m ([.ref h0, .int v1] : List Value).toArray below meth c H locs 0 0 (MQ below (Q_X8_joined dC dI cI h0 h0_1 h0_2 h0_3 h0_4 h0_5 h0_6 h0_7 (s0_terms, s0_number, s0_term, s0_triples, s0_store, s0_patterns, s0_query, s0_bound, s0_found, s0_work, s0_kept, s0_keptVariables, s0_answers, s0_thrown) A post) (([.ref h0, .int v1] : List Value).toArray) s 0 0 A) (F0 m 20 ls [.int x0_5, .ref h0]) := by
    intro s0_4_terms s0_4_number s0_4_term s0_4_triples s0_4_store s0_4_patterns s0_4_query s0_4_bound s0_4_found s0_4_work s0_4_kept s0_4_keptVariables s0_4_answers s0_4_thrown x0_5 h H locs hP hD hS ls hl
    refine va_put (D := (dC, dI)) (ci := 8) (v := .int x0_5) (ty := .int) (C := RX8) (T := TX8) (N := 14) hx hb hts (hinX8) tyX8 tyX8_ok nmX8 hown hK hP hD hS 0 rfl rfl 13 (by decide) (hts (.fieldLink RX8 31 "TripleJoinsModel" "thrown" "I") (by decide +kernel)) (fun _ h9 => h9) rfl (by decide +kernel) rfl rfl (Nat.le_of_ble_eq_true rfl) dX8_joined_20 (fun H locs hP hD hS => ?_)
    have hP : va_P (dC, dI) vwCl [(h0, .inr (8, [.int s0_4_terms, .ref h0_1, .ref h0_2, .int s0_4_triples, .ref h0_3, .int s0_4_patterns, .ref h0_4, .ref h0_5, .int s0_4_found, .ref h0_6, .int s0_4_kept, .int s0_4_keptVariables, .ref h0_7, .int x0_5])), (h0_1, .inl (cI, 100, .inl s0_4_number)), (h0_2, .inl (cI, 40, .inl s0_4_term)), (h0_3, .inl (cI, 180, .inl s0_4_store)), (h0_4, .inl (cI, 9, .inl s0_4_query)), (h0_5, .inl (cI, 16, .inl s0_4_bound)), (h0_6, .inl (cI, 2000, .inl s0_4_work)), (h0_7, .inl (cI, 2000, .inl s0_4_answers))] _ := hP
    have hD : va_D A [(h0, .inr (8, [.int s0_4_terms, .ref h0_1, .ref h0_2, .int s0_4_triples, .ref h0_3, .int s0_4_patterns, .ref h0_4, .ref h0_5, .int s0_4_found, .ref h0_6, .int s0_4_kept, .int s0_4_keptVariables, .ref h0_7, .int x0_5])), (h0_1, .inl (cI, 100, .inl s0_4_number)), (h0_2, .inl (cI, 40, .inl s0_4_term)), (h0_3, .inl (cI, 180, .inl s0_4_store)), (h0_4, .inl (cI, 9, .inl s0_4_query)), (h0_5, .inl (cI, 16, .inl s0_4_bound)), (h0_6, .inl (cI, 2000, .inl s0_4_work)), (h0_7, .inl (cI, 2000, .inl s0_4_answers))] := hD
    refine lv_iconst (v := (0 : Int32)) hx hb dX8_joined_23 (by decide) ?_
    refine lv_istore_n (lv' := [(2, .int (0 : Int32)), (0, .ref h0), (1, .int v1)]) hx hb dX8_joined_24 rfl hl (by decide) rfl (fun ls hl => ?_)
    refine lv_iconst (v := (0 : Int32)) hx hb dX8_joined_25 (by decide) ?_
    refine lv_istore_n (lv' := [(3, .int (0 : Int32)), (2, .int (0 : Int32)), (0, .ref h0), (1, .int v1)]) hx hb dX8_joined_26 rfl hl (by decide) rfl (fun ls hl => ?_)
    refine lv_iconst (v := (0 : Int32)) hx hb dX8_joined_27 (by decide) ?_
    refine lv_istore (lv' := [(4, .int (0 : Int32)), (3, .int (0 : Int32)), (2, .int (0 : Int32)), (0, .ref h0), (1, .int v1)]) hx hb dX8_joined_28 hl (by decide) rfl (fun ls hl => ?_)
    refine lv_iconst (v := (0 : Int32)) hx hb dX8_joined_30 (by decide) ?_
    refine lv_istore (lv' := [(5, .int (0 : Int32)), (4, .int (0 : Int32)), (3, .int (0 : Int32)), (2, .int (0 : Int32)), (0, .ref h0), (1, .int v1)]) hx hb dX8_joined_31 hl (by decide) rfl (fun ls hl => ?_)
    have hl : lv_has ls 9 [(0, .ref h0), (1, .int v1), (2, .int (0 : Int32)), (3, .int (0 : Int32)), (4, .int (0 : Int32)), (5, .int (0 : Int32))] := lv_sub hl [4, 5, 3, 2, 1, 0] rfl
    obtain ⟨I_6, hI_6, n_6, h⟩ := h
    have loop_6 : ∀ (n_6 : Nat) (v2_7 : Int32) (v3_8 : Int32) (v4_9 : Int32) (v5_10 : Int32) (s0_11_terms : Int32) (s0_11_number : Nat → Int32) (s0_11_term : Nat → Int32) (s0_11_triples : Int32) (s0_11_store : Nat → Int32) (s0_11_patterns : Int32) (s0_11_query : Nat → Int32) (s0_11_bound : Nat → Int32) (s0_11_found : Int32) (s0_11_work : Nat → Int32) (s0_11_kept : Int32) (s0_11_keptVariables : Int32) (s0_11_answers : Nat → Int32) (s0_11_thrown : Int32) (h : I_6 n_6 (v2_7, v3_8, v4_9, v5_10, (s0_11_terms, s0_11_number, s0_11_term, s0_11_triples, s0_11_store, s0_11_patterns, s0_11_query, s0_11_bound, s0_11_found, s0_11_work, s0_11_kept, s0_11_keptVariables, s0_11_answers, s0_11_thrown))) (H : Heap) (locs : List Loc) (hP : va_P (dC, dI) vwCl [(h0, .inr (8, [.int s0_11_terms, .ref h0_1, .ref h0_2, .int s0_11_triples, .ref h0_3, .int s0_11_patterns, .ref h0_4, .ref h0_5, .int s0_11_found, .ref h0_6, .int s0_11_kept, .int s0_11_keptVariables, .ref h0_7, .int s0_11_thrown])), (h0_1, .inl (cI, 100, .inl s0_11_number)), (h0_2, .inl (cI, 40, .inl s0_11_term)), (h0_3, .inl (cI, 180, .inl s0_11_store)), (h0_4, .inl (cI, 9, .inl s0_11_query)), (h0_5, .inl (cI, 16, .inl s0_11_bound)), (h0_6, .inl (cI, 2000, .inl s0_11_work)), (h0_7, .inl (cI, 2000, .inl s0_11_answers))] H) (hD : va_D A [(h0, .inr (8, [.int s0_11_terms, .ref h0_1, .ref h0_2, .int s0_11_triples, .ref h0_3, .int s0_11_patterns, .ref h0_4, .ref h0_5, .int s0_11_found, .ref h0_6, .int s0_11_kept, .int s0_11_keptVariables, .ref h0_7, .int s0_11_thrown])), (h0_1, .inl (cI, 100, .inl s0_11_number)), (h0_2, .inl (cI, 40, .inl s0_11_term)), (h0_3, .inl (cI, 180, .inl s0_11_store)), (h0_4, .inl (cI, 9, .inl s0_11_query)), (h0_5, .inl (cI, 16, .inl s0_11_bound)), (h0_6, .inl (cI, 2000, .inl s0_11_work)), (h0_7, .inl (cI, 2000, .inl s0_11_answers))]) (hS : va_S A s.heap H locs) (ls : Array Slot) (hl : lv_has ls 9 [(0, .ref h0), (1, .int v1), (2, .int v2_7), (3, .int v3_8), (4, .int v4_9), (5, .int v5_10)]), W p l e rm_X8_joined s m ([.ref h0, .int v1] : List Value).toArray below meth c H locs 0 0 (MQ below (Q_X8_joined dC dI cI h0 h0_1 h0_2 h0_3 h0_4 h0_5 h0_6 h0_7 (s0_terms, s0_number, s0_term, s0_triples, s0_store, s0_patterns, s0_query, s0_bound, s0_found, s0_work, s0_kept, s0_keptVariables, s0_answers, s0_thrown) A post) (([.ref h0, .int v1] : List Value).toArray) s 0 0 A) (F0 m 33 ls []) := by
      intro n_6
      induction n_6 using Nat.strongRecOn with
      | ind n_6 ih_6 =>
        intro v2_7 v3_8 v4_9 v5_10 s0_11_terms s0_11_number s0_11_term s0_11_triples s0_11_store s0_11_patterns s0_11_query s0_11_bound s0_11_found s0_11_work s0_11_kept s0_11_keptVariables s0_11_answers s0_11_thrown h H locs hP hD hS ls hl
        have h := hI_6 n_6 _ h
        refine lv_iload hx hb dX8_joined_33 (lv_at hl 5 rfl) ?_
        refine lv_iload_n hx hb dX8_joined_35 rfl (lv_at hl 1 rfl) ?_
        obtain ⟨ht_, hf_⟩ := h
        refine lv_icmp_gt (tgt := 206) hx hb dX8_joined_36 (by decide) (fun c_12 => ?_) (fun c_12 => ?_)
        · have h := ht_ c_12
          have hl : lv_has ls 9 [(0, .ref h0), (4, .int v4_9)] := lv_sub hl [0, 4] rfl
          exact lab_206 s0_11_terms s0_11_number s0_11_term s0_11_triples s0_11_store s0_11_patterns s0_11_query s0_11_bound s0_11_found s0_11_work s0_11_kept s0_11_keptVariables s0_11_answers s0_11_thrown v4_9 h _ _ hP hD hS _ hl
        · have h := hf_ c_12
          refine lv_aload_n hx hb dX8_joined_39 rfl (lv_at hl 0 rfl) ?_
          refine va_get (D := (dC, dI)) (ci := 8) (v := .int s0_11_thrown) (C := RX8) (T := TX8) (N := 14) hx hb hts (hinX8) hown hK hP 0 rfl rfl 13 (by decide) (hts (.fieldLink RX8 31 "TripleJoinsModel" "thrown" "I") (by decide +kernel)) (fun _ h9 => h9) rfl dX8_joined_40 ?_
          obtain ⟨ht_, hf_⟩ := h
          refine lv_if_ne (tgt := 206) hx hb dX8_joined_43 (by decide) (fun c_13 => ?_) (fun c_13 => ?_)
          · have h := ht_ c_13
            have hl : lv_has ls 9 [(0, .ref h0), (4, .int v4_9)] := lv_sub hl [0, 4] rfl
            exact lab_206 s0_11_terms s0_11_number s0_11_term s0_11_triples s0_11_store s0_11_patterns s0_11_query s0_11_bound s0_11_found s0_11_work s0_11_kept s0_11_keptVariables s0_11_answers s0_11_thrown v4_9 h _ _ hP hD hS _ hl
          · have h := hf_ c_13
            refine lv_iconst (v := (0 : Int32)) hx hb dX8_joined_46 (by decide) ?_
            refine lv_istore (lv' := [(6, .int (0 : Int32)), (0, .ref h0), (1, .int v1), (2, .int v2_7), (3, .int v3_8), (4, .int v4_9), (5, .int v5_10)]) hx hb dX8_joined_47 hl (by decide) rfl (fun ls hl => ?_)
            refine lv_iconst (v := (0 : Int32)) hx hb dX8_joined_49 (by decide) ?_
            refine lv_istore (lv' := [(7, .int (0 : Int32)), (6, .int (0 : Int32)), (0, .ref h0), (1, .int v1), (2, .int v2_7), (3, .int v3_8), (4, .int v4_9), (5, .int v5_10)]) hx hb dX8_joined_50 hl (by decide) rfl (fun ls hl => ?_)
            have hl : lv_has ls 9 [(0, .ref h0), (1, .int v1), (2, .int v2_7), (3, .int v3_8), (5, .int v5_10), (6, .int (0 : Int32)), (7, .int (0 : Int32))] := lv_sub hl [2, 3, 4, 5, 7, 1, 0] rfl
            obtain ⟨I_14, hI_14, n_14, h⟩ := h
            have loop_14 : ∀ (n_14 : Nat) (v6_15 : Int32) (v7_16 : Int32) (h : I_14 n_14 (v6_15, v7_16)) (H : Heap) (locs : List Loc) (hP : va_P (dC, dI) vwCl [(h0, .inr (8, [.int s0_11_terms, .ref h0_1, .ref h0_2, .int s0_11_triples, .ref h0_3, .int s0_11_patterns, .ref h0_4, .ref h0_5, .int s0_11_found, .ref h0_6, .int s0_11_kept, .int s0_11_keptVariables, .ref h0_7, .int s0_11_thrown])), (h0_1, .inl (cI, 100, .inl s0_11_number)), (h0_2, .inl (cI, 40, .inl s0_11_term)), (h0_3, .inl (cI, 180, .inl s0_11_store)), (h0_4, .inl (cI, 9, .inl s0_11_query)), (h0_5, .inl (cI, 16, .inl s0_11_bound)), (h0_6, .inl (cI, 2000, .inl s0_11_work)), (h0_7, .inl (cI, 2000, .inl s0_11_answers))] H) (hD : va_D A [(h0, .inr (8, [.int s0_11_terms, .ref h0_1, .ref h0_2, .int s0_11_triples, .ref h0_3, .int s0_11_patterns, .ref h0_4, .ref h0_5, .int s0_11_found, .ref h0_6, .int s0_11_kept, .int s0_11_keptVariables, .ref h0_7, .int s0_11_thrown])), (h0_1, .inl (cI, 100, .inl s0_11_number)), (h0_2, .inl (cI, 40, .inl s0_11_term)), (h0_3, .inl (cI, 180, .inl s0_11_store)), (h0_4, .inl (cI, 9, .inl s0_11_query)), (h0_5, .inl (cI, 16, .inl s0_11_bound)), (h0_6, .inl (cI, 2000, .inl s0_11_work)), (h0_7, .inl (cI, 2000, .inl s0_11_answers))]) (hS : va_S A s.heap H locs) (ls : Array Slot) (hl : lv_has ls 9 [(0, .ref h0), (1, .int v1), (2, .int v2_7), (3, .int v3_8), (5, .int v5_10), (6, .int v6_15), (7, .int v7_16)]), W p l e rm_X8_joined s m ([.ref h0, .int v1] : List Value).toArray below meth c H locs 0 0 (MQ below (Q_X8_joined dC dI cI h0 h0_1 h0_2 h0_3 h0_4 h0_5 h0_6 h0_7 (s0_terms, s0_number, s0_term, s0_triples, s0_store, s0_patterns, s0_query, s0_bound, s0_found, s0_work, s0_kept, s0_keptVariables, s0_answers, s0_thrown) A post) (([.ref h0, .int v1] : List Value).toArray) s 0 0 A) (F0 m 52 ls []) := by
              intro n_14
              induction n_14 using Nat.strongRecOn with
              | ind n_14 ih_14 =>
                intro v6_15 v7_16 h H locs hP hD hS ls hl
                have h := hI_14 n_14 _ h
                refine lv_iload hx hb dX8_joined_52 (lv_at hl 6 rfl) ?_
                refine lv_aload_n hx hb dX8_joined_54 rfl (lv_at hl 0 rfl) ?_
                refine va_get (D := (dC, dI)) (ci := 8) (v := .int s0_11_patterns) (C := RX8) (T := TX8) (N := 14) hx hb hts (hinX8) hown hK hP 0 rfl rfl 5 (by decide) (hts (.fieldLink RX8 67 "TripleJoinsModel" "patterns" "I") (by decide +kernel)) (fun _ h9 => h9) rfl dX8_joined_55 ?_
                obtain ⟨ht_, hf_⟩ := h
                refine lv_icmp_ge (tgt := 97) hx hb dX8_joined_58 (by decide) (fun c_17 => ?_) (fun c_17 => ?_)
                · have h := ht_ c_17
                  refine lv_iconst (v := (-1 : Int32)) hx hb dX8_joined_97 (by decide) ?_
                  refine lv_istore (lv' := [(4, .int (-1 : Int32)), (0, .ref h0), (1, .int v1), (2, .int v2_7), (3, .int v3_8), (5, .int v5_10), (6, .int v6_15), (7, .int v7_16)]) hx hb dX8_joined_98 hl (by decide) rfl (fun ls hl => ?_)
                  refine lv_iconst (v := (0 : Int32)) hx hb dX8_joined_100 (by decide) ?_
                  refine lv_istore (lv' := [(7, .int (0 : Int32)), (4, .int (-1 : Int32)), (0, .ref h0), (1, .int v1), (2, .int v2_7), (3, .int v3_8), (5, .int v5_10), (6, .int v6_15)]) hx hb dX8_joined_101 hl (by decide) rfl (fun ls hl => ?_)
                  have hl : lv_has ls 9 [(0, .ref h0), (1, .int v1), (2, .int v2_7), (3, .int v3_8), (4, .int (-1 : Int32)), (5, .int v5_10), (6, .int v6_15), (7, .int (0 : Int32))] := lv_sub hl [2, 3, 4, 5, 1, 6, 7, 0] rfl
                  obtain ⟨I_18, hI_18, n_18, h⟩ := h
                  have loop_18 : ∀ (n_18 : Nat) (v4_19 : Int32) (v7_20 : Int32) (s0_21_terms : Int32) (s0_21_number : Nat → Int32) (s0_21_term : Nat → Int32) (s0_21_triples : Int32) (s0_21_store : Nat → Int32) (s0_21_patterns : Int32) (s0_21_query : Nat → Int32) (s0_21_bound : Nat → Int32) (s0_21_found : Int32) (s0_21_work : Nat → Int32) (s0_21_kept : Int32) (s0_21_keptVariables : Int32) (s0_21_answers : Nat → Int32) (s0_21_thrown : Int32) (h : I_18 n_18 (v4_19, v7_20, (s0_21_terms, s0_21_number, s0_21_term, s0_21_triples, s0_21_store, s0_21_patterns, s0_21_query, s0_21_bound, s0_21_found, s0_21_work, s0_21_kept, s0_21_keptVariables, s0_21_answers, s0_21_thrown))) (H : Heap) (locs : List Loc) (hP : va_P (dC, dI) vwCl [(h0, .inr (8, [.int s0_21_terms, .ref h0_1, .ref h0_2, .int s0_21_triples, .ref h0_3, .int s0_21_patterns, .ref h0_4, .ref h0_5, .int s0_21_found, .ref h0_6, .int s0_21_kept, .int s0_21_keptVariables, .ref h0_7, .int s0_21_thrown])), (h0_1, .inl (cI, 100, .inl s0_21_number)), (h0_2, .inl (cI, 40, .inl s0_21_term)), (h0_3, .inl (cI, 180, .inl s0_21_store)), (h0_4, .inl (cI, 9, .inl s0_21_query)), (h0_5, .inl (cI, 16, .inl s0_21_bound)), (h0_6, .inl (cI, 2000, .inl s0_21_work)), (h0_7, .inl (cI, 2000, .inl s0_21_answers))] H) (hD : va_D A [(h0, .inr (8, [.int s0_21_terms, .ref h0_1, .ref h0_2, .int s0_21_triples, .ref h0_3, .int s0_21_patterns, .ref h0_4, .ref h0_5, .int s0_21_found, .ref h0_6, .int s0_21_kept, .int s0_21_keptVariables, .ref h0_7, .int s0_21_thrown])), (h0_1, .inl (cI, 100, .inl s0_21_number)), (h0_2, .inl (cI, 40, .inl s0_21_term)), (h0_3, .inl (cI, 180, .inl s0_21_store)), (h0_4, .inl (cI, 9, .inl s0_21_query)), (h0_5, .inl (cI, 16, .inl s0_21_bound)), (h0_6, .inl (cI, 2000, .inl s0_21_work)), (h0_7, .inl (cI, 2000, .inl s0_21_answers))]) (hS : va_S A s.heap H locs) (ls : Array Slot) (hl : lv_has ls 9 [(0, .ref h0), (1, .int v1), (2, .int v2_7), (3, .int v3_8), (4, .int v4_19), (5, .int v5_10), (6, .int v6_15), (7, .int v7_20)]), W p l e rm_X8_joined s m ([.ref h0, .int v1] : List Value).toArray below meth c H locs 0 0 (MQ below (Q_X8_joined dC dI cI h0 h0_1 h0_2 h0_3 h0_4 h0_5 h0_6 h0_7 (s0_terms, s0_number, s0_term, s0_triples, s0_store, s0_patterns, s0_query, s0_bound, s0_found, s0_work, s0_kept, s0_keptVariables, s0_answers, s0_thrown) A post) (([.ref h0, .int v1] : List Value).toArray) s 0 0 A) (F0 m 103 ls []) := by
                    intro n_18
                    induction n_18 using Nat.strongRecOn with
                    | ind n_18 ih_18 =>
                      intro v4_19 v7_20 s0_21_terms s0_21_number s0_21_term s0_21_triples s0_21_store s0_21_patterns s0_21_query s0_21_bound s0_21_found s0_21_work s0_21_kept s0_21_keptVariables s0_21_answers s0_21_thrown h H locs hP hD hS ls hl
                      have h := hI_18 n_18 _ h
                      have lab_142 : ∀ (s0_22_terms : Int32) (s0_22_number : Nat → Int32) (s0_22_term : Nat → Int32) (s0_22_triples : Int32) (s0_22_store : Nat → Int32) (s0_22_patterns : Int32) (s0_22_query : Nat → Int32) (s0_22_bound : Nat → Int32) (s0_22_found : Int32) (s0_22_work : Nat → Int32) (s0_22_kept : Int32) (s0_22_keptVariables : Int32) (s0_22_answers : Nat → Int32) (s0_22_thrown : Int32) (v4_23 : Int32) (v7_24 : Int32) (x0_25 : Int32) (h : P_X8_joined_j142 (s0_22_terms, s0_22_number, s0_22_term, s0_22_triples, s0_22_store, s0_22_patterns, s0_22_query, s0_22_bound, s0_22_found, s0_22_work, s0_22_kept, s0_22_keptVariables, s0_22_answers, s0_22_thrown) v1 v2_7 v3_8 v4_23 v5_10 v6_15 v7_24 x0_25 (fun w => ∃ k, k < n_6 ∧ I_6 k w) (fun w => ∃ k, k < n_18 ∧ I_18 k w) post) (H : Heap) (locs : List Loc) (hP : va_P (dC, dI) vwCl [(h0, .inr (8, [.int s0_22_terms, .ref h0_1, .ref h0_2, .int s0_22_triples, .ref h0_3, .int s0_22_patterns, .ref h0_4, .ref h0_5, .int s0_22_found, .ref h0_6, .int s0_22_kept, .int s0_22_keptVariables, .ref h0_7, .int s0_22_thrown])), (h0_1, .inl (cI, 100, .inl s0_22_number)), (h0_2, .inl (cI, 40, .inl s0_22_term)), (h0_3, .inl (cI, 180, .inl s0_22_store)), (h0_4, .inl (cI, 9, .inl s0_22_query)), (h0_5, .inl (cI, 16, .inl s0_22_bound)), (h0_6, .inl (cI, 2000, .inl s0_22_work)), (h0_7, .inl (cI, 2000, .inl s0_22_answers))] H) (hD : va_D A [(h0, .inr (8, [.int s0_22_terms, .ref h0_1, .ref h0_2, .int s0_22_triples, .ref h0_3, .int s0_22_patterns, .ref h0_4, .ref h0_5, .int s0_22_found, .ref h0_6, .int s0_22_kept, .int s0_22_keptVariables, .ref h0_7, .int s0_22_thrown])), (h0_1, .inl (cI, 100, .inl s0_22_number)), (h0_2, .inl (cI, 40, .inl s0_22_term)), (h0_3, .inl (cI, 180, .inl s0_22_store)), (h0_4, .inl (cI, 9, .inl s0_22_query)), (h0_5, .inl (cI, 16, .inl s0_22_bound)), (h0_6, .inl (cI, 2000, .inl s0_22_work)), (h0_7, .inl (cI, 2000, .inl s0_22_answers))]) (hS : va_S A s.heap H locs) (ls : Array Slot) (hl : lv_has ls 9 [(0, .ref h0), (1, .int v1), (2, .int v2_7), (3, .int v3_8), (4, .int v4_23), (5, .int v5_10), (6, .int v6_15), (7, .int v7_24)]), W p l e rm_X8_joined s m ([.ref h0, .int v1] : List Value).toArray below meth c H locs 0 0 (MQ below (Q_X8_joined dC dI cI h0 h0_1 h0_2 h0_3 h0_4 h0_5 h0_6 h0_7 (s0_terms, s0_number, s0_term, s0_triples, s0_store, s0_patterns, s0_query, s0_bound, s0_found, s0_work, s0_kept, s0_keptVariables, s0_answers, s0_thrown) A post) (([.ref h0, .int v1] : List Value).toArray) s 0 0 A) (F0 m 142 ls [.int x0_25]) := by
                        intro s0_22_terms s0_22_number s0_22_term s0_22_triples s0_22_store s0_22_patterns s0_22_query s0_22_bound s0_22_found s0_22_work s0_22_kept s0_22_keptVariables s0_22_answers s0_22_thrown v4_23 v7_24 x0_25 h H locs hP hD hS ls hl
                        refine lv_istore (lv' := [(8, .int x0_25), (0, .ref h0), (1, .int v1), (2, .int v2_7), (3, .int v3_8), (4, .int v4_23), (5, .int v5_10), (6, .int v6_15), (7, .int v7_24)]) hx hb dX8_joined_142 hl (by decide) rfl (fun ls hl => ?_)
                        refine lv_iload hx hb dX8_joined_144 (lv_at hl 0 rfl) ?_
                        obtain ⟨ht_, hf_⟩ := h
                        refine lv_if_eq (tgt := 174) hx hb dX8_joined_146 (by decide) (fun c_26 => ?_) (fun c_26 => ?_)
                        · have h := ht_ c_26
                          refine lv_iload hx hb dX8_joined_174 (lv_at hl 5 rfl) ?_
                          refine lv_istore (lv' := [(4, .int v4_23), (8, .int x0_25), (0, .ref h0), (1, .int v1), (2, .int v2_7), (3, .int v3_8), (5, .int v5_10), (6, .int v6_15), (7, .int v7_24)]) hx hb dX8_joined_176 hl (by decide) rfl (fun ls hl => ?_)
                          refine lv_iinc (v := (v7_24 + (1 : Int32))) (lv' := [(7, .int (v7_24 + (1 : Int32))), (4, .int v4_23), (8, .int x0_25), (0, .ref h0), (1, .int v1), (2, .int v2_7), (3, .int v3_8), (5, .int v5_10), (6, .int v6_15)]) hx hb dX8_joined_178 hl (k := 8) rfl rfl (by decide) rfl (fun ls hl => ?_)
                          refine lv_goto (tgt := 103) hx hb dX8_joined_181 (by decide) ?_
                          have hl : lv_has ls 9 [(0, .ref h0), (1, .int v1), (2, .int v2_7), (3, .int v3_8), (4, .int v4_23), (5, .int v5_10), (6, .int v6_15), (7, .int (v7_24 + (1 : Int32)))] := lv_sub hl [3, 4, 5, 6, 1, 7, 8, 0] rfl
                          obtain ⟨k_27, hk_28, h⟩ := h
                          exact ih_18 k_27 hk_28 v4_23 (v7_24 + (1 : Int32)) s0_22_terms s0_22_number s0_22_term s0_22_triples s0_22_store s0_22_patterns s0_22_query s0_22_bound s0_22_found s0_22_work s0_22_kept s0_22_keptVariables s0_22_answers s0_22_thrown h _ _ hP hD hS _ hl
                        · have h := hf_ c_26
                          refine lv_iload hx hb dX8_joined_149 (lv_at hl 5 rfl) ?_
                          obtain ⟨ht_, hf_⟩ := h
                          refine lv_if_lt (tgt := 169) hx hb dX8_joined_151 (by decide) (fun c_29 => ?_) (fun c_29 => ?_)
                          · have h := ht_ c_29
                            refine lv_iload hx hb dX8_joined_169 (lv_at hl 8 rfl) ?_
                            refine lv_goto (tgt := 176) hx hb dX8_joined_171 (by decide) ?_
                            refine lv_istore (lv' := [(4, .int v7_24), (8, .int x0_25), (0, .ref h0), (1, .int v1), (2, .int v2_7), (3, .int v3_8), (5, .int v5_10), (6, .int v6_15), (7, .int v7_24)]) hx hb dX8_joined_176 hl (by decide) rfl (fun ls hl => ?_)
                            refine lv_iinc (v := (v7_24 + (1 : Int32))) (lv' := [(7, .int (v7_24 + (1 : Int32))), (4, .int v7_24), (8, .int x0_25), (0, .ref h0), (1, .int v1), (2, .int v2_7), (3, .int v3_8), (5, .int v5_10), (6, .int v6_15)]) hx hb dX8_joined_178 hl (k := 8) rfl rfl (by decide) rfl (fun ls hl => ?_)
                            refine lv_goto (tgt := 103) hx hb dX8_joined_181 (by decide) ?_
                            have hl : lv_has ls 9 [(0, .ref h0), (1, .int v1), (2, .int v2_7), (3, .int v3_8), (4, .int v7_24), (5, .int v5_10), (6, .int v6_15), (7, .int (v7_24 + (1 : Int32)))] := lv_sub hl [3, 4, 5, 6, 1, 7, 8, 0] rfl
                            obtain ⟨k_30, hk_31, h⟩ := h
                            exact ih_18 k_30 hk_31 v7_24 (v7_24 + (1 : Int32)) s0_22_terms s0_22_number s0_22_term s0_22_triples s0_22_store s0_22_patterns s0_22_query s0_22_bound s0_22_found s0_22_work s0_22_kept s0_22_keptVariables s0_22_answers s0_22_thrown h _ _ hP hD hS _ hl
                          · have h := hf_ c_29
                            refine lv_aload_n hx hb dX8_joined_154 rfl (lv_at hl 1 rfl) ?_
                            refine lv_iload hx hb dX8_joined_155 (lv_at hl 8 rfl) ?_
                            have hPc := hP.sub (ws' := [(h0, .inr (8, [.int s0_22_terms, .ref h0_1, .ref h0_2, .int s0_22_triples, .ref h0_3, .int s0_22_patterns, .ref h0_4, .ref h0_5, .int s0_22_found, .ref h0_6, .int s0_22_kept, .int s0_22_keptVariables, .ref h0_7, .int s0_22_thrown])), (h0_1, .inl (cI, 100, .inl s0_22_number)), (h0_2, .inl (cI, 40, .inl s0_22_term)), (h0_3, .inl (cI, 180, .inl s0_22_store)), (h0_4, .inl (cI, 9, .inl s0_22_query)), (h0_5, .inl (cI, 16, .inl s0_22_bound)), (h0_6, .inl (cI, 2000, .inl s0_22_work)), (h0_7, .inl (cI, 2000, .inl s0_22_answers))]) [0, 1, 2, 3, 4, 5, 6, 7] rfl
                            have hDc := hD.sub (ws' := [(h0, .inr (8, [.int s0_22_terms, .ref h0_1, .ref h0_2, .int s0_22_triples, .ref h0_3, .int s0_22_patterns, .ref h0_4, .ref h0_5, .int s0_22_found, .ref h0_6, .int s0_22_kept, .int s0_22_keptVariables, .ref h0_7, .int s0_22_thrown])), (h0_1, .inl (cI, 100, .inl s0_22_number)), (h0_2, .inl (cI, 40, .inl s0_22_term)), (h0_3, .inl (cI, 180, .inl s0_22_store)), (h0_4, .inl (cI, 9, .inl s0_22_query)), (h0_5, .inl (cI, 16, .inl s0_22_bound)), (h0_6, .inl (cI, 2000, .inl s0_22_work)), (h0_7, .inl (cI, 2000, .inl s0_22_answers))]) [0, 1, 2, 3, 4, 5, 6, 7] (by decide) rfl
                            have hFc := va_free (wc := [(h0, .inr (8, [.int s0_22_terms, .ref h0_1, .ref h0_2, .int s0_22_triples, .ref h0_3, .int s0_22_patterns, .ref h0_4, .ref h0_5, .int s0_22_found, .ref h0_6, .int s0_22_kept, .int s0_22_keptVariables, .ref h0_7, .int s0_22_thrown])), (h0_1, .inl (cI, 100, .inl s0_22_number)), (h0_2, .inl (cI, 40, .inl s0_22_term)), (h0_3, .inl (cI, 180, .inl s0_22_store)), (h0_4, .inl (cI, 9, .inl s0_22_query)), (h0_5, .inl (cI, 16, .inl s0_22_bound)), (h0_6, .inl (cI, 2000, .inl s0_22_work)), (h0_7, .inl (cI, 2000, .inl s0_22_answers))]) hD hS hA [0, 1, 2, 3, 4, 5, 6, 7] rfl
                            refine va_calli (va_runV (As := [.int v7_24]) (rest := []) ⟨hx, hb, hml, hown, hts⟩ (c_X8_matching l dC dI cI h0 h0_1 h0_2 h0_3 h0_4 h0_5 h0_6 h0_7 _ (s0_22_terms, s0_22_number, s0_22_term, s0_22_triples, s0_22_store, s0_22_patterns, s0_22_query, s0_22_bound, s0_22_found, s0_22_work, s0_22_kept, s0_22_keptVariables, s0_22_answers, s0_22_thrown) v7_24 _ h) (cwV 1 hts gX8_joined_X8_matching rfl rfl rfl (by decide +kernel) ⟨Nat.le_of_ble_eq_true rfl, Nat.le_of_ble_eq_true rfl⟩) (pb_V hPc hK hDc hN (ci := 8) (q0 := 0) rfl rfl) rfl rfl hl.1 rfl (lv_room (Nat.le_of_ble_eq_true rfl)) dX8_joined_157 ⟨Nat.zero_le _, Nat.zero_le _⟩) hS (fun q _ h => hFc q h) hFc (fun r_33 u_32 t H locs ht hvm h hB hz1 hk1 hS => ?_)
                            obtain ⟨u_32_terms, u_32_number, u_32_term, u_32_triples, u_32_store, u_32_patterns, u_32_query, u_32_bound, u_32_found, u_32_work, u_32_kept, u_32_keptVariables, u_32_answers, u_32_thrown⟩ := u_32
                            obtain ⟨hP1, hD1⟩ := hB
                            rw [ht] at hP1
                            obtain ⟨hP, hD⟩ := cl_join (wr := []) (w1 := [(h0, .inr (8, [.int u_32_terms, .ref h0_1, .ref h0_2, .int u_32_triples, .ref h0_3, .int u_32_patterns, .ref h0_4, .ref h0_5, .int u_32_found, .ref h0_6, .int u_32_kept, .int u_32_keptVariables, .ref h0_7, .int u_32_thrown])), (h0_1, .inl (cI, 100, .inl u_32_number)), (h0_2, .inl (cI, 40, .inl u_32_term)), (h0_3, .inl (cI, 180, .inl u_32_store)), (h0_4, .inl (cI, 9, .inl u_32_query)), (h0_5, .inl (cI, 16, .inl u_32_bound)), (h0_6, .inl (cI, 2000, .inl u_32_work)), (h0_7, .inl (cI, 2000, .inl u_32_answers))]) (ws' := [(h0, .inr (8, [.int u_32_terms, .ref h0_1, .ref h0_2, .int u_32_triples, .ref h0_3, .int u_32_patterns, .ref h0_4, .ref h0_5, .int u_32_found, .ref h0_6, .int u_32_kept, .int u_32_keptVariables, .ref h0_7, .int u_32_thrown])), (h0_1, .inl (cI, 100, .inl u_32_number)), (h0_2, .inl (cI, 40, .inl u_32_term)), (h0_3, .inl (cI, 180, .inl u_32_store)), (h0_4, .inl (cI, 9, .inl u_32_query)), (h0_5, .inl (cI, 16, .inl u_32_bound)), (h0_6, .inl (cI, 2000, .inl u_32_work)), (h0_7, .inl (cI, 2000, .inl u_32_answers))]) hP hD [0, 1, 2, 3, 4, 5, 6, 7] [] [0, 1, 2, 3, 4, 5, 6, 7] rfl rfl (by decide) (by decide) (by decide) rfl hk1 hFc hP1 hD1
                            refine lv_aload_n hx hb dX8_joined_160 rfl (lv_at hl 1 rfl) ?_
                            refine lv_iload hx hb dX8_joined_161 (lv_at hl 5 rfl) ?_
                            have hPc := hP.sub (ws' := [(h0, .inr (8, [.int u_32_terms, .ref h0_1, .ref h0_2, .int u_32_triples, .ref h0_3, .int u_32_patterns, .ref h0_4, .ref h0_5, .int u_32_found, .ref h0_6, .int u_32_kept, .int u_32_keptVariables, .ref h0_7, .int u_32_thrown])), (h0_1, .inl (cI, 100, .inl u_32_number)), (h0_2, .inl (cI, 40, .inl u_32_term)), (h0_3, .inl (cI, 180, .inl u_32_store)), (h0_4, .inl (cI, 9, .inl u_32_query)), (h0_5, .inl (cI, 16, .inl u_32_bound)), (h0_6, .inl (cI, 2000, .inl u_32_work)), (h0_7, .inl (cI, 2000, .inl u_32_answers))]) [0, 1, 2, 3, 4, 5, 6, 7] rfl
                            have hDc := hD.sub (ws' := [(h0, .inr (8, [.int u_32_terms, .ref h0_1, .ref h0_2, .int u_32_triples, .ref h0_3, .int u_32_patterns, .ref h0_4, .ref h0_5, .int u_32_found, .ref h0_6, .int u_32_kept, .int u_32_keptVariables, .ref h0_7, .int u_32_thrown])), (h0_1, .inl (cI, 100, .inl u_32_number)), (h0_2, .inl (cI, 40, .inl u_32_term)), (h0_3, .inl (cI, 180, .inl u_32_store)), (h0_4, .inl (cI, 9, .inl u_32_query)), (h0_5, .inl (cI, 16, .inl u_32_bound)), (h0_6, .inl (cI, 2000, .inl u_32_work)), (h0_7, .inl (cI, 2000, .inl u_32_answers))]) [0, 1, 2, 3, 4, 5, 6, 7] (by decide) rfl
                            have hFc := va_free (wc := [(h0, .inr (8, [.int u_32_terms, .ref h0_1, .ref h0_2, .int u_32_triples, .ref h0_3, .int u_32_patterns, .ref h0_4, .ref h0_5, .int u_32_found, .ref h0_6, .int u_32_kept, .int u_32_keptVariables, .ref h0_7, .int u_32_thrown])), (h0_1, .inl (cI, 100, .inl u_32_number)), (h0_2, .inl (cI, 40, .inl u_32_term)), (h0_3, .inl (cI, 180, .inl u_32_store)), (h0_4, .inl (cI, 9, .inl u_32_query)), (h0_5, .inl (cI, 16, .inl u_32_bound)), (h0_6, .inl (cI, 2000, .inl u_32_work)), (h0_7, .inl (cI, 2000, .inl u_32_answers))]) hD hS hA [0, 1, 2, 3, 4, 5, 6, 7] rfl
                            refine va_calli (va_runV (As := [.int v4_23]) (rest := [.int r_33]) ⟨hx, hb, hml, hown, hts⟩ (c_X8_matching l dC dI cI h0 h0_1 h0_2 h0_3 h0_4 h0_5 h0_6 h0_7 _ (u_32_terms, u_32_number, u_32_term, u_32_triples, u_32_store, u_32_patterns, u_32_query, u_32_bound, u_32_found, u_32_work, u_32_kept, u_32_keptVariables, u_32_answers, u_32_thrown) v4_23 _ h) (cwV 1 hts gX8_joined_X8_matching rfl rfl rfl (by decide +kernel) ⟨Nat.le_of_ble_eq_true rfl, Nat.le_of_ble_eq_true rfl⟩) (pb_V hPc hK hDc hN (ci := 8) (q0 := 0) rfl rfl) rfl rfl hl.1 rfl (lv_room (Nat.le_of_ble_eq_true rfl)) dX8_joined_163 ⟨Nat.zero_le _, Nat.zero_le _⟩) hS (fun q _ h => hFc q h) hFc (fun r_35 u_34 t H locs ht hvm h hB hz1 hk1 hS => ?_)
                            obtain ⟨u_34_terms, u_34_number, u_34_term, u_34_triples, u_34_store, u_34_patterns, u_34_query, u_34_bound, u_34_found, u_34_work, u_34_kept, u_34_keptVariables, u_34_answers, u_34_thrown⟩ := u_34
                            obtain ⟨hP1, hD1⟩ := hB
                            rw [ht] at hP1
                            obtain ⟨hP, hD⟩ := cl_join (wr := []) (w1 := [(h0, .inr (8, [.int u_34_terms, .ref h0_1, .ref h0_2, .int u_34_triples, .ref h0_3, .int u_34_patterns, .ref h0_4, .ref h0_5, .int u_34_found, .ref h0_6, .int u_34_kept, .int u_34_keptVariables, .ref h0_7, .int u_34_thrown])), (h0_1, .inl (cI, 100, .inl u_34_number)), (h0_2, .inl (cI, 40, .inl u_34_term)), (h0_3, .inl (cI, 180, .inl u_34_store)), (h0_4, .inl (cI, 9, .inl u_34_query)), (h0_5, .inl (cI, 16, .inl u_34_bound)), (h0_6, .inl (cI, 2000, .inl u_34_work)), (h0_7, .inl (cI, 2000, .inl u_34_answers))]) (ws' := [(h0, .inr (8, [.int u_34_terms, .ref h0_1, .ref h0_2, .int u_34_triples, .ref h0_3, .int u_34_patterns, .ref h0_4, .ref h0_5, .int u_34_found, .ref h0_6, .int u_34_kept, .int u_34_keptVariables, .ref h0_7, .int u_34_thrown])), (h0_1, .inl (cI, 100, .inl u_34_number)), (h0_2, .inl (cI, 40, .inl u_34_term)), (h0_3, .inl (cI, 180, .inl u_34_store)), (h0_4, .inl (cI, 9, .inl u_34_query)), (h0_5, .inl (cI, 16, .inl u_34_bound)), (h0_6, .inl (cI, 2000, .inl u_34_work)), (h0_7, .inl (cI, 2000, .inl u_34_answers))]) hP hD [0, 1, 2, 3, 4, 5, 6, 7] [] [0, 1, 2, 3, 4, 5, 6, 7] rfl rfl (by decide) (by decide) (by decide) rfl hk1 hFc hP1 hD1
                            obtain ⟨ht_, hf_⟩ := h
                            refine lv_icmp_ge (tgt := 174) hx hb dX8_joined_166 (by decide) (fun c_36 => ?_) (fun c_36 => ?_)
                            · have h := ht_ c_36
                              refine lv_iload hx hb dX8_joined_174 (lv_at hl 5 rfl) ?_
                              refine lv_istore (lv' := [(4, .int v4_23), (8, .int x0_25), (0, .ref h0), (1, .int v1), (2, .int v2_7), (3, .int v3_8), (5, .int v5_10), (6, .int v6_15), (7, .int v7_24)]) hx hb dX8_joined_176 hl (by decide) rfl (fun ls hl => ?_)
                              refine lv_iinc (v := (v7_24 + (1 : Int32))) (lv' := [(7, .int (v7_24 + (1 : Int32))), (4, .int v4_23), (8, .int x0_25), (0, .ref h0), (1, .int v1), (2, .int v2_7), (3, .int v3_8), (5, .int v5_10), (6, .int v6_15)]) hx hb dX8_joined_178 hl (k := 8) rfl rfl (by decide) rfl (fun ls hl => ?_)
                              refine lv_goto (tgt := 103) hx hb dX8_joined_181 (by decide) ?_
                              have hl : lv_has ls 9 [(0, .ref h0), (1, .int v1), (2, .int v2_7), (3, .int v3_8), (4, .int v4_23), (5, .int v5_10), (6, .int v6_15), (7, .int (v7_24 + (1 : Int32)))] := lv_sub hl [3, 4, 5, 6, 1, 7, 8, 0] rfl
                              obtain ⟨k_37, hk_38, h⟩ := h
                              exact ih_18 k_37 hk_38 v4_23 (v7_24 + (1 : Int32)) u_34_terms u_34_number u_34_term u_34_triples u_34_store u_34_patterns u_34_query u_34_bound u_34_found u_34_work u_34_kept u_34_keptVariables u_34_answers u_34_thrown h _ _ hP hD hS _ hl
                            · have h := hf_ c_36
                              refine lv_iload hx hb dX8_joined_169 (lv_at hl 8 rfl) ?_
                              refine lv_goto (tgt := 176) hx hb dX8_joined_171 (by decide) ?_
                              refine lv_istore (lv' := [(4, .int v7_24), (8, .int x0_25), (0, .ref h0), (1, .int v1), (2, .int v2_7), (3, .int v3_8), (5, .int v5_10), (6, .int v6_15), (7, .int v7_24)]) hx hb dX8_joined_176 hl (by decide) rfl (fun ls hl => ?_)
                              refine lv_iinc (v := (v7_24 + (1 : Int32))) (lv' := [(7, .int (v7_24 + (1 : Int32))), (4, .int v7_24), (8, .int x0_25), (0, .ref h0), (1, .int v1), (2, .int v2_7), (3, .int v3_8), (5, .int v5_10), (6, .int v6_15)]) hx hb dX8_joined_178 hl (k := 8) rfl rfl (by decide) rfl (fun ls hl => ?_)
                              refine lv_goto (tgt := 103) hx hb dX8_joined_181 (by decide) ?_
                              have hl : lv_has ls 9 [(0, .ref h0), (1, .int v1), (2, .int v2_7), (3, .int v3_8), (4, .int v7_24), (5, .int v5_10), (6, .int v6_15), (7, .int (v7_24 + (1 : Int32)))] := lv_sub hl [3, 4, 5, 6, 1, 7, 8, 0] rfl
                              obtain ⟨k_39, hk_40, h⟩ := h
                              exact ih_18 k_39 hk_40 v7_24 (v7_24 + (1 : Int32)) u_34_terms u_34_number u_34_term u_34_triples u_34_store u_34_patterns u_34_query u_34_bound u_34_found u_34_work u_34_kept u_34_keptVariables u_34_answers u_34_thrown h _ _ hP hD hS _ hl
                      have lab_141 : ∀ (s0_41_terms : Int32) (s0_41_number : Nat → Int32) (s0_41_term : Nat → Int32) (s0_41_triples : Int32) (s0_41_store : Nat → Int32) (s0_41_patterns : Int32) (s0_41_query : Nat → Int32) (s0_41_bound : Nat → Int32) (s0_41_found : Int32) (s0_41_work : Nat → Int32) (s0_41_kept : Int32) (s0_41_keptVariables : Int32) (s0_41_answers : Nat → Int32) (s0_41_thrown : Int32) (v4_42 : Int32) (v7_43 : Int32) (h : P_X8_joined_j141 (s0_41_terms, s0_41_number, s0_41_term, s0_41_triples, s0_41_store, s0_41_patterns, s0_41_query, s0_41_bound, s0_41_found, s0_41_work, s0_41_kept, s0_41_keptVariables, s0_41_answers, s0_41_thrown) v1 v2_7 v3_8 v4_42 v5_10 v6_15 v7_43 (fun w => ∃ k, k < n_6 ∧ I_6 k w) (fun w => ∃ k, k < n_18 ∧ I_18 k w) post) (H : Heap) (locs : List Loc) (hP : va_P (dC, dI) vwCl [(h0, .inr (8, [.int s0_41_terms, .ref h0_1, .ref h0_2, .int s0_41_triples, .ref h0_3, .int s0_41_patterns, .ref h0_4, .ref h0_5, .int s0_41_found, .ref h0_6, .int s0_41_kept, .int s0_41_keptVariables, .ref h0_7, .int s0_41_thrown])), (h0_1, .inl (cI, 100, .inl s0_41_number)), (h0_2, .inl (cI, 40, .inl s0_41_term)), (h0_3, .inl (cI, 180, .inl s0_41_store)), (h0_4, .inl (cI, 9, .inl s0_41_query)), (h0_5, .inl (cI, 16, .inl s0_41_bound)), (h0_6, .inl (cI, 2000, .inl s0_41_work)), (h0_7, .inl (cI, 2000, .inl s0_41_answers))] H) (hD : va_D A [(h0, .inr (8, [.int s0_41_terms, .ref h0_1, .ref h0_2, .int s0_41_triples, .ref h0_3, .int s0_41_patterns, .ref h0_4, .ref h0_5, .int s0_41_found, .ref h0_6, .int s0_41_kept, .int s0_41_keptVariables, .ref h0_7, .int s0_41_thrown])), (h0_1, .inl (cI, 100, .inl s0_41_number)), (h0_2, .inl (cI, 40, .inl s0_41_term)), (h0_3, .inl (cI, 180, .inl s0_41_store)), (h0_4, .inl (cI, 9, .inl s0_41_query)), (h0_5, .inl (cI, 16, .inl s0_41_bound)), (h0_6, .inl (cI, 2000, .inl s0_41_work)), (h0_7, .inl (cI, 2000, .inl s0_41_answers))]) (hS : va_S A s.heap H locs) (ls : Array Slot) (hl : lv_has ls 9 [(0, .ref h0), (1, .int v1), (2, .int v2_7), (3, .int v3_8), (4, .int v4_42), (5, .int v5_10), (6, .int v6_15), (7, .int v7_43)]), W p l e rm_X8_joined s m ([.ref h0, .int v1] : List Value).toArray below meth c H locs 0 0 (MQ below (Q_X8_joined dC dI cI h0 h0_1 h0_2 h0_3 h0_4 h0_5 h0_6 h0_7 (s0_terms, s0_number, s0_term, s0_triples, s0_store, s0_patterns, s0_query, s0_bound, s0_found, s0_work, s0_kept, s0_keptVariables, s0_answers, s0_thrown) A post) (([.ref h0, .int v1] : List Value).toArray) s 0 0 A) (F0 m 141 ls []) := by
                        intro s0_41_terms s0_41_number s0_41_term s0_41_triples s0_41_store s0_41_patterns s0_41_query s0_41_bound s0_41_found s0_41_work s0_41_kept s0_41_keptVariables s0_41_answers s0_41_thrown v4_42 v7_43 h H locs hP hD hS ls hl
                        refine lv_iconst (v := (0 : Int32)) hx hb dX8_joined_141 (by decide) ?_
                        exact lab_142 s0_41_terms s0_41_number s0_41_term s0_41_triples s0_41_store s0_41_patterns s0_41_query s0_41_bound s0_41_found s0_41_work s0_41_kept s0_41_keptVariables s0_41_answers s0_41_thrown v4_42 v7_43 (0 : Int32) h _ _ hP hD hS _ hl
                      have lab_137 : ∀ (s0_44_terms : Int32) (s0_44_number : Nat → Int32) (s0_44_term : Nat → Int32) (s0_44_triples : Int32) (s0_44_store : Nat → Int32) (s0_44_patterns : Int32) (s0_44_query : Nat → Int32) (s0_44_bound : Nat → Int32) (s0_44_found : Int32) (s0_44_work : Nat → Int32) (s0_44_kept : Int32) (s0_44_keptVariables : Int32) (s0_44_answers : Nat → Int32) (s0_44_thrown : Int32) (v4_45 : Int32) (v7_46 : Int32) (h : P_X8_joined_j137 (s0_44_terms, s0_44_number, s0_44_term, s0_44_triples, s0_44_store, s0_44_patterns, s0_44_query, s0_44_bound, s0_44_found, s0_44_work, s0_44_kept, s0_44_keptVariables, s0_44_answers, s0_44_thrown) v1 v2_7 v3_8 v4_45 v5_10 v6_15 v7_46 (fun w => ∃ k, k < n_6 ∧ I_6 k w) (fun w => ∃ k, k < n_18 ∧ I_18 k w) post) (H : Heap) (locs : List Loc) (hP : va_P (dC, dI) vwCl [(h0, .inr (8, [.int s0_44_terms, .ref h0_1, .ref h0_2, .int s0_44_triples, .ref h0_3, .int s0_44_patterns, .ref h0_4, .ref h0_5, .int s0_44_found, .ref h0_6, .int s0_44_kept, .int s0_44_keptVariables, .ref h0_7, .int s0_44_thrown])), (h0_1, .inl (cI, 100, .inl s0_44_number)), (h0_2, .inl (cI, 40, .inl s0_44_term)), (h0_3, .inl (cI, 180, .inl s0_44_store)), (h0_4, .inl (cI, 9, .inl s0_44_query)), (h0_5, .inl (cI, 16, .inl s0_44_bound)), (h0_6, .inl (cI, 2000, .inl s0_44_work)), (h0_7, .inl (cI, 2000, .inl s0_44_answers))] H) (hD : va_D A [(h0, .inr (8, [.int s0_44_terms, .ref h0_1, .ref h0_2, .int s0_44_triples, .ref h0_3, .int s0_44_patterns, .ref h0_4, .ref h0_5, .int s0_44_found, .ref h0_6, .int s0_44_kept, .int s0_44_keptVariables, .ref h0_7, .int s0_44_thrown])), (h0_1, .inl (cI, 100, .inl s0_44_number)), (h0_2, .inl (cI, 40, .inl s0_44_term)), (h0_3, .inl (cI, 180, .inl s0_44_store)), (h0_4, .inl (cI, 9, .inl s0_44_query)), (h0_5, .inl (cI, 16, .inl s0_44_bound)), (h0_6, .inl (cI, 2000, .inl s0_44_work)), (h0_7, .inl (cI, 2000, .inl s0_44_answers))]) (hS : va_S A s.heap H locs) (ls : Array Slot) (hl : lv_has ls 9 [(0, .ref h0), (1, .int v1), (2, .int v2_7), (3, .int v3_8), (4, .int v4_45), (5, .int v5_10), (6, .int v6_15), (7, .int v7_46)]), W p l e rm_X8_joined s m ([.ref h0, .int v1] : List Value).toArray below meth c H locs 0 0 (MQ below (Q_X8_joined dC dI cI h0 h0_1 h0_2 h0_3 h0_4 h0_5 h0_6 h0_7 (s0_terms, s0_number, s0_term, s0_triples, s0_store, s0_patterns, s0_query, s0_bound, s0_found, s0_work, s0_kept, s0_keptVariables, s0_answers, s0_thrown) A post) (([.ref h0, .int v1] : List Value).toArray) s 0 0 A) (F0 m 137 ls []) := by
                        intro s0_44_terms s0_44_number s0_44_term s0_44_triples s0_44_store s0_44_patterns s0_44_query s0_44_bound s0_44_found s0_44_work s0_44_kept s0_44_keptVariables s0_44_answers s0_44_thrown v4_45 v7_46 h H locs hP hD hS ls hl
                        refine lv_iconst (v := (1 : Int32)) hx hb dX8_joined_137 (by decide) ?_
                        refine lv_goto (tgt := 142) hx hb dX8_joined_138 (by decide) ?_
                        exact lab_142 s0_44_terms s0_44_number s0_44_term s0_44_triples s0_44_store s0_44_patterns s0_44_query s0_44_bound s0_44_found s0_44_work s0_44_kept s0_44_keptVariables s0_44_answers s0_44_thrown v4_45 v7_46 (1 : Int32) h _ _ hP hD hS _ hl
                      refine lv_iload hx hb dX8_joined_103 (lv_at hl 7 rfl) ?_
                      refine lv_aload_n hx hb dX8_joined_105 rfl (lv_at hl 0 rfl) ?_
                      refine va_get (D := (dC, dI)) (ci := 8) (v := .int s0_21_patterns) (C := RX8) (T := TX8) (N := 14) hx hb hts (hinX8) hown hK hP 0 rfl rfl 5 (by decide) (hts (.fieldLink RX8 67 "TripleJoinsModel" "patterns" "I") (by decide +kernel)) (fun _ h9 => h9) rfl dX8_joined_106 ?_
                      obtain ⟨ht_, hf_⟩ := h
                      refine lv_icmp_ge (tgt := 184) hx hb dX8_joined_109 (by decide) (fun c_47 => ?_) (fun c_47 => ?_)
                      · have h := ht_ c_47
                        refine lv_iload_n hx hb dX8_joined_184 rfl (lv_at hl 2 rfl) ?_
                        refine lv_iconst (v := (1 : Int32)) hx hb dX8_joined_185 (by decide) ?_
                        refine lv_iload hx hb dX8_joined_186 (lv_at hl 4 rfl) ?_
                        refine lv_ishl hx hb dX8_joined_188 ?_
                        refine lv_ior hx hb dX8_joined_189 ?_
                        refine lv_istore_n (lv' := [(2, .int (v2_7 ||| ((1 : Int32) <<< (v4_19 &&& 31)))), (0, .ref h0), (1, .int v1), (3, .int v3_8), (4, .int v4_19), (5, .int v5_10), (6, .int v6_15), (7, .int v7_20)]) hx hb dX8_joined_190 rfl hl (by decide) rfl (fun ls hl => ?_)
                        refine lv_iload_n hx hb dX8_joined_191 rfl (lv_at hl 3 rfl) ?_
                        refine lv_aload_n hx hb dX8_joined_192 rfl (lv_at hl 1 rfl) ?_
                        refine lv_iload hx hb dX8_joined_193 (lv_at hl 4 rfl) ?_
                        have hPc := hP.sub (ws' := [(h0, .inr (8, [.int s0_21_terms, .ref h0_1, .ref h0_2, .int s0_21_triples, .ref h0_3, .int s0_21_patterns, .ref h0_4, .ref h0_5, .int s0_21_found, .ref h0_6, .int s0_21_kept, .int s0_21_keptVariables, .ref h0_7, .int s0_21_thrown])), (h0_1, .inl (cI, 100, .inl s0_21_number)), (h0_2, .inl (cI, 40, .inl s0_21_term)), (h0_3, .inl (cI, 180, .inl s0_21_store)), (h0_4, .inl (cI, 9, .inl s0_21_query)), (h0_5, .inl (cI, 16, .inl s0_21_bound)), (h0_6, .inl (cI, 2000, .inl s0_21_work)), (h0_7, .inl (cI, 2000, .inl s0_21_answers))]) [0, 1, 2, 3, 4, 5, 6, 7] rfl
                        have hDc := hD.sub (ws' := [(h0, .inr (8, [.int s0_21_terms, .ref h0_1, .ref h0_2, .int s0_21_triples, .ref h0_3, .int s0_21_patterns, .ref h0_4, .ref h0_5, .int s0_21_found, .ref h0_6, .int s0_21_kept, .int s0_21_keptVariables, .ref h0_7, .int s0_21_thrown])), (h0_1, .inl (cI, 100, .inl s0_21_number)), (h0_2, .inl (cI, 40, .inl s0_21_term)), (h0_3, .inl (cI, 180, .inl s0_21_store)), (h0_4, .inl (cI, 9, .inl s0_21_query)), (h0_5, .inl (cI, 16, .inl s0_21_bound)), (h0_6, .inl (cI, 2000, .inl s0_21_work)), (h0_7, .inl (cI, 2000, .inl s0_21_answers))]) [0, 1, 2, 3, 4, 5, 6, 7] (by decide) rfl
                        have hFc := fr0 hA hS
                        refine va_calli (va_runV (As := [.int v4_19]) (rest := [.int v3_8]) ⟨hx, hb, hml, hown, hts⟩ (c_X8_variablesOf l dC dI cI h0 h0_1 h0_2 h0_3 h0_4 h0_5 h0_6 h0_7 _ (s0_21_terms, s0_21_number, s0_21_term, s0_21_triples, s0_21_store, s0_21_patterns, s0_21_query, s0_21_bound, s0_21_found, s0_21_work, s0_21_kept, s0_21_keptVariables, s0_21_answers, s0_21_thrown) v4_19 _ h) (cwV 1 hts gX8_joined_X8_variablesOf rfl rfl rfl (by decide +kernel) ⟨Nat.le_of_ble_eq_true rfl, Nat.le_of_ble_eq_true rfl⟩) (pb_V hPc hK hDc hN (ci := 8) (q0 := 0) rfl rfl) rfl rfl hl.1 rfl (lv_room (Nat.le_of_ble_eq_true rfl)) dX8_joined_195 ⟨Nat.zero_le _, Nat.zero_le _⟩) hS (fun q _ h => hFc q h) hFc (fun r_49 u_48 t H locs ht hvm h hB hz1 hk1 hS => ?_)
                        have hP := vaPk hP hk1
                        refine lv_ior hx hb dX8_joined_198 ?_
                        refine lv_istore_n (lv' := [(3, .int (v3_8 ||| r_49)), (2, .int (v2_7 ||| ((1 : Int32) <<< (v4_19 &&& 31)))), (0, .ref h0), (1, .int v1), (4, .int v4_19), (5, .int v5_10), (6, .int v6_15), (7, .int v7_20)]) hx hb dX8_joined_199 rfl hl (by decide) rfl (fun ls hl => ?_)
                        refine lv_iinc (v := (v5_10 + (1 : Int32))) (lv' := [(5, .int (v5_10 + (1 : Int32))), (3, .int (v3_8 ||| r_49)), (2, .int (v2_7 ||| ((1 : Int32) <<< (v4_19 &&& 31)))), (0, .ref h0), (1, .int v1), (4, .int v4_19), (6, .int v6_15), (7, .int v7_20)]) hx hb dX8_joined_200 hl (k := 5) rfl rfl (by decide) rfl (fun ls hl => ?_)
                        refine lv_goto (tgt := 33) hx hb dX8_joined_203 (by decide) ?_
                        have hl : lv_has ls 9 [(0, .ref h0), (1, .int v1), (2, .int (v2_7 ||| ((1 : Int32) <<< (v4_19 &&& 31)))), (3, .int (v3_8 ||| r_49)), (4, .int v4_19), (5, .int (v5_10 + (1 : Int32)))] := lv_sub hl [3, 4, 2, 1, 5, 0] rfl
                        obtain ⟨k_50, hk_51, h⟩ := h
                        exact ih_6 k_50 hk_51 (v2_7 ||| ((1 : Int32) <<< (v4_19 &&& 31))) (v3_8 ||| r_49) v4_19 (v5_10 + (1 : Int32)) s0_21_terms s0_21_number s0_21_term s0_21_triples s0_21_store s0_21_patterns s0_21_query s0_21_bound s0_21_found s0_21_work s0_21_kept s0_21_keptVariables s0_21_answers s0_21_thrown h _ _ hP hD hS _ hl
                      · have h := hf_ c_47
                        refine lv_iload_n hx hb dX8_joined_112 rfl (lv_at hl 2 rfl) ?_
                        refine lv_iload hx hb dX8_joined_113 (lv_at hl 7 rfl) ?_
                        refine lv_ishr hx hb dX8_joined_115 ?_
                        refine lv_iconst (v := (1 : Int32)) hx hb dX8_joined_116 (by decide) ?_
                        refine lv_iand hx hb dX8_joined_117 ?_
                        obtain ⟨ht_, hf_⟩ := h
                        refine lv_if_ne (tgt := 141) hx hb dX8_joined_118 (by decide) (fun c_52 => ?_) (fun c_52 => ?_)
                        · have h := ht_ c_52
                          exact lab_141 s0_21_terms s0_21_number s0_21_term s0_21_triples s0_21_store s0_21_patterns s0_21_query s0_21_bound s0_21_found s0_21_work s0_21_kept s0_21_keptVariables s0_21_answers s0_21_thrown v4_19 v7_20 h _ _ hP hD hS _ hl
                        · have h := hf_ c_52
                          refine lv_iload hx hb dX8_joined_121 (lv_at hl 6 rfl) ?_
                          obtain ⟨ht_, hf_⟩ := h
                          refine lv_if_eq (tgt := 137) hx hb dX8_joined_123 (by decide) (fun c_53 => ?_) (fun c_53 => ?_)
                          · have h := ht_ c_53
                            exact lab_137 s0_21_terms s0_21_number s0_21_term s0_21_triples s0_21_store s0_21_patterns s0_21_query s0_21_bound s0_21_found s0_21_work s0_21_kept s0_21_keptVariables s0_21_answers s0_21_thrown v4_19 v7_20 h _ _ hP hD hS _ hl
                          · have h := hf_ c_53
                            refine lv_aload_n hx hb dX8_joined_126 rfl (lv_at hl 0 rfl) ?_
                            refine lv_iload hx hb dX8_joined_127 (lv_at hl 7 rfl) ?_
                            have hPc := hP.sub (ws' := [(h0, .inr (8, [.int s0_21_terms, .ref h0_1, .ref h0_2, .int s0_21_triples, .ref h0_3, .int s0_21_patterns, .ref h0_4, .ref h0_5, .int s0_21_found, .ref h0_6, .int s0_21_kept, .int s0_21_keptVariables, .ref h0_7, .int s0_21_thrown])), (h0_1, .inl (cI, 100, .inl s0_21_number)), (h0_2, .inl (cI, 40, .inl s0_21_term)), (h0_3, .inl (cI, 180, .inl s0_21_store)), (h0_4, .inl (cI, 9, .inl s0_21_query)), (h0_5, .inl (cI, 16, .inl s0_21_bound)), (h0_6, .inl (cI, 2000, .inl s0_21_work)), (h0_7, .inl (cI, 2000, .inl s0_21_answers))]) [0, 1, 2, 3, 4, 5, 6, 7] rfl
                            have hDc := hD.sub (ws' := [(h0, .inr (8, [.int s0_21_terms, .ref h0_1, .ref h0_2, .int s0_21_triples, .ref h0_3, .int s0_21_patterns, .ref h0_4, .ref h0_5, .int s0_21_found, .ref h0_6, .int s0_21_kept, .int s0_21_keptVariables, .ref h0_7, .int s0_21_thrown])), (h0_1, .inl (cI, 100, .inl s0_21_number)), (h0_2, .inl (cI, 40, .inl s0_21_term)), (h0_3, .inl (cI, 180, .inl s0_21_store)), (h0_4, .inl (cI, 9, .inl s0_21_query)), (h0_5, .inl (cI, 16, .inl s0_21_bound)), (h0_6, .inl (cI, 2000, .inl s0_21_work)), (h0_7, .inl (cI, 2000, .inl s0_21_answers))]) [0, 1, 2, 3, 4, 5, 6, 7] (by decide) rfl
                            have hFc := fr0 hA hS
                            refine va_calli (va_runV (As := [.int v7_20]) (rest := []) ⟨hx, hb, hml, hown, hts⟩ (c_X8_variablesOf l dC dI cI h0 h0_1 h0_2 h0_3 h0_4 h0_5 h0_6 h0_7 _ (s0_21_terms, s0_21_number, s0_21_term, s0_21_triples, s0_21_store, s0_21_patterns, s0_21_query, s0_21_bound, s0_21_found, s0_21_work, s0_21_kept, s0_21_keptVariables, s0_21_answers, s0_21_thrown) v7_20 _ h) (cwV 1 hts gX8_joined_X8_variablesOf rfl rfl rfl (by decide +kernel) ⟨Nat.le_of_ble_eq_true rfl, Nat.le_of_ble_eq_true rfl⟩) (pb_V hPc hK hDc hN (ci := 8) (q0 := 0) rfl rfl) rfl rfl hl.1 rfl (lv_room (Nat.le_of_ble_eq_true rfl)) dX8_joined_129 ⟨Nat.zero_le _, Nat.zero_le _⟩) hS (fun q _ h => hFc q h) hFc (fun r_55 u_54 t H locs ht hvm h hB hz1 hk1 hS => ?_)
                            have hP := vaPk hP hk1
                            refine lv_iload_n hx hb dX8_joined_132 rfl (lv_at hl 3 rfl) ?_
                            refine lv_iand hx hb dX8_joined_133 ?_
                            obtain ⟨ht_, hf_⟩ := h
                            refine lv_if_eq (tgt := 141) hx hb dX8_joined_134 (by decide) (fun c_56 => ?_) (fun c_56 => ?_)
                            · have h := ht_ c_56
                              exact lab_141 s0_21_terms s0_21_number s0_21_term s0_21_triples s0_21_store s0_21_patterns s0_21_query s0_21_bound s0_21_found s0_21_work s0_21_kept s0_21_keptVariables s0_21_answers s0_21_thrown v4_19 v7_20 h _ _ hP hD hS _ hl
                            · have h := hf_ c_56
                              exact lab_137 s0_21_terms s0_21_number s0_21_term s0_21_triples s0_21_store s0_21_patterns s0_21_query s0_21_bound s0_21_found s0_21_work s0_21_kept s0_21_keptVariables s0_21_answers s0_21_thrown v4_19 v7_20 h _ _ hP hD hS _ hl
                  exact loop_18 n_18 (-1 : Int32) (0 : Int32) s0_11_terms s0_11_number s0_11_term s0_11_triples s0_11_store s0_11_patterns s0_11_query s0_11_bound s0_11_found s0_11_work s0_11_kept s0_11_keptVariables s0_11_answers s0_11_thrown h _ _ hP hD hS _ hl
                · have h := hf_ c_17
                  refine lv_iload hx hb dX8_joined_61 (lv_at hl 5 rfl) ?_
                  refine lv_iload_n hx hb dX8_joined_63 rfl (lv_at hl 2 rfl) ?_
                  refine lv_iload hx hb dX8_joined_64 (lv_at hl 6 rfl) ?_
                  refine lv_ishr hx hb dX8_joined_66 ?_
                  refine lv_iconst (v := (1 : Int32)) hx hb dX8_joined_67 (by decide) ?_
                  refine lv_iand hx hb dX8_joined_68 ?_
                  obtain ⟨ht_, hf_⟩ := h
                  refine lv_if_ne (tgt := 87) hx hb dX8_joined_69 (by decide) (fun c_57 => ?_) (fun c_57 => ?_)
                  · have h := ht_ c_57
                    refine lv_iconst (v := (0 : Int32)) hx hb dX8_joined_87 (by decide) ?_
                    refine lv_ior hx hb dX8_joined_88 ?_
                    refine lv_istore (lv' := [(6, .int (v6_15 ||| (0 : Int32))), (0, .ref h0), (1, .int v1), (2, .int v2_7), (3, .int v3_8), (5, .int v5_10), (7, .int v7_16)]) hx hb dX8_joined_89 hl (by decide) rfl (fun ls hl => ?_)
                    refine lv_iinc (v := (v7_16 + (1 : Int32))) (lv' := [(7, .int (v7_16 + (1 : Int32))), (6, .int (v6_15 ||| (0 : Int32))), (0, .ref h0), (1, .int v1), (2, .int v2_7), (3, .int v3_8), (5, .int v5_10)]) hx hb dX8_joined_91 hl (k := 6) rfl rfl (by decide) rfl (fun ls hl => ?_)
                    refine lv_goto (tgt := 52) hx hb dX8_joined_94 (by decide) ?_
                    have hl : lv_has ls 9 [(0, .ref h0), (1, .int v1), (2, .int v2_7), (3, .int v3_8), (5, .int v5_10), (6, .int (v6_15 ||| (0 : Int32))), (7, .int (v7_16 + (1 : Int32)))] := lv_sub hl [2, 3, 4, 5, 6, 1, 0] rfl
                    obtain ⟨k_58, hk_59, h⟩ := h
                    exact ih_14 k_58 hk_59 (v6_15 ||| (0 : Int32)) (v7_16 + (1 : Int32)) h _ _ hP hD hS _ hl
                  · have h := hf_ c_57
                    refine lv_aload_n hx hb dX8_joined_72 rfl (lv_at hl 0 rfl) ?_
                    refine lv_iload hx hb dX8_joined_73 (lv_at hl 6 rfl) ?_
                    have hPc := hP.sub (ws' := [(h0, .inr (8, [.int s0_11_terms, .ref h0_1, .ref h0_2, .int s0_11_triples, .ref h0_3, .int s0_11_patterns, .ref h0_4, .ref h0_5, .int s0_11_found, .ref h0_6, .int s0_11_kept, .int s0_11_keptVariables, .ref h0_7, .int s0_11_thrown])), (h0_1, .inl (cI, 100, .inl s0_11_number)), (h0_2, .inl (cI, 40, .inl s0_11_term)), (h0_3, .inl (cI, 180, .inl s0_11_store)), (h0_4, .inl (cI, 9, .inl s0_11_query)), (h0_5, .inl (cI, 16, .inl s0_11_bound)), (h0_6, .inl (cI, 2000, .inl s0_11_work)), (h0_7, .inl (cI, 2000, .inl s0_11_answers))]) [0, 1, 2, 3, 4, 5, 6, 7] rfl
                    have hDc := hD.sub (ws' := [(h0, .inr (8, [.int s0_11_terms, .ref h0_1, .ref h0_2, .int s0_11_triples, .ref h0_3, .int s0_11_patterns, .ref h0_4, .ref h0_5, .int s0_11_found, .ref h0_6, .int s0_11_kept, .int s0_11_keptVariables, .ref h0_7, .int s0_11_thrown])), (h0_1, .inl (cI, 100, .inl s0_11_number)), (h0_2, .inl (cI, 40, .inl s0_11_term)), (h0_3, .inl (cI, 180, .inl s0_11_store)), (h0_4, .inl (cI, 9, .inl s0_11_query)), (h0_5, .inl (cI, 16, .inl s0_11_bound)), (h0_6, .inl (cI, 2000, .inl s0_11_work)), (h0_7, .inl (cI, 2000, .inl s0_11_answers))]) [0, 1, 2, 3, 4, 5, 6, 7] (by decide) rfl
                    have hFc := fr0 hA hS
                    refine va_calli (va_runV (As := [.int v7_16]) (rest := [.int v6_15]) ⟨hx, hb, hml, hown, hts⟩ (c_X8_variablesOf l dC dI cI h0 h0_1 h0_2 h0_3 h0_4 h0_5 h0_6 h0_7 _ (s0_11_terms, s0_11_number, s0_11_term, s0_11_triples, s0_11_store, s0_11_patterns, s0_11_query, s0_11_bound, s0_11_found, s0_11_work, s0_11_kept, s0_11_keptVariables, s0_11_answers, s0_11_thrown) v7_16 _ h) (cwV 1 hts gX8_joined_X8_variablesOf rfl rfl rfl (by decide +kernel) ⟨Nat.le_of_ble_eq_true rfl, Nat.le_of_ble_eq_true rfl⟩) (pb_V hPc hK hDc hN (ci := 8) (q0 := 0) rfl rfl) rfl rfl hl.1 rfl (lv_room (Nat.le_of_ble_eq_true rfl)) dX8_joined_75 ⟨Nat.zero_le _, Nat.zero_le _⟩) hS (fun q _ h => hFc q h) hFc (fun r_61 u_60 t H locs ht hvm h hB hz1 hk1 hS => ?_)
                    have hP := vaPk hP hk1
                    refine lv_iload_n hx hb dX8_joined_78 rfl (lv_at hl 3 rfl) ?_
                    refine lv_iand hx hb dX8_joined_79 ?_
                    obtain ⟨ht_, hf_⟩ := h
                    refine lv_if_eq (tgt := 87) hx hb dX8_joined_80 (by decide) (fun c_62 => ?_) (fun c_62 => ?_)
                    · have h := ht_ c_62
                      refine lv_iconst (v := (0 : Int32)) hx hb dX8_joined_87 (by decide) ?_
                      refine lv_ior hx hb dX8_joined_88 ?_
                      refine lv_istore (lv' := [(6, .int (v6_15 ||| (0 : Int32))), (0, .ref h0), (1, .int v1), (2, .int v2_7), (3, .int v3_8), (5, .int v5_10), (7, .int v7_16)]) hx hb dX8_joined_89 hl (by decide) rfl (fun ls hl => ?_)
                      refine lv_iinc (v := (v7_16 + (1 : Int32))) (lv' := [(7, .int (v7_16 + (1 : Int32))), (6, .int (v6_15 ||| (0 : Int32))), (0, .ref h0), (1, .int v1), (2, .int v2_7), (3, .int v3_8), (5, .int v5_10)]) hx hb dX8_joined_91 hl (k := 6) rfl rfl (by decide) rfl (fun ls hl => ?_)
                      refine lv_goto (tgt := 52) hx hb dX8_joined_94 (by decide) ?_
                      have hl : lv_has ls 9 [(0, .ref h0), (1, .int v1), (2, .int v2_7), (3, .int v3_8), (5, .int v5_10), (6, .int (v6_15 ||| (0 : Int32))), (7, .int (v7_16 + (1 : Int32)))] := lv_sub hl [2, 3, 4, 5, 6, 1, 0] rfl
                      obtain ⟨k_63, hk_64, h⟩ := h
                      exact ih_14 k_63 hk_64 (v6_15 ||| (0 : Int32)) (v7_16 + (1 : Int32)) h _ _ hP hD hS _ hl
                    · have h := hf_ c_62
                      refine lv_iconst (v := (1 : Int32)) hx hb dX8_joined_83 (by decide) ?_
                      refine lv_goto (tgt := 88) hx hb dX8_joined_84 (by decide) ?_
                      refine lv_ior hx hb dX8_joined_88 ?_
                      refine lv_istore (lv' := [(6, .int (v6_15 ||| (1 : Int32))), (0, .ref h0), (1, .int v1), (2, .int v2_7), (3, .int v3_8), (5, .int v5_10), (7, .int v7_16)]) hx hb dX8_joined_89 hl (by decide) rfl (fun ls hl => ?_)
                      refine lv_iinc (v := (v7_16 + (1 : Int32))) (lv' := [(7, .int (v7_16 + (1 : Int32))), (6, .int (v6_15 ||| (1 : Int32))), (0, .ref h0), (1, .int v1), (2, .int v2_7), (3, .int v3_8), (5, .int v5_10)]) hx hb dX8_joined_91 hl (k := 6) rfl rfl (by decide) rfl (fun ls hl => ?_)
                      refine lv_goto (tgt := 52) hx hb dX8_joined_94 (by decide) ?_
                      have hl : lv_has ls 9 [(0, .ref h0), (1, .int v1), (2, .int v2_7), (3, .int v3_8), (5, .int v5_10), (6, .int (v6_15 ||| (1 : Int32))), (7, .int (v7_16 + (1 : Int32)))] := lv_sub hl [2, 3, 4, 5, 6, 1, 0] rfl
                      obtain ⟨k_65, hk_66, h⟩ := h
                      exact ih_14 k_65 hk_66 (v6_15 ||| (1 : Int32)) (v7_16 + (1 : Int32)) h _ _ hP hD hS _ hl
            exact loop_14 n_14 (0 : Int32) (0 : Int32) h _ _ hP hD hS _ hl
    exact loop_6 n_6 (0 : Int32) (0 : Int32) (0 : Int32) (0 : Int32) s0_4_terms s0_4_number s0_4_term s0_4_triples s0_4_store s0_4_patterns s0_4_query s0_4_bound s0_4_found s0_4_work s0_4_kept s0_4_keptVariables s0_4_answers x0_5 h _ _ hP hD hS _ hl
  refine lv_aload_n hx hb dX8_joined_0 rfl (lv_at hl 0 rfl) ?_
  refine lv_iload_n hx hb dX8_joined_1 rfl (lv_at hl 1 rfl) ?_
  refine lv_iconst (v := (0 : Int32)) hx hb dX8_joined_2 (by decide) ?_
  refine lv_aload_n hx hb dX8_joined_3 rfl (lv_at hl 0 rfl) ?_
  refine va_get (D := (dC, dI)) (ci := 8) (v := .int s0_patterns) (C := RX8) (T := TX8) (N := 14) hx hb hts (hinX8) hown hK hP 0 rfl rfl 5 (by decide) (hts (.fieldLink RX8 67 "TripleJoinsModel" "patterns" "I") (by decide +kernel)) (fun _ h9 => h9) rfl dX8_joined_4 ?_
  refine lv_iconst (v := (1 : Int32)) hx hb dX8_joined_7 (by decide) ?_
  refine lv_isub hx hb dX8_joined_8 ?_
  have hPc := hP.sub (ws' := []) [] rfl
  have hDc := hD.sub (ws' := []) [] (by decide) rfl
  have hFc := fr0 hA hS
  refine va_calli (va_runS (As := [.int v1, .int (0 : Int32), .int (s0_patterns - (1 : Int32))]) (rest := [.ref h0]) ⟨hx, hb, hml, hown, hts⟩ (c_X8_isIn l dC dI cI  _ v1 (0 : Int32) (s0_patterns - (1 : Int32)) _ h) (va_cwS 3 hts gX8_joined_X8_isIn rfl rfl rfl (by decide +kernel) ⟨Nat.le_of_ble_eq_true rfl, Nat.le_of_ble_eq_true rfl⟩) (pb_S hPc hK hDc hN) rfl rfl hl.1 rfl (lv_room (Nat.le_of_ble_eq_true rfl)) dX8_joined_9 ⟨Nat.zero_le _, Nat.zero_le _⟩) hS (fun q _ h => hFc q h) hFc (fun r_68 u_67 t H locs ht hvm h hB hz1 hk1 hS => ?_)
  have hP := vaPk hP hk1
  obtain ⟨ht_, hf_⟩ := h
  refine lv_if_eq (tgt := 19) hx hb dX8_joined_12 (by decide) (fun c_69 => ?_) (fun c_69 => ?_)
  · have h := ht_ c_69
    refine lv_iconst (v := (1 : Int32)) hx hb dX8_joined_19 (by decide) ?_
    exact lab_20 s0_terms s0_number s0_term s0_triples s0_store s0_patterns s0_query s0_bound s0_found s0_work s0_kept s0_keptVariables s0_answers s0_thrown (1 : Int32) h _ _ hP hD hS _ hl
  · have h := hf_ c_69
    refine lv_iconst (v := (0 : Int32)) hx hb dX8_joined_15 (by decide) ?_
    refine lv_goto (tgt := 20) hx hb dX8_joined_16 (by decide) ?_
    exact lab_20 s0_terms s0_number s0_term s0_triples s0_store s0_patterns s0_query s0_bound s0_found s0_work s0_kept s0_keptVariables s0_answers s0_thrown (0 : Int32) h _ _ hP hD hS _ hl
abbrev Q_X8_finds (dC : Nat → ClassId) (dI : Nat → Nat → Nat) (cI : ClassId) (h0 h0_1 h0_2 h0_3 h0_4 h0_5 h0_6 h0_7 : Nat) (s0 : ModS) (A : Nat → Prop) (post : ModS → Prop) : Array Value → State → Outcome → State → Prop := va_Qv post (fun (u : ModS) (t : State) => va_P (dC, dI) vwCl [(h0, .inr (8, [.int u.terms, .ref h0_1, .ref h0_2, .int u.triples, .ref h0_3, .int u.patterns, .ref h0_4, .ref h0_5, .int u.found, .ref h0_6, .int u.kept, .int u.keptVariables, .ref h0_7, .int u.thrown])), (h0_1, .inl (cI, 100, .inl u.number)), (h0_2, .inl (cI, 40, .inl u.term)), (h0_3, .inl (cI, 180, .inl u.store)), (h0_4, .inl (cI, 9, .inl u.query)), (h0_5, .inl (cI, 16, .inl u.bound)), (h0_6, .inl (cI, 2000, .inl u.work)), (h0_7, .inl (cI, 2000, .inl u.answers))] t.heap ∧ va_D A [(h0, .inr (8, [.int u.terms, .ref h0_1, .ref h0_2, .int u.triples, .ref h0_3, .int u.patterns, .ref h0_4, .ref h0_5, .int u.found, .ref h0_6, .int u.kept, .int u.keptVariables, .ref h0_7, .int u.thrown])), (h0_1, .inl (cI, 100, .inl u.number)), (h0_2, .inl (cI, 40, .inl u.term)), (h0_3, .inl (cI, 180, .inl u.store)), (h0_4, .inl (cI, 9, .inl u.query)), (h0_5, .inl (cI, 16, .inl u.bound)), (h0_6, .inl (cI, 2000, .inl u.work)), (h0_7, .inl (cI, 2000, .inl u.answers))]) A
abbrev rm_X8_finds : Room := { frames := 0, cells := 0, slots := 0, locals := 0 }
set_option maxHeartbeats 4000000 in
set_option maxRecDepth 100000 in
theorem c_X8_finds (l : Launch) (dC : Nat → ClassId) (dI : Nat → Nat → Nat) (cI : ClassId) (h0 h0_1 h0_2 h0_3 h0_4 h0_5 h0_6 h0_7 : Nat) (sz : Nat) (s0 : ModS) (v1 : Int32) (post : ModS → Prop) (h : P_X8_finds s0 v1 post) : Met l yX8_finds wsX8_finds rm_X8_finds (va_Pc [.ref h0, .int v1] (cpre (dC, dI) [(cI, .int)] [(h0, .inr (8, [.int s0.terms, .ref h0_1, .ref h0_2, .int s0.triples, .ref h0_3, .int s0.patterns, .ref h0_4, .ref h0_5, .int s0.found, .ref h0_6, .int s0.kept, .int s0.keptVariables, .ref h0_7, .int s0.thrown])), (h0_1, .inl (cI, 100, .inl s0.number)), (h0_2, .inl (cI, 40, .inl s0.term)), (h0_3, .inl (cI, 180, .inl s0.store)), (h0_4, .inl (cI, 9, .inl s0.query)), (h0_5, .inl (cI, 16, .inl s0.bound)), (h0_6, .inl (cI, 2000, .inl s0.work)), (h0_7, .inl (cI, 2000, .inl s0.answers))] sz)) (Q_X8_finds dC dI cI h0 h0_1 h0_2 h0_3 h0_4 h0_5 h0_6 h0_7 s0 (va_A [(h0, .inr (8, [.int s0.terms, .ref h0_1, .ref h0_2, .int s0.triples, .ref h0_3, .int s0.patterns, .ref h0_4, .ref h0_5, .int s0.found, .ref h0_6, .int s0.kept, .int s0.keptVariables, .ref h0_7, .int s0.thrown])), (h0_1, .inl (cI, 100, .inl s0.number)), (h0_2, .inl (cI, 40, .inl s0.term)), (h0_3, .inl (cI, 180, .inl s0.store)), (h0_4, .inl (cI, 9, .inl s0.query)), (h0_5, .inl (cI, 16, .inl s0.bound)), (h0_6, .inl (cI, 2000, .inl s0.work)), (h0_7, .inl (cI, 2000, .inl s0.answers))] sz) post) 0 0 (va_A [(h0, .inr (8, [.int s0.terms, .ref h0_1, .ref h0_2, .int s0.triples, .ref h0_3, .int s0.patterns, .ref h0_4, .ref h0_5, .int s0.found, .ref h0_6, .int s0.kept, .int s0.keptVariables, .ref h0_7, .int s0.thrown])), (h0_1, .inl (cI, 100, .inl s0.number)), (h0_2, .inl (cI, 40, .inl s0.term)), (h0_3, .inl (cI, 180, .inl s0.store)), (h0_4, .inl (cI, 9, .inl s0.query)), (h0_5, .inl (cI, 16, .inl s0.bound)), (h0_6, .inl (cI, 2000, .inl s0.work)), (h0_7, .inl (cI, 2000, .inl s0.answers))] sz) := by
  refine Met.ofW (cc := cX8_finds) (maxL := 4) (ret := none) (by decide) rfl ?_
  intro p e s m args below meth c s₁ B hml hv
  obtain ⟨rfl, hsz, hP, hK, hD0, hN⟩ := hv
  have hx := B.exec
  have hb := B.bytes
  have hr := B.returns
  have hts := atoms_spec (ws := wsX8_finds) B.pre
  have hown : s.vm.findClass RX8 = some m.cls := findClass_of_methodNamed B.named
  have hlocks := B.notSynchronized
  subst hsz
  have hD := hD0.self (sz := s.heap.size)
  generalize hAe : va_A [(h0, .inr (8, [.int s0.terms, .ref h0_1, .ref h0_2, .int s0.triples, .ref h0_3, .int s0.patterns, .ref h0_4, .ref h0_5, .int s0.found, .ref h0_6, .int s0.kept, .int s0.keptVariables, .ref h0_7, .int s0.thrown])), (h0_1, .inl (cI, 100, .inl s0.number)), (h0_2, .inl (cI, 40, .inl s0.term)), (h0_3, .inl (cI, 180, .inl s0.store)), (h0_4, .inl (cI, 9, .inl s0.query)), (h0_5, .inl (cI, 16, .inl s0.bound)), (h0_6, .inl (cI, 2000, .inl s0.work)), (h0_7, .inl (cI, 2000, .inl s0.answers))] s.heap.size = A at hD ⊢
  have hA : ∀ q : Nat, s.heap.size ≤ q → A q := fun q h => by rw [← hAe]; exact Or.inr h
  clear hAe hD0
  obtain ⟨s0_terms, s0_number, s0_term, s0_triples, s0_store, s0_patterns, s0_query, s0_bound, s0_found, s0_work, s0_kept, s0_keptVariables, s0_answers, s0_thrown⟩ := s0
  have hS : va_S A s.heap s.heap [] := va_S.rf
  have hP : va_P (dC, dI) vwCl [(h0, .inr (8, [.int s0_terms, .ref h0_1, .ref h0_2, .int s0_triples, .ref h0_3, .int s0_patterns, .ref h0_4, .ref h0_5, .int s0_found, .ref h0_6, .int s0_kept, .int s0_keptVariables, .ref h0_7, .int s0_thrown])), (h0_1, .inl (cI, 100, .inl s0_number)), (h0_2, .inl (cI, 40, .inl s0_term)), (h0_3, .inl (cI, 180, .inl s0_store)), (h0_4, .inl (cI, 9, .inl s0_query)), (h0_5, .inl (cI, 16, .inl s0_bound)), (h0_6, .inl (cI, 2000, .inl s0_work)), (h0_7, .inl (cI, 2000, .inl s0_answers))] s.heap := hP
  have hD : va_D A [(h0, .inr (8, [.int s0_terms, .ref h0_1, .ref h0_2, .int s0_triples, .ref h0_3, .int s0_patterns, .ref h0_4, .ref h0_5, .int s0_found, .ref h0_6, .int s0_kept, .int s0_keptVariables, .ref h0_7, .int s0_thrown])), (h0_1, .inl (cI, 100, .inl s0_number)), (h0_2, .inl (cI, 40, .inl s0_term)), (h0_3, .inl (cI, 180, .inl s0_store)), (h0_4, .inl (cI, 9, .inl s0_query)), (h0_5, .inl (cI, 16, .inl s0_bound)), (h0_6, .inl (cI, 2000, .inl s0_work)), (h0_7, .inl (cI, 2000, .inl s0_answers))] := hD
  have hl := lv_entry ([.ref h0, .int v1]) (n := 4) (Nat.le_of_ble_eq_true rfl)
  rw [lg_entry_eq]
  generalize (lg_sl ([.ref h0, .int v1]) ++ List.replicate (4 - (lg_sl ([.ref h0, .int v1])).length) Slot.unset).toArray = ls at hl ⊢
  have hl : lv_has ls 4 [(0, .ref h0), (1, .int v1)] := hl
  have hinX8 : ∀ w ∈ u_ws RX8 TX8 14, w ∈ wsX8_finds := by decide +kernel
  have lab_53 : ∀ (s0_1_terms : Int32) (s0_1_number : Nat → Int32) (s0_1_term : Nat → Int32) (s0_1_triples : Int32) (s0_1_store : Nat → Int32) (s0_1_patterns : Int32) (s0_1_query : Nat → Int32) (s0_1_bound : Nat → Int32) (s0_1_found : Int32) (s0_1_work : Nat → Int32) (s0_1_kept : Int32) (s0_1_keptVariables : Int32) (s0_1_answers : Nat → Int32) (s0_1_thrown : Int32) (h : P_X8_finds_j53 (s0_1_terms, s0_1_number, s0_1_term, s0_1_triples, s0_1_store, s0_1_patterns, s0_1_query, s0_1_bound, s0_1_found, s0_1_work, s0_1_kept, s0_1_keptVariables, s0_1_answers, s0_1_thrown) post) (H : Heap) (locs : List Loc) (hP : va_P (dC, dI) vwCl [(h0, .inr (8, [.int s0_1_terms, .ref h0_1, .ref h0_2, .int s0_1_triples, .ref h0_3, .int s0_1_patterns, .ref h0_4, .ref h0_5, .int s0_1_found, .ref h0_6, .int s0_1_kept, .int s0_1_keptVariables, .ref h0_7, .int s0_1_thrown])), (h0_1, .inl (cI, 100, .inl s0_1_number)), (h0_2, .inl (cI, 40, .inl s0_1_term)), (h0_3, .inl (cI, 180, .inl s0_1_store)), (h0_4, .inl (cI, 9, .inl s0_1_query)), (h0_5, .inl (cI, 16, .inl s0_1_bound)), (h0_6, .inl (cI, 2000, .inl s0_1_work)), (h0_7, .inl (cI, 2000, .inl s0_1_answers))] H) (hD : va_D A [(h0, .inr (8, [.int s0_1_terms, .ref h0_1, .ref h0_2, .int s0_1_triples, .ref h0_3, .int s0_1_patterns, .ref h0_4, .ref h0_5, .int s0_1_found, .ref h0_6, .int s0_1_kept, .int s0_1_keptVariables, .ref h0_7, .int s0_1_thrown])), (h0_1, .inl (cI, 100, .inl s0_1_number)), (h0_2, .inl (cI, 40, .inl s0_1_term)), (h0_3, .inl (cI, 180, .inl s0_1_store)), (h0_4, .inl (cI, 9, .inl s0_1_query)), (h0_5, .inl (cI, 16, .inl s0_1_bound)), (h0_6, .inl (cI, 2000, .inl s0_1_work)), (h0_7, .inl (cI, 2000, .inl s0_1_answers))]) (hS : va_S A s.heap H locs) (ls : Array Slot) (hl : lv_has ls 4 [(0, .ref h0)]), W p l e rm_X8_finds s m ([.ref h0, .int v1] : List Value).toArray below meth c H locs 0 0 (MQ below (Q_X8_finds dC dI cI h0 h0_1 h0_2 h0_3 h0_4 h0_5 h0_6 h0_7 (s0_terms, s0_number, s0_term, s0_triples, s0_store, s0_patterns, s0_query, s0_bound, s0_found, s0_work, s0_kept, s0_keptVariables, s0_answers, s0_thrown) A post) (([.ref h0, .int v1] : List Value).toArray) s 0 0 A) (F0 m 53 ls []) := by
    intro s0_1_terms s0_1_number s0_1_term s0_1_triples s0_1_store s0_1_patterns s0_1_query s0_1_bound s0_1_found s0_1_work s0_1_kept s0_1_keptVariables s0_1_answers s0_1_thrown h H locs hP hD hS ls hl
    refine lv_aload_n hx hb dX8_finds_53 rfl (lv_at hl 0 rfl) ?_
    refine lv_dup hx hb dX8_finds_54 rfl ?_
    refine va_get (D := (dC, dI)) (ci := 8) (v := .int s0_1_found) (C := RX8) (T := TX8) (N := 14) hx hb hts (hinX8) hown hK hP 0 rfl rfl 8 (by decide) (hts (.fieldLink RX8 86 "TripleJoinsModel" "found" "I") (by decide +kernel)) (fun _ h9 => h9) rfl dX8_finds_55 ?_
    refine lv_iconst (v := (1 : Int32)) hx hb dX8_finds_58 (by decide) ?_
    refine lv_iadd hx hb dX8_finds_59 ?_
    refine va_put (D := (dC, dI)) (ci := 8) (v := .int (s0_1_found + (1 : Int32))) (ty := .int) (C := RX8) (T := TX8) (N := 14) hx hb hts (hinX8) tyX8 tyX8_ok nmX8 hown hK hP hD hS 0 rfl rfl 8 (by decide) (hts (.fieldLink RX8 86 "TripleJoinsModel" "found" "I") (by decide +kernel)) (fun _ h9 => h9) rfl (by decide +kernel) rfl rfl (Nat.le_of_ble_eq_true rfl) dX8_finds_60 (fun H locs hP hD hS => ?_)
    have hP : va_P (dC, dI) vwCl [(h0, .inr (8, [.int s0_1_terms, .ref h0_1, .ref h0_2, .int s0_1_triples, .ref h0_3, .int s0_1_patterns, .ref h0_4, .ref h0_5, .int (s0_1_found + (1 : Int32)), .ref h0_6, .int s0_1_kept, .int s0_1_keptVariables, .ref h0_7, .int s0_1_thrown])), (h0_1, .inl (cI, 100, .inl s0_1_number)), (h0_2, .inl (cI, 40, .inl s0_1_term)), (h0_3, .inl (cI, 180, .inl s0_1_store)), (h0_4, .inl (cI, 9, .inl s0_1_query)), (h0_5, .inl (cI, 16, .inl s0_1_bound)), (h0_6, .inl (cI, 2000, .inl s0_1_work)), (h0_7, .inl (cI, 2000, .inl s0_1_answers))] _ := hP
    have hD : va_D A [(h0, .inr (8, [.int s0_1_terms, .ref h0_1, .ref h0_2, .int s0_1_triples, .ref h0_3, .int s0_1_patterns, .ref h0_4, .ref h0_5, .int (s0_1_found + (1 : Int32)), .ref h0_6, .int s0_1_kept, .int s0_1_keptVariables, .ref h0_7, .int s0_1_thrown])), (h0_1, .inl (cI, 100, .inl s0_1_number)), (h0_2, .inl (cI, 40, .inl s0_1_term)), (h0_3, .inl (cI, 180, .inl s0_1_store)), (h0_4, .inl (cI, 9, .inl s0_1_query)), (h0_5, .inl (cI, 16, .inl s0_1_bound)), (h0_6, .inl (cI, 2000, .inl s0_1_work)), (h0_7, .inl (cI, 2000, .inl s0_1_answers))] := hD
    exact W.vret hx hb hr (fun t ht hW => ⟨⟨(s0_1_terms, s0_1_number, s0_1_term, s0_1_triples, s0_1_store, s0_1_patterns, s0_1_query, s0_1_bound, (s0_1_found + (1 : Int32)), s0_1_work, s0_1_kept, s0_1_keptVariables, s0_1_answers, s0_1_thrown), rfl, h, ⟨by rw [ht]; exact hP, hD⟩⟩, hS.F ht⟩) hS.2.2 dX8_finds_63
  refine lv_iconst (v := (0 : Int32)) hx hb dX8_finds_0 (by decide) ?_
  refine lv_istore_n (lv' := [(2, .int (0 : Int32)), (0, .ref h0), (1, .int v1)]) hx hb dX8_finds_1 rfl hl (by decide) rfl (fun ls hl => ?_)
  refine lv_iconst (v := (0 : Int32)) hx hb dX8_finds_2 (by decide) ?_
  refine lv_istore_n (lv' := [(3, .int (0 : Int32)), (2, .int (0 : Int32)), (0, .ref h0), (1, .int v1)]) hx hb dX8_finds_3 rfl hl (by decide) rfl (fun ls hl => ?_)
  have hl : lv_has ls 4 [(0, .ref h0), (1, .int v1), (2, .int (0 : Int32)), (3, .int (0 : Int32))] := lv_sub hl [2, 3, 1, 0] rfl
  obtain ⟨I_2, hI_2, n_2, h⟩ := h
  have loop_2 : ∀ (n_2 : Nat) (v2_3 : Int32) (v3_4 : Int32) (h : I_2 n_2 (v2_3, v3_4)) (H : Heap) (locs : List Loc) (hP : va_P (dC, dI) vwCl [(h0, .inr (8, [.int s0_terms, .ref h0_1, .ref h0_2, .int s0_triples, .ref h0_3, .int s0_patterns, .ref h0_4, .ref h0_5, .int s0_found, .ref h0_6, .int s0_kept, .int s0_keptVariables, .ref h0_7, .int s0_thrown])), (h0_1, .inl (cI, 100, .inl s0_number)), (h0_2, .inl (cI, 40, .inl s0_term)), (h0_3, .inl (cI, 180, .inl s0_store)), (h0_4, .inl (cI, 9, .inl s0_query)), (h0_5, .inl (cI, 16, .inl s0_bound)), (h0_6, .inl (cI, 2000, .inl s0_work)), (h0_7, .inl (cI, 2000, .inl s0_answers))] H) (hD : va_D A [(h0, .inr (8, [.int s0_terms, .ref h0_1, .ref h0_2, .int s0_triples, .ref h0_3, .int s0_patterns, .ref h0_4, .ref h0_5, .int s0_found, .ref h0_6, .int s0_kept, .int s0_keptVariables, .ref h0_7, .int s0_thrown])), (h0_1, .inl (cI, 100, .inl s0_number)), (h0_2, .inl (cI, 40, .inl s0_term)), (h0_3, .inl (cI, 180, .inl s0_store)), (h0_4, .inl (cI, 9, .inl s0_query)), (h0_5, .inl (cI, 16, .inl s0_bound)), (h0_6, .inl (cI, 2000, .inl s0_work)), (h0_7, .inl (cI, 2000, .inl s0_answers))]) (hS : va_S A s.heap H locs) (ls : Array Slot) (hl : lv_has ls 4 [(0, .ref h0), (1, .int v1), (2, .int v2_3), (3, .int v3_4)]), W p l e rm_X8_finds s m ([.ref h0, .int v1] : List Value).toArray below meth c H locs 0 0 (MQ below (Q_X8_finds dC dI cI h0 h0_1 h0_2 h0_3 h0_4 h0_5 h0_6 h0_7 (s0_terms, s0_number, s0_term, s0_triples, s0_store, s0_patterns, s0_query, s0_bound, s0_found, s0_work, s0_kept, s0_keptVariables, s0_answers, s0_thrown) A post) (([.ref h0, .int v1] : List Value).toArray) s 0 0 A) (F0 m 4 ls []) := by
    intro n_2
    induction n_2 using Nat.strongRecOn with
    | ind n_2 ih_2 =>
      intro v2_3 v3_4 h H locs hP hD hS ls hl
      have h := hI_2 n_2 _ h
      refine lv_iload_n hx hb dX8_finds_4 rfl (lv_at hl 3 rfl) ?_
      refine lv_iconst (v := (4 : Int32)) hx hb dX8_finds_5 (by decide) ?_
      obtain ⟨ht_, hf_⟩ := h
      refine lv_icmp_ge (tgt := 33) hx hb dX8_finds_6 (by decide) (fun c_5 => ?_) (fun c_5 => ?_)
      · have h := ht_ c_5
        refine lv_aload_n hx hb dX8_finds_33 rfl (lv_at hl 0 rfl) ?_
        refine va_get (D := (dC, dI)) (ci := 8) (v := .int s0_found) (C := RX8) (T := TX8) (N := 14) hx hb hts (hinX8) hown hK hP 0 rfl rfl 8 (by decide) (hts (.fieldLink RX8 86 "TripleJoinsModel" "found" "I") (by decide +kernel)) (fun _ h9 => h9) rfl dX8_finds_34 ?_
        refine lv_sipush (v := (2000 : Int32)) hx hb dX8_finds_37 (by decide) ?_
        obtain ⟨ht_, hf_⟩ := h
        refine lv_icmp_ge (tgt := 53) hx hb dX8_finds_40 (by decide) (fun c_6 => ?_) (fun c_6 => ?_)
        · have h := ht_ c_6
          have hl : lv_has ls 4 [(0, .ref h0)] := lv_sub hl [0] rfl
          exact lab_53 s0_terms s0_number s0_term s0_triples s0_store s0_patterns s0_query s0_bound s0_found s0_work s0_kept s0_keptVariables s0_answers s0_thrown h _ _ hP hD hS _ hl
        · have h := hf_ c_6
          refine lv_aload_n hx hb dX8_finds_43 rfl (lv_at hl 0 rfl) ?_
          refine va_get (D := (dC, dI)) (ci := 8) (v := .ref h0_6) (C := RX8) (T := TX8) (N := 14) hx hb hts (hinX8) hown hK hP 0 rfl rfl 9 (by decide) (hts (.fieldLink RX8 25 "TripleJoinsModel" "work" "[I") (by decide +kernel)) (fun _ h9 => h9) rfl dX8_finds_44 ?_
          refine lv_aload_n hx hb dX8_finds_47 rfl (lv_at hl 0 rfl) ?_
          refine va_get (D := (dC, dI)) (ci := 8) (v := .int s0_found) (C := RX8) (T := TX8) (N := 14) hx hb hts (hinX8) hown hK hP 0 rfl rfl 8 (by decide) (hts (.fieldLink RX8 86 "TripleJoinsModel" "found" "I") (by decide +kernel)) (fun _ h9 => h9) rfl dX8_finds_48 ?_
          refine lv_iload_n hx hb dX8_finds_51 rfl (lv_at hl 2 rfl) ?_
          obtain ⟨hin, h⟩ := h
          refine va_iast (n := 2000) hx hb hK hP hD hS 6 0 rfl rfl hin dX8_finds_52 (fun H locs hP hD hS => ?_)
          have hP : va_P (dC, dI) vwCl [(h0, .inr (8, [.int s0_terms, .ref h0_1, .ref h0_2, .int s0_triples, .ref h0_3, .int s0_patterns, .ref h0_4, .ref h0_5, .int s0_found, .ref h0_6, .int s0_kept, .int s0_keptVariables, .ref h0_7, .int s0_thrown])), (h0_1, .inl (cI, 100, .inl s0_number)), (h0_2, .inl (cI, 40, .inl s0_term)), (h0_3, .inl (cI, 180, .inl s0_store)), (h0_4, .inl (cI, 9, .inl s0_query)), (h0_5, .inl (cI, 16, .inl s0_bound)), (h0_6, .inl (cI, 2000, .inl (upd s0_work (s0_found).toNatClampNeg v2_3))), (h0_7, .inl (cI, 2000, .inl s0_answers))] _ := hP
          have hD : va_D A [(h0, .inr (8, [.int s0_terms, .ref h0_1, .ref h0_2, .int s0_triples, .ref h0_3, .int s0_patterns, .ref h0_4, .ref h0_5, .int s0_found, .ref h0_6, .int s0_kept, .int s0_keptVariables, .ref h0_7, .int s0_thrown])), (h0_1, .inl (cI, 100, .inl s0_number)), (h0_2, .inl (cI, 40, .inl s0_term)), (h0_3, .inl (cI, 180, .inl s0_store)), (h0_4, .inl (cI, 9, .inl s0_query)), (h0_5, .inl (cI, 16, .inl s0_bound)), (h0_6, .inl (cI, 2000, .inl (upd s0_work (s0_found).toNatClampNeg v2_3))), (h0_7, .inl (cI, 2000, .inl s0_answers))] := hD
          have hl : lv_has ls 4 [(0, .ref h0)] := lv_sub hl [0] rfl
          exact lab_53 s0_terms s0_number s0_term s0_triples s0_store s0_patterns s0_query s0_bound s0_found (upd s0_work (s0_found).toNatClampNeg v2_3) s0_kept s0_keptVariables s0_answers s0_thrown h _ _ hP hD hS _ hl
      · have h := hf_ c_5
        refine lv_bipush (v := (41 : Int32)) hx hb dX8_finds_9 (by decide) ?_
        refine lv_iload_n hx hb dX8_finds_11 rfl (lv_at hl 2 rfl) ?_
        refine lv_imul hx hb dX8_finds_12 ?_
        refine lv_aload_n hx hb dX8_finds_13 rfl (lv_at hl 0 rfl) ?_
        refine va_get (D := (dC, dI)) (ci := 8) (v := .ref h0_5) (C := RX8) (T := TX8) (N := 14) hx hb hts (hinX8) hown hK hP 0 rfl rfl 7 (by decide) (hts (.fieldLink RX8 22 "TripleJoinsModel" "bound" "[I") (by decide +kernel)) (fun _ h9 => h9) rfl dX8_finds_14 ?_
        refine lv_iconst (v := (4 : Int32)) hx hb dX8_finds_17 (by decide) ?_
        refine lv_iload_n hx hb dX8_finds_18 rfl (lv_at hl 1 rfl) ?_
        refine lv_imul hx hb dX8_finds_19 ?_
        refine lv_iload_n hx hb dX8_finds_20 rfl (lv_at hl 3 rfl) ?_
        refine lv_iadd hx hb dX8_finds_21 ?_
        obtain ⟨hin, h⟩ := h
        refine va_iald (n := 16) hx hb hK hP 5 0 rfl rfl hin dX8_finds_22 ?_
        refine lv_iadd hx hb dX8_finds_23 ?_
        refine lv_iconst (v := (1 : Int32)) hx hb dX8_finds_24 (by decide) ?_
        refine lv_iadd hx hb dX8_finds_25 ?_
        refine lv_istore_n (lv' := [(2, .int ((((41 : Int32) * v2_3) + (s0_bound ((((4 : Int32) * v1) + v3_4)).toNatClampNeg)) + (1 : Int32))), (0, .ref h0), (1, .int v1), (3, .int v3_4)]) hx hb dX8_finds_26 rfl hl (by decide) rfl (fun ls hl => ?_)
        refine lv_iinc (v := (v3_4 + (1 : Int32))) (lv' := [(3, .int (v3_4 + (1 : Int32))), (2, .int ((((41 : Int32) * v2_3) + (s0_bound ((((4 : Int32) * v1) + v3_4)).toNatClampNeg)) + (1 : Int32))), (0, .ref h0), (1, .int v1)]) hx hb dX8_finds_27 hl (k := 3) rfl rfl (by decide) rfl (fun ls hl => ?_)
        refine lv_goto (tgt := 4) hx hb dX8_finds_30 (by decide) ?_
        have hl : lv_has ls 4 [(0, .ref h0), (1, .int v1), (2, .int ((((41 : Int32) * v2_3) + (s0_bound ((((4 : Int32) * v1) + v3_4)).toNatClampNeg)) + (1 : Int32))), (3, .int (v3_4 + (1 : Int32)))] := lv_sub hl [2, 3, 1, 0] rfl
        obtain ⟨k_7, hk_8, h⟩ := h
        exact ih_2 k_7 hk_8 ((((41 : Int32) * v2_3) + (s0_bound ((((4 : Int32) * v1) + v3_4)).toNatClampNeg)) + (1 : Int32)) (v3_4 + (1 : Int32)) h _ _ hP hD hS _ hl
  exact loop_2 n_2 (0 : Int32) (0 : Int32) h _ _ hP hD hS _ hl
abbrev Q_X8_goesThrough (dC : Nat → ClassId) (dI : Nat → Nat → Nat) (cI : ClassId) (h0 h0_1 h0_2 h0_3 h0_4 h0_5 h0_6 h0_7 : Nat) (s0 : ModS) (A : Nat → Prop) (post : ModS → Prop) : Array Value → State → Outcome → State → Prop := va_Qv post (fun (u : ModS) (t : State) => va_P (dC, dI) vwCl [(h0, .inr (8, [.int u.terms, .ref h0_1, .ref h0_2, .int u.triples, .ref h0_3, .int u.patterns, .ref h0_4, .ref h0_5, .int u.found, .ref h0_6, .int u.kept, .int u.keptVariables, .ref h0_7, .int u.thrown])), (h0_1, .inl (cI, 100, .inl u.number)), (h0_2, .inl (cI, 40, .inl u.term)), (h0_3, .inl (cI, 180, .inl u.store)), (h0_4, .inl (cI, 9, .inl u.query)), (h0_5, .inl (cI, 16, .inl u.bound)), (h0_6, .inl (cI, 2000, .inl u.work)), (h0_7, .inl (cI, 2000, .inl u.answers))] t.heap ∧ va_D A [(h0, .inr (8, [.int u.terms, .ref h0_1, .ref h0_2, .int u.triples, .ref h0_3, .int u.patterns, .ref h0_4, .ref h0_5, .int u.found, .ref h0_6, .int u.kept, .int u.keptVariables, .ref h0_7, .int u.thrown])), (h0_1, .inl (cI, 100, .inl u.number)), (h0_2, .inl (cI, 40, .inl u.term)), (h0_3, .inl (cI, 180, .inl u.store)), (h0_4, .inl (cI, 9, .inl u.query)), (h0_5, .inl (cI, 16, .inl u.bound)), (h0_6, .inl (cI, 2000, .inl u.work)), (h0_7, .inl (cI, 2000, .inl u.answers))]) A
abbrev rm_X8_goesThrough : Room := { frames := 1, cells := 0, slots := 0, locals := 28 }
set_option maxHeartbeats 4000000 in
set_option maxRecDepth 100000 in
theorem c_X8_goesThrough (l : Launch) (dC : Nat → ClassId) (dI : Nat → Nat → Nat) (cI : ClassId) (h0 h0_1 h0_2 h0_3 h0_4 h0_5 h0_6 h0_7 : Nat) (sz : Nat) (s0 : ModS) (post : ModS → Prop) (h : P_X8_goesThrough s0 post) : Met l yX8_goesThrough wsX8_goesThrough rm_X8_goesThrough (va_Pc [.ref h0] (cpre (dC, dI) [(cI, .int)] [(h0, .inr (8, [.int s0.terms, .ref h0_1, .ref h0_2, .int s0.triples, .ref h0_3, .int s0.patterns, .ref h0_4, .ref h0_5, .int s0.found, .ref h0_6, .int s0.kept, .int s0.keptVariables, .ref h0_7, .int s0.thrown])), (h0_1, .inl (cI, 100, .inl s0.number)), (h0_2, .inl (cI, 40, .inl s0.term)), (h0_3, .inl (cI, 180, .inl s0.store)), (h0_4, .inl (cI, 9, .inl s0.query)), (h0_5, .inl (cI, 16, .inl s0.bound)), (h0_6, .inl (cI, 2000, .inl s0.work)), (h0_7, .inl (cI, 2000, .inl s0.answers))] sz)) (Q_X8_goesThrough dC dI cI h0 h0_1 h0_2 h0_3 h0_4 h0_5 h0_6 h0_7 s0 (va_A [(h0, .inr (8, [.int s0.terms, .ref h0_1, .ref h0_2, .int s0.triples, .ref h0_3, .int s0.patterns, .ref h0_4, .ref h0_5, .int s0.found, .ref h0_6, .int s0.kept, .int s0.keptVariables, .ref h0_7, .int s0.thrown])), (h0_1, .inl (cI, 100, .inl s0.number)), (h0_2, .inl (cI, 40, .inl s0.term)), (h0_3, .inl (cI, 180, .inl s0.store)), (h0_4, .inl (cI, 9, .inl s0.query)), (h0_5, .inl (cI, 16, .inl s0.bound)), (h0_6, .inl (cI, 2000, .inl s0.work)), (h0_7, .inl (cI, 2000, .inl s0.answers))] sz) post) 0 0 (va_A [(h0, .inr (8, [.int s0.terms, .ref h0_1, .ref h0_2, .int s0.triples, .ref h0_3, .int s0.patterns, .ref h0_4, .ref h0_5, .int s0.found, .ref h0_6, .int s0.kept, .int s0.keptVariables, .ref h0_7, .int s0.thrown])), (h0_1, .inl (cI, 100, .inl s0.number)), (h0_2, .inl (cI, 40, .inl s0.term)), (h0_3, .inl (cI, 180, .inl s0.store)), (h0_4, .inl (cI, 9, .inl s0.query)), (h0_5, .inl (cI, 16, .inl s0.bound)), (h0_6, .inl (cI, 2000, .inl s0.work)), (h0_7, .inl (cI, 2000, .inl s0.answers))] sz) := by
  refine Met.ofW (cc := cX8_goesThrough) (maxL := 4) (ret := none) (by decide) rfl ?_
  intro p e s m args below meth c s₁ B hml hv
  obtain ⟨rfl, hsz, hP, hK, hD0, hN⟩ := hv
  have hx := B.exec
  have hb := B.bytes
  have hr := B.returns
  have hts := atoms_spec (ws := wsX8_goesThrough) B.pre
  have hown : s.vm.findClass RX8 = some m.cls := findClass_of_methodNamed B.named
  have hlocks := B.notSynchronized
  subst hsz
  have hD := hD0.self (sz := s.heap.size)
  generalize hAe : va_A [(h0, .inr (8, [.int s0.terms, .ref h0_1, .ref h0_2, .int s0.triples, .ref h0_3, .int s0.patterns, .ref h0_4, .ref h0_5, .int s0.found, .ref h0_6, .int s0.kept, .int s0.keptVariables, .ref h0_7, .int s0.thrown])), (h0_1, .inl (cI, 100, .inl s0.number)), (h0_2, .inl (cI, 40, .inl s0.term)), (h0_3, .inl (cI, 180, .inl s0.store)), (h0_4, .inl (cI, 9, .inl s0.query)), (h0_5, .inl (cI, 16, .inl s0.bound)), (h0_6, .inl (cI, 2000, .inl s0.work)), (h0_7, .inl (cI, 2000, .inl s0.answers))] s.heap.size = A at hD ⊢
  have hA : ∀ q : Nat, s.heap.size ≤ q → A q := fun q h => by rw [← hAe]; exact Or.inr h
  clear hAe hD0
  obtain ⟨s0_terms, s0_number, s0_term, s0_triples, s0_store, s0_patterns, s0_query, s0_bound, s0_found, s0_work, s0_kept, s0_keptVariables, s0_answers, s0_thrown⟩ := s0
  have hS : va_S A s.heap s.heap [] := va_S.rf
  have hP : va_P (dC, dI) vwCl [(h0, .inr (8, [.int s0_terms, .ref h0_1, .ref h0_2, .int s0_triples, .ref h0_3, .int s0_patterns, .ref h0_4, .ref h0_5, .int s0_found, .ref h0_6, .int s0_kept, .int s0_keptVariables, .ref h0_7, .int s0_thrown])), (h0_1, .inl (cI, 100, .inl s0_number)), (h0_2, .inl (cI, 40, .inl s0_term)), (h0_3, .inl (cI, 180, .inl s0_store)), (h0_4, .inl (cI, 9, .inl s0_query)), (h0_5, .inl (cI, 16, .inl s0_bound)), (h0_6, .inl (cI, 2000, .inl s0_work)), (h0_7, .inl (cI, 2000, .inl s0_answers))] s.heap := hP
  have hD : va_D A [(h0, .inr (8, [.int s0_terms, .ref h0_1, .ref h0_2, .int s0_triples, .ref h0_3, .int s0_patterns, .ref h0_4, .ref h0_5, .int s0_found, .ref h0_6, .int s0_kept, .int s0_keptVariables, .ref h0_7, .int s0_thrown])), (h0_1, .inl (cI, 100, .inl s0_number)), (h0_2, .inl (cI, 40, .inl s0_term)), (h0_3, .inl (cI, 180, .inl s0_store)), (h0_4, .inl (cI, 9, .inl s0_query)), (h0_5, .inl (cI, 16, .inl s0_bound)), (h0_6, .inl (cI, 2000, .inl s0_work)), (h0_7, .inl (cI, 2000, .inl s0_answers))] := hD
  have hl := lv_entry ([.ref h0]) (n := 4) (Nat.le_of_ble_eq_true rfl)
  rw [lg_entry_eq]
  generalize (lg_sl ([.ref h0]) ++ List.replicate (4 - (lg_sl ([.ref h0])).length) Slot.unset).toArray = ls at hl ⊢
  have hl : lv_has ls 4 [(0, .ref h0)] := hl
  have hinX8 : ∀ w ∈ u_ws RX8 TX8 14, w ∈ wsX8_goesThrough := by decide +kernel
  refine lv_aload_n hx hb dX8_goesThrough_0 rfl (lv_at hl 0 rfl) ?_
  refine lv_iconst (v := (0 : Int32)) hx hb dX8_goesThrough_1 (by decide) ?_
  refine va_put (D := (dC, dI)) (ci := 8) (v := .int (0 : Int32)) (ty := .int) (C := RX8) (T := TX8) (N := 14) hx hb hts (hinX8) tyX8 tyX8_ok nmX8 hown hK hP hD hS 0 rfl rfl 8 (by decide) (hts (.fieldLink RX8 86 "TripleJoinsModel" "found" "I") (by decide +kernel)) (fun _ h9 => h9) rfl (by decide +kernel) rfl rfl (Nat.le_of_ble_eq_true rfl) dX8_goesThrough_2 (fun H locs hP hD hS => ?_)
  have hP : va_P (dC, dI) vwCl [(h0, .inr (8, [.int s0_terms, .ref h0_1, .ref h0_2, .int s0_triples, .ref h0_3, .int s0_patterns, .ref h0_4, .ref h0_5, .int (0 : Int32), .ref h0_6, .int s0_kept, .int s0_keptVariables, .ref h0_7, .int s0_thrown])), (h0_1, .inl (cI, 100, .inl s0_number)), (h0_2, .inl (cI, 40, .inl s0_term)), (h0_3, .inl (cI, 180, .inl s0_store)), (h0_4, .inl (cI, 9, .inl s0_query)), (h0_5, .inl (cI, 16, .inl s0_bound)), (h0_6, .inl (cI, 2000, .inl s0_work)), (h0_7, .inl (cI, 2000, .inl s0_answers))] _ := hP
  have hD : va_D A [(h0, .inr (8, [.int s0_terms, .ref h0_1, .ref h0_2, .int s0_triples, .ref h0_3, .int s0_patterns, .ref h0_4, .ref h0_5, .int (0 : Int32), .ref h0_6, .int s0_kept, .int s0_keptVariables, .ref h0_7, .int s0_thrown])), (h0_1, .inl (cI, 100, .inl s0_number)), (h0_2, .inl (cI, 40, .inl s0_term)), (h0_3, .inl (cI, 180, .inl s0_store)), (h0_4, .inl (cI, 9, .inl s0_query)), (h0_5, .inl (cI, 16, .inl s0_bound)), (h0_6, .inl (cI, 2000, .inl s0_work)), (h0_7, .inl (cI, 2000, .inl s0_answers))] := hD
  refine lv_aload_n hx hb dX8_goesThrough_5 rfl (lv_at hl 0 rfl) ?_
  have hPc := hP.sub (ws' := [(h0, .inr (8, [.int s0_terms, .ref h0_1, .ref h0_2, .int s0_triples, .ref h0_3, .int s0_patterns, .ref h0_4, .ref h0_5, .int (0 : Int32), .ref h0_6, .int s0_kept, .int s0_keptVariables, .ref h0_7, .int s0_thrown])), (h0_1, .inl (cI, 100, .inl s0_number)), (h0_2, .inl (cI, 40, .inl s0_term)), (h0_3, .inl (cI, 180, .inl s0_store)), (h0_4, .inl (cI, 9, .inl s0_query)), (h0_5, .inl (cI, 16, .inl s0_bound)), (h0_6, .inl (cI, 2000, .inl s0_work)), (h0_7, .inl (cI, 2000, .inl s0_answers))]) [0, 1, 2, 3, 4, 5, 6, 7] rfl
  have hDc := hD.sub (ws' := [(h0, .inr (8, [.int s0_terms, .ref h0_1, .ref h0_2, .int s0_triples, .ref h0_3, .int s0_patterns, .ref h0_4, .ref h0_5, .int (0 : Int32), .ref h0_6, .int s0_kept, .int s0_keptVariables, .ref h0_7, .int s0_thrown])), (h0_1, .inl (cI, 100, .inl s0_number)), (h0_2, .inl (cI, 40, .inl s0_term)), (h0_3, .inl (cI, 180, .inl s0_store)), (h0_4, .inl (cI, 9, .inl s0_query)), (h0_5, .inl (cI, 16, .inl s0_bound)), (h0_6, .inl (cI, 2000, .inl s0_work)), (h0_7, .inl (cI, 2000, .inl s0_answers))]) [0, 1, 2, 3, 4, 5, 6, 7] (by decide) rfl
  have hFc := va_free (wc := [(h0, .inr (8, [.int s0_terms, .ref h0_1, .ref h0_2, .int s0_triples, .ref h0_3, .int s0_patterns, .ref h0_4, .ref h0_5, .int (0 : Int32), .ref h0_6, .int s0_kept, .int s0_keptVariables, .ref h0_7, .int s0_thrown])), (h0_1, .inl (cI, 100, .inl s0_number)), (h0_2, .inl (cI, 40, .inl s0_term)), (h0_3, .inl (cI, 180, .inl s0_store)), (h0_4, .inl (cI, 9, .inl s0_query)), (h0_5, .inl (cI, 16, .inl s0_bound)), (h0_6, .inl (cI, 2000, .inl s0_work)), (h0_7, .inl (cI, 2000, .inl s0_answers))]) hD hS hA [0, 1, 2, 3, 4, 5, 6, 7] rfl
  refine va_callv (va_runV (As := []) (rest := []) ⟨hx, hb, hml, hown, hts⟩ (c_X8_frees l dC dI cI h0 h0_1 h0_2 h0_3 h0_4 h0_5 h0_6 h0_7 _ (s0_terms, s0_number, s0_term, s0_triples, s0_store, s0_patterns, s0_query, s0_bound, (0 : Int32), s0_work, s0_kept, s0_keptVariables, s0_answers, s0_thrown) _ h) (cwV 0 hts gX8_goesThrough_X8_frees rfl rfl rfl (by decide +kernel) ⟨Nat.le_of_ble_eq_true rfl, Nat.le_of_ble_eq_true rfl⟩) (pb_V hPc hK hDc hN (ci := 8) (q0 := 0) rfl rfl) rfl rfl hl.1 rfl (lv_room (Nat.le_of_ble_eq_true rfl)) dX8_goesThrough_6 ⟨Nat.zero_le _, Nat.zero_le _⟩) hS (fun q _ h => hFc q h) hFc (fun u_1 t H locs ht hvm h hB hz1 hk1 hS => ?_)
  obtain ⟨u_1_terms, u_1_number, u_1_term, u_1_triples, u_1_store, u_1_patterns, u_1_query, u_1_bound, u_1_found, u_1_work, u_1_kept, u_1_keptVariables, u_1_answers, u_1_thrown⟩ := u_1
  obtain ⟨hP1, hD1⟩ := hB
  rw [ht] at hP1
  obtain ⟨hP, hD⟩ := cl_join (wr := []) (w1 := [(h0, .inr (8, [.int u_1_terms, .ref h0_1, .ref h0_2, .int u_1_triples, .ref h0_3, .int u_1_patterns, .ref h0_4, .ref h0_5, .int u_1_found, .ref h0_6, .int u_1_kept, .int u_1_keptVariables, .ref h0_7, .int u_1_thrown])), (h0_1, .inl (cI, 100, .inl u_1_number)), (h0_2, .inl (cI, 40, .inl u_1_term)), (h0_3, .inl (cI, 180, .inl u_1_store)), (h0_4, .inl (cI, 9, .inl u_1_query)), (h0_5, .inl (cI, 16, .inl u_1_bound)), (h0_6, .inl (cI, 2000, .inl u_1_work)), (h0_7, .inl (cI, 2000, .inl u_1_answers))]) (ws' := [(h0, .inr (8, [.int u_1_terms, .ref h0_1, .ref h0_2, .int u_1_triples, .ref h0_3, .int u_1_patterns, .ref h0_4, .ref h0_5, .int u_1_found, .ref h0_6, .int u_1_kept, .int u_1_keptVariables, .ref h0_7, .int u_1_thrown])), (h0_1, .inl (cI, 100, .inl u_1_number)), (h0_2, .inl (cI, 40, .inl u_1_term)), (h0_3, .inl (cI, 180, .inl u_1_store)), (h0_4, .inl (cI, 9, .inl u_1_query)), (h0_5, .inl (cI, 16, .inl u_1_bound)), (h0_6, .inl (cI, 2000, .inl u_1_work)), (h0_7, .inl (cI, 2000, .inl u_1_answers))]) hP hD [0, 1, 2, 3, 4, 5, 6, 7] [] [0, 1, 2, 3, 4, 5, 6, 7] rfl rfl (by decide) (by decide) (by decide) rfl hk1 hFc hP1 hD1
  refine lv_iconst (v := (0 : Int32)) hx hb dX8_goesThrough_9 (by decide) ?_
  refine lv_istore_n (lv' := [(1, .int (0 : Int32)), (0, .ref h0)]) hx hb dX8_goesThrough_10 rfl hl (by decide) rfl (fun ls hl => ?_)
  have hl : lv_has ls 4 [(0, .ref h0), (1, .int (0 : Int32))] := lv_sub hl [1, 0] rfl
  obtain ⟨I_3, hI_3, n_3, h⟩ := h
  have loop_3 : ∀ (n_3 : Nat) (v1_4 : Int32) (s0_5_terms : Int32) (s0_5_number : Nat → Int32) (s0_5_term : Nat → Int32) (s0_5_triples : Int32) (s0_5_store : Nat → Int32) (s0_5_patterns : Int32) (s0_5_query : Nat → Int32) (s0_5_bound : Nat → Int32) (s0_5_found : Int32) (s0_5_work : Nat → Int32) (s0_5_kept : Int32) (s0_5_keptVariables : Int32) (s0_5_answers : Nat → Int32) (s0_5_thrown : Int32) (h : I_3 n_3 (v1_4, (s0_5_terms, s0_5_number, s0_5_term, s0_5_triples, s0_5_store, s0_5_patterns, s0_5_query, s0_5_bound, s0_5_found, s0_5_work, s0_5_kept, s0_5_keptVariables, s0_5_answers, s0_5_thrown))) (H : Heap) (locs : List Loc) (hP : va_P (dC, dI) vwCl [(h0, .inr (8, [.int s0_5_terms, .ref h0_1, .ref h0_2, .int s0_5_triples, .ref h0_3, .int s0_5_patterns, .ref h0_4, .ref h0_5, .int s0_5_found, .ref h0_6, .int s0_5_kept, .int s0_5_keptVariables, .ref h0_7, .int s0_5_thrown])), (h0_1, .inl (cI, 100, .inl s0_5_number)), (h0_2, .inl (cI, 40, .inl s0_5_term)), (h0_3, .inl (cI, 180, .inl s0_5_store)), (h0_4, .inl (cI, 9, .inl s0_5_query)), (h0_5, .inl (cI, 16, .inl s0_5_bound)), (h0_6, .inl (cI, 2000, .inl s0_5_work)), (h0_7, .inl (cI, 2000, .inl s0_5_answers))] H) (hD : va_D A [(h0, .inr (8, [.int s0_5_terms, .ref h0_1, .ref h0_2, .int s0_5_triples, .ref h0_3, .int s0_5_patterns, .ref h0_4, .ref h0_5, .int s0_5_found, .ref h0_6, .int s0_5_kept, .int s0_5_keptVariables, .ref h0_7, .int s0_5_thrown])), (h0_1, .inl (cI, 100, .inl s0_5_number)), (h0_2, .inl (cI, 40, .inl s0_5_term)), (h0_3, .inl (cI, 180, .inl s0_5_store)), (h0_4, .inl (cI, 9, .inl s0_5_query)), (h0_5, .inl (cI, 16, .inl s0_5_bound)), (h0_6, .inl (cI, 2000, .inl s0_5_work)), (h0_7, .inl (cI, 2000, .inl s0_5_answers))]) (hS : va_S A s.heap H locs) (ls : Array Slot) (hl : lv_has ls 4 [(0, .ref h0), (1, .int v1_4)]), W p l e rm_X8_goesThrough s m ([.ref h0] : List Value).toArray below meth c H locs 0 0 (MQ below (Q_X8_goesThrough dC dI cI h0 h0_1 h0_2 h0_3 h0_4 h0_5 h0_6 h0_7 (s0_terms, s0_number, s0_term, s0_triples, s0_store, s0_patterns, s0_query, s0_bound, s0_found, s0_work, s0_kept, s0_keptVariables, s0_answers, s0_thrown) A post) (([.ref h0] : List Value).toArray) s 0 0 A) (F0 m 11 ls []) := by
    intro n_3
    induction n_3 using Nat.strongRecOn with
    | ind n_3 ih_3 =>
      intro v1_4 s0_5_terms s0_5_number s0_5_term s0_5_triples s0_5_store s0_5_patterns s0_5_query s0_5_bound s0_5_found s0_5_work s0_5_kept s0_5_keptVariables s0_5_answers s0_5_thrown h H locs hP hD hS ls hl
      have h := hI_3 n_3 _ h
      have lab_42 : ∀ (s0_6_terms : Int32) (s0_6_number : Nat → Int32) (s0_6_term : Nat → Int32) (s0_6_triples : Int32) (s0_6_store : Nat → Int32) (s0_6_patterns : Int32) (s0_6_query : Nat → Int32) (s0_6_bound : Nat → Int32) (s0_6_found : Int32) (s0_6_work : Nat → Int32) (s0_6_kept : Int32) (s0_6_keptVariables : Int32) (s0_6_answers : Nat → Int32) (s0_6_thrown : Int32) (v1_7 : Int32) (h : P_X8_goesThrough_j42 (s0_6_terms, s0_6_number, s0_6_term, s0_6_triples, s0_6_store, s0_6_patterns, s0_6_query, s0_6_bound, s0_6_found, s0_6_work, s0_6_kept, s0_6_keptVariables, s0_6_answers, s0_6_thrown) v1_7 (fun w => ∃ k, k < n_3 ∧ I_3 k w) post) (H : Heap) (locs : List Loc) (hP : va_P (dC, dI) vwCl [(h0, .inr (8, [.int s0_6_terms, .ref h0_1, .ref h0_2, .int s0_6_triples, .ref h0_3, .int s0_6_patterns, .ref h0_4, .ref h0_5, .int s0_6_found, .ref h0_6, .int s0_6_kept, .int s0_6_keptVariables, .ref h0_7, .int s0_6_thrown])), (h0_1, .inl (cI, 100, .inl s0_6_number)), (h0_2, .inl (cI, 40, .inl s0_6_term)), (h0_3, .inl (cI, 180, .inl s0_6_store)), (h0_4, .inl (cI, 9, .inl s0_6_query)), (h0_5, .inl (cI, 16, .inl s0_6_bound)), (h0_6, .inl (cI, 2000, .inl s0_6_work)), (h0_7, .inl (cI, 2000, .inl s0_6_answers))] H) (hD : va_D A [(h0, .inr (8, [.int s0_6_terms, .ref h0_1, .ref h0_2, .int s0_6_triples, .ref h0_3, .int s0_6_patterns, .ref h0_4, .ref h0_5, .int s0_6_found, .ref h0_6, .int s0_6_kept, .int s0_6_keptVariables, .ref h0_7, .int s0_6_thrown])), (h0_1, .inl (cI, 100, .inl s0_6_number)), (h0_2, .inl (cI, 40, .inl s0_6_term)), (h0_3, .inl (cI, 180, .inl s0_6_store)), (h0_4, .inl (cI, 9, .inl s0_6_query)), (h0_5, .inl (cI, 16, .inl s0_6_bound)), (h0_6, .inl (cI, 2000, .inl s0_6_work)), (h0_7, .inl (cI, 2000, .inl s0_6_answers))]) (hS : va_S A s.heap H locs) (ls : Array Slot) (hl : lv_has ls 4 [(0, .ref h0), (1, .int v1_7)]), W p l e rm_X8_goesThrough s m ([.ref h0] : List Value).toArray below meth c H locs 0 0 (MQ below (Q_X8_goesThrough dC dI cI h0 h0_1 h0_2 h0_3 h0_4 h0_5 h0_6 h0_7 (s0_terms, s0_number, s0_term, s0_triples, s0_store, s0_patterns, s0_query, s0_bound, s0_found, s0_work, s0_kept, s0_keptVariables, s0_answers, s0_thrown) A post) (([.ref h0] : List Value).toArray) s 0 0 A) (F0 m 42 ls []) := by
        intro s0_6_terms s0_6_number s0_6_term s0_6_triples s0_6_store s0_6_patterns s0_6_query s0_6_bound s0_6_found s0_6_work s0_6_kept s0_6_keptVariables s0_6_answers s0_6_thrown v1_7 h H locs hP hD hS ls hl
        refine lv_iconst (v := (0 : Int32)) hx hb dX8_goesThrough_42 (by decide) ?_
        refine lv_istore_n (lv' := [(2, .int (0 : Int32)), (0, .ref h0), (1, .int v1_7)]) hx hb dX8_goesThrough_43 rfl hl (by decide) rfl (fun ls hl => ?_)
        have hl : lv_has ls 4 [(0, .ref h0), (1, .int v1_7), (2, .int (0 : Int32))] := lv_sub hl [1, 2, 0] rfl
        obtain ⟨I_8, hI_8, n_8, h⟩ := h
        have loop_8 : ∀ (n_8 : Nat) (v2_9 : Int32) (s0_10_terms : Int32) (s0_10_number : Nat → Int32) (s0_10_term : Nat → Int32) (s0_10_triples : Int32) (s0_10_store : Nat → Int32) (s0_10_patterns : Int32) (s0_10_query : Nat → Int32) (s0_10_bound : Nat → Int32) (s0_10_found : Int32) (s0_10_work : Nat → Int32) (s0_10_kept : Int32) (s0_10_keptVariables : Int32) (s0_10_answers : Nat → Int32) (s0_10_thrown : Int32) (h : I_8 n_8 (v2_9, (s0_10_terms, s0_10_number, s0_10_term, s0_10_triples, s0_10_store, s0_10_patterns, s0_10_query, s0_10_bound, s0_10_found, s0_10_work, s0_10_kept, s0_10_keptVariables, s0_10_answers, s0_10_thrown))) (H : Heap) (locs : List Loc) (hP : va_P (dC, dI) vwCl [(h0, .inr (8, [.int s0_10_terms, .ref h0_1, .ref h0_2, .int s0_10_triples, .ref h0_3, .int s0_10_patterns, .ref h0_4, .ref h0_5, .int s0_10_found, .ref h0_6, .int s0_10_kept, .int s0_10_keptVariables, .ref h0_7, .int s0_10_thrown])), (h0_1, .inl (cI, 100, .inl s0_10_number)), (h0_2, .inl (cI, 40, .inl s0_10_term)), (h0_3, .inl (cI, 180, .inl s0_10_store)), (h0_4, .inl (cI, 9, .inl s0_10_query)), (h0_5, .inl (cI, 16, .inl s0_10_bound)), (h0_6, .inl (cI, 2000, .inl s0_10_work)), (h0_7, .inl (cI, 2000, .inl s0_10_answers))] H) (hD : va_D A [(h0, .inr (8, [.int s0_10_terms, .ref h0_1, .ref h0_2, .int s0_10_triples, .ref h0_3, .int s0_10_patterns, .ref h0_4, .ref h0_5, .int s0_10_found, .ref h0_6, .int s0_10_kept, .int s0_10_keptVariables, .ref h0_7, .int s0_10_thrown])), (h0_1, .inl (cI, 100, .inl s0_10_number)), (h0_2, .inl (cI, 40, .inl s0_10_term)), (h0_3, .inl (cI, 180, .inl s0_10_store)), (h0_4, .inl (cI, 9, .inl s0_10_query)), (h0_5, .inl (cI, 16, .inl s0_10_bound)), (h0_6, .inl (cI, 2000, .inl s0_10_work)), (h0_7, .inl (cI, 2000, .inl s0_10_answers))]) (hS : va_S A s.heap H locs) (ls : Array Slot) (hl : lv_has ls 4 [(0, .ref h0), (1, .int v1_7), (2, .int v2_9)]), W p l e rm_X8_goesThrough s m ([.ref h0] : List Value).toArray below meth c H locs 0 0 (MQ below (Q_X8_goesThrough dC dI cI h0 h0_1 h0_2 h0_3 h0_4 h0_5 h0_6 h0_7 (s0_terms, s0_number, s0_term, s0_triples, s0_store, s0_patterns, s0_query, s0_bound, s0_found, s0_work, s0_kept, s0_keptVariables, s0_answers, s0_thrown) A post) (([.ref h0] : List Value).toArray) s 0 0 A) (F0 m 44 ls []) := by
          intro n_8
          induction n_8 using Nat.strongRecOn with
          | ind n_8 ih_8 =>
            intro v2_9 s0_10_terms s0_10_number s0_10_term s0_10_triples s0_10_store s0_10_patterns s0_10_query s0_10_bound s0_10_found s0_10_work s0_10_kept s0_10_keptVariables s0_10_answers s0_10_thrown h H locs hP hD hS ls hl
            have h := hI_8 n_8 _ h
            have lab_83 : ∀ (s0_11_terms : Int32) (s0_11_number : Nat → Int32) (s0_11_term : Nat → Int32) (s0_11_triples : Int32) (s0_11_store : Nat → Int32) (s0_11_patterns : Int32) (s0_11_query : Nat → Int32) (s0_11_bound : Nat → Int32) (s0_11_found : Int32) (s0_11_work : Nat → Int32) (s0_11_kept : Int32) (s0_11_keptVariables : Int32) (s0_11_answers : Nat → Int32) (s0_11_thrown : Int32) (v2_12 : Int32) (h : P_X8_goesThrough_j83 (s0_11_terms, s0_11_number, s0_11_term, s0_11_triples, s0_11_store, s0_11_patterns, s0_11_query, s0_11_bound, s0_11_found, s0_11_work, s0_11_kept, s0_11_keptVariables, s0_11_answers, s0_11_thrown) v1_7 v2_12 (fun w => ∃ k, k < n_3 ∧ I_3 k w) (fun w => ∃ k, k < n_8 ∧ I_8 k w) post) (H : Heap) (locs : List Loc) (hP : va_P (dC, dI) vwCl [(h0, .inr (8, [.int s0_11_terms, .ref h0_1, .ref h0_2, .int s0_11_triples, .ref h0_3, .int s0_11_patterns, .ref h0_4, .ref h0_5, .int s0_11_found, .ref h0_6, .int s0_11_kept, .int s0_11_keptVariables, .ref h0_7, .int s0_11_thrown])), (h0_1, .inl (cI, 100, .inl s0_11_number)), (h0_2, .inl (cI, 40, .inl s0_11_term)), (h0_3, .inl (cI, 180, .inl s0_11_store)), (h0_4, .inl (cI, 9, .inl s0_11_query)), (h0_5, .inl (cI, 16, .inl s0_11_bound)), (h0_6, .inl (cI, 2000, .inl s0_11_work)), (h0_7, .inl (cI, 2000, .inl s0_11_answers))] H) (hD : va_D A [(h0, .inr (8, [.int s0_11_terms, .ref h0_1, .ref h0_2, .int s0_11_triples, .ref h0_3, .int s0_11_patterns, .ref h0_4, .ref h0_5, .int s0_11_found, .ref h0_6, .int s0_11_kept, .int s0_11_keptVariables, .ref h0_7, .int s0_11_thrown])), (h0_1, .inl (cI, 100, .inl s0_11_number)), (h0_2, .inl (cI, 40, .inl s0_11_term)), (h0_3, .inl (cI, 180, .inl s0_11_store)), (h0_4, .inl (cI, 9, .inl s0_11_query)), (h0_5, .inl (cI, 16, .inl s0_11_bound)), (h0_6, .inl (cI, 2000, .inl s0_11_work)), (h0_7, .inl (cI, 2000, .inl s0_11_answers))]) (hS : va_S A s.heap H locs) (ls : Array Slot) (hl : lv_has ls 4 [(0, .ref h0), (1, .int v1_7), (2, .int v2_12)]), W p l e rm_X8_goesThrough s m ([.ref h0] : List Value).toArray below meth c H locs 0 0 (MQ below (Q_X8_goesThrough dC dI cI h0 h0_1 h0_2 h0_3 h0_4 h0_5 h0_6 h0_7 (s0_terms, s0_number, s0_term, s0_triples, s0_store, s0_patterns, s0_query, s0_bound, s0_found, s0_work, s0_kept, s0_keptVariables, s0_answers, s0_thrown) A post) (([.ref h0] : List Value).toArray) s 0 0 A) (F0 m 83 ls []) := by
              intro s0_11_terms s0_11_number s0_11_term s0_11_triples s0_11_store s0_11_patterns s0_11_query s0_11_bound s0_11_found s0_11_work s0_11_kept s0_11_keptVariables s0_11_answers s0_11_thrown v2_12 h H locs hP hD hS ls hl
              refine lv_iconst (v := (0 : Int32)) hx hb dX8_goesThrough_83 (by decide) ?_
              refine lv_istore_n (lv' := [(3, .int (0 : Int32)), (0, .ref h0), (1, .int v1_7), (2, .int v2_12)]) hx hb dX8_goesThrough_84 rfl hl (by decide) rfl (fun ls hl => ?_)
              have hl : lv_has ls 4 [(0, .ref h0), (1, .int v1_7), (2, .int v2_12), (3, .int (0 : Int32))] := lv_sub hl [1, 2, 3, 0] rfl
              obtain ⟨I_13, hI_13, n_13, h⟩ := h
              have loop_13 : ∀ (n_13 : Nat) (v3_14 : Int32) (s0_15_terms : Int32) (s0_15_number : Nat → Int32) (s0_15_term : Nat → Int32) (s0_15_triples : Int32) (s0_15_store : Nat → Int32) (s0_15_patterns : Int32) (s0_15_query : Nat → Int32) (s0_15_bound : Nat → Int32) (s0_15_found : Int32) (s0_15_work : Nat → Int32) (s0_15_kept : Int32) (s0_15_keptVariables : Int32) (s0_15_answers : Nat → Int32) (s0_15_thrown : Int32) (h : I_13 n_13 (v3_14, (s0_15_terms, s0_15_number, s0_15_term, s0_15_triples, s0_15_store, s0_15_patterns, s0_15_query, s0_15_bound, s0_15_found, s0_15_work, s0_15_kept, s0_15_keptVariables, s0_15_answers, s0_15_thrown))) (H : Heap) (locs : List Loc) (hP : va_P (dC, dI) vwCl [(h0, .inr (8, [.int s0_15_terms, .ref h0_1, .ref h0_2, .int s0_15_triples, .ref h0_3, .int s0_15_patterns, .ref h0_4, .ref h0_5, .int s0_15_found, .ref h0_6, .int s0_15_kept, .int s0_15_keptVariables, .ref h0_7, .int s0_15_thrown])), (h0_1, .inl (cI, 100, .inl s0_15_number)), (h0_2, .inl (cI, 40, .inl s0_15_term)), (h0_3, .inl (cI, 180, .inl s0_15_store)), (h0_4, .inl (cI, 9, .inl s0_15_query)), (h0_5, .inl (cI, 16, .inl s0_15_bound)), (h0_6, .inl (cI, 2000, .inl s0_15_work)), (h0_7, .inl (cI, 2000, .inl s0_15_answers))] H) (hD : va_D A [(h0, .inr (8, [.int s0_15_terms, .ref h0_1, .ref h0_2, .int s0_15_triples, .ref h0_3, .int s0_15_patterns, .ref h0_4, .ref h0_5, .int s0_15_found, .ref h0_6, .int s0_15_kept, .int s0_15_keptVariables, .ref h0_7, .int s0_15_thrown])), (h0_1, .inl (cI, 100, .inl s0_15_number)), (h0_2, .inl (cI, 40, .inl s0_15_term)), (h0_3, .inl (cI, 180, .inl s0_15_store)), (h0_4, .inl (cI, 9, .inl s0_15_query)), (h0_5, .inl (cI, 16, .inl s0_15_bound)), (h0_6, .inl (cI, 2000, .inl s0_15_work)), (h0_7, .inl (cI, 2000, .inl s0_15_answers))]) (hS : va_S A s.heap H locs) (ls : Array Slot) (hl : lv_has ls 4 [(0, .ref h0), (1, .int v1_7), (2, .int v2_12), (3, .int v3_14)]), W p l e rm_X8_goesThrough s m ([.ref h0] : List Value).toArray below meth c H locs 0 0 (MQ below (Q_X8_goesThrough dC dI cI h0 h0_1 h0_2 h0_3 h0_4 h0_5 h0_6 h0_7 (s0_terms, s0_number, s0_term, s0_triples, s0_store, s0_patterns, s0_query, s0_bound, s0_found, s0_work, s0_kept, s0_keptVariables, s0_answers, s0_thrown) A post) (([.ref h0] : List Value).toArray) s 0 0 A) (F0 m 85 ls []) := by
                intro n_13
                induction n_13 using Nat.strongRecOn with
                | ind n_13 ih_13 =>
                  intro v3_14 s0_15_terms s0_15_number s0_15_term s0_15_triples s0_15_store s0_15_patterns s0_15_query s0_15_bound s0_15_found s0_15_work s0_15_kept s0_15_keptVariables s0_15_answers s0_15_thrown h H locs hP hD hS ls hl
                  have h := hI_13 n_13 _ h
                  refine lv_iload_n hx hb dX8_goesThrough_85 rfl (lv_at hl 3 rfl) ?_
                  refine lv_aload_n hx hb dX8_goesThrough_86 rfl (lv_at hl 0 rfl) ?_
                  refine va_get (D := (dC, dI)) (ci := 8) (v := .int s0_15_triples) (C := RX8) (T := TX8) (N := 14) hx hb hts (hinX8) hown hK hP 0 rfl rfl 3 (by decide) (hts (.fieldLink RX8 39 "TripleJoinsModel" "triples" "I") (by decide +kernel)) (fun _ h9 => h9) rfl dX8_goesThrough_87 ?_
                  obtain ⟨ht_, hf_⟩ := h
                  refine lv_icmp_ge (tgt := 122) hx hb dX8_goesThrough_90 (by decide) (fun c_16 => ?_) (fun c_16 => ?_)
                  · have h := ht_ c_16
                    refine lv_iinc (v := (v2_12 + (1 : Int32))) (lv' := [(2, .int (v2_12 + (1 : Int32))), (0, .ref h0), (1, .int v1_7), (3, .int v3_14)]) hx hb dX8_goesThrough_122 hl (k := 2) rfl rfl (by decide) rfl (fun ls hl => ?_)
                    refine lv_goto (tgt := 44) hx hb dX8_goesThrough_125 (by decide) ?_
                    have hl : lv_has ls 4 [(0, .ref h0), (1, .int v1_7), (2, .int (v2_12 + (1 : Int32)))] := lv_sub hl [1, 2, 0] rfl
                    obtain ⟨k_17, hk_18, h⟩ := h
                    exact ih_8 k_17 hk_18 (v2_12 + (1 : Int32)) s0_15_terms s0_15_number s0_15_term s0_15_triples s0_15_store s0_15_patterns s0_15_query s0_15_bound s0_15_found s0_15_work s0_15_kept s0_15_keptVariables s0_15_answers s0_15_thrown h _ _ hP hD hS _ hl
                  · have h := hf_ c_16
                    refine lv_aload_n hx hb dX8_goesThrough_93 rfl (lv_at hl 0 rfl) ?_
                    refine va_get (D := (dC, dI)) (ci := 8) (v := .int s0_15_patterns) (C := RX8) (T := TX8) (N := 14) hx hb hts (hinX8) hown hK hP 0 rfl rfl 5 (by decide) (hts (.fieldLink RX8 67 "TripleJoinsModel" "patterns" "I") (by decide +kernel)) (fun _ h9 => h9) rfl dX8_goesThrough_94 ?_
                    refine lv_iconst (v := (2 : Int32)) hx hb dX8_goesThrough_97 (by decide) ?_
                    obtain ⟨ht_, hf_⟩ := h
                    refine lv_icmp_le (tgt := 122) hx hb dX8_goesThrough_98 (by decide) (fun c_19 => ?_) (fun c_19 => ?_)
                    · have h := ht_ c_19
                      refine lv_iinc (v := (v2_12 + (1 : Int32))) (lv' := [(2, .int (v2_12 + (1 : Int32))), (0, .ref h0), (1, .int v1_7), (3, .int v3_14)]) hx hb dX8_goesThrough_122 hl (k := 2) rfl rfl (by decide) rfl (fun ls hl => ?_)
                      refine lv_goto (tgt := 44) hx hb dX8_goesThrough_125 (by decide) ?_
                      have hl : lv_has ls 4 [(0, .ref h0), (1, .int v1_7), (2, .int (v2_12 + (1 : Int32)))] := lv_sub hl [1, 2, 0] rfl
                      obtain ⟨k_20, hk_21, h⟩ := h
                      exact ih_8 k_20 hk_21 (v2_12 + (1 : Int32)) s0_15_terms s0_15_number s0_15_term s0_15_triples s0_15_store s0_15_patterns s0_15_query s0_15_bound s0_15_found s0_15_work s0_15_kept s0_15_keptVariables s0_15_answers s0_15_thrown h _ _ hP hD hS _ hl
                    · have h := hf_ c_19
                      refine lv_aload_n hx hb dX8_goesThrough_101 rfl (lv_at hl 0 rfl) ?_
                      refine lv_iconst (v := (2 : Int32)) hx hb dX8_goesThrough_102 (by decide) ?_
                      refine lv_iconst (v := (2 : Int32)) hx hb dX8_goesThrough_103 (by decide) ?_
                      refine lv_iload_n hx hb dX8_goesThrough_104 rfl (lv_at hl 3 rfl) ?_
                      have hPc := hP.sub (ws' := [(h0, .inr (8, [.int s0_15_terms, .ref h0_1, .ref h0_2, .int s0_15_triples, .ref h0_3, .int s0_15_patterns, .ref h0_4, .ref h0_5, .int s0_15_found, .ref h0_6, .int s0_15_kept, .int s0_15_keptVariables, .ref h0_7, .int s0_15_thrown])), (h0_1, .inl (cI, 100, .inl s0_15_number)), (h0_2, .inl (cI, 40, .inl s0_15_term)), (h0_3, .inl (cI, 180, .inl s0_15_store)), (h0_4, .inl (cI, 9, .inl s0_15_query)), (h0_5, .inl (cI, 16, .inl s0_15_bound)), (h0_6, .inl (cI, 2000, .inl s0_15_work)), (h0_7, .inl (cI, 2000, .inl s0_15_answers))]) [0, 1, 2, 3, 4, 5, 6, 7] rfl
                      have hDc := hD.sub (ws' := [(h0, .inr (8, [.int s0_15_terms, .ref h0_1, .ref h0_2, .int s0_15_triples, .ref h0_3, .int s0_15_patterns, .ref h0_4, .ref h0_5, .int s0_15_found, .ref h0_6, .int s0_15_kept, .int s0_15_keptVariables, .ref h0_7, .int s0_15_thrown])), (h0_1, .inl (cI, 100, .inl s0_15_number)), (h0_2, .inl (cI, 40, .inl s0_15_term)), (h0_3, .inl (cI, 180, .inl s0_15_store)), (h0_4, .inl (cI, 9, .inl s0_15_query)), (h0_5, .inl (cI, 16, .inl s0_15_bound)), (h0_6, .inl (cI, 2000, .inl s0_15_work)), (h0_7, .inl (cI, 2000, .inl s0_15_answers))]) [0, 1, 2, 3, 4, 5, 6, 7] (by decide) rfl
                      have hFc := va_free (wc := [(h0, .inr (8, [.int s0_15_terms, .ref h0_1, .ref h0_2, .int s0_15_triples, .ref h0_3, .int s0_15_patterns, .ref h0_4, .ref h0_5, .int s0_15_found, .ref h0_6, .int s0_15_kept, .int s0_15_keptVariables, .ref h0_7, .int s0_15_thrown])), (h0_1, .inl (cI, 100, .inl s0_15_number)), (h0_2, .inl (cI, 40, .inl s0_15_term)), (h0_3, .inl (cI, 180, .inl s0_15_store)), (h0_4, .inl (cI, 9, .inl s0_15_query)), (h0_5, .inl (cI, 16, .inl s0_15_bound)), (h0_6, .inl (cI, 2000, .inl s0_15_work)), (h0_7, .inl (cI, 2000, .inl s0_15_answers))]) hD hS hA [0, 1, 2, 3, 4, 5, 6, 7] rfl
                      refine va_calli (va_runV (As := [.int (2 : Int32), .int (2 : Int32), .int v3_14]) (rest := []) ⟨hx, hb, hml, hown, hts⟩ (c_X8_tries l dC dI cI h0 h0_1 h0_2 h0_3 h0_4 h0_5 h0_6 h0_7 _ (s0_15_terms, s0_15_number, s0_15_term, s0_15_triples, s0_15_store, s0_15_patterns, s0_15_query, s0_15_bound, s0_15_found, s0_15_work, s0_15_kept, s0_15_keptVariables, s0_15_answers, s0_15_thrown) (2 : Int32) (2 : Int32) v3_14 _ h) (cwV 3 hts gX8_goesThrough_X8_tries rfl rfl rfl (by decide +kernel) ⟨Nat.le_of_ble_eq_true rfl, Nat.le_of_ble_eq_true rfl⟩) (pb_V hPc hK hDc hN (ci := 8) (q0 := 0) rfl rfl) rfl rfl hl.1 rfl (lv_room (Nat.le_of_ble_eq_true rfl)) dX8_goesThrough_105 ⟨Nat.zero_le _, Nat.zero_le _⟩) hS (fun q _ h => hFc q h) hFc (fun r_23 u_22 t H locs ht hvm h hB hz1 hk1 hS => ?_)
                      obtain ⟨u_22_terms, u_22_number, u_22_term, u_22_triples, u_22_store, u_22_patterns, u_22_query, u_22_bound, u_22_found, u_22_work, u_22_kept, u_22_keptVariables, u_22_answers, u_22_thrown⟩ := u_22
                      obtain ⟨hP1, hD1⟩ := hB
                      rw [ht] at hP1
                      obtain ⟨hP, hD⟩ := cl_join (wr := []) (w1 := [(h0, .inr (8, [.int u_22_terms, .ref h0_1, .ref h0_2, .int u_22_triples, .ref h0_3, .int u_22_patterns, .ref h0_4, .ref h0_5, .int u_22_found, .ref h0_6, .int u_22_kept, .int u_22_keptVariables, .ref h0_7, .int u_22_thrown])), (h0_1, .inl (cI, 100, .inl u_22_number)), (h0_2, .inl (cI, 40, .inl u_22_term)), (h0_3, .inl (cI, 180, .inl u_22_store)), (h0_4, .inl (cI, 9, .inl u_22_query)), (h0_5, .inl (cI, 16, .inl u_22_bound)), (h0_6, .inl (cI, 2000, .inl u_22_work)), (h0_7, .inl (cI, 2000, .inl u_22_answers))]) (ws' := [(h0, .inr (8, [.int u_22_terms, .ref h0_1, .ref h0_2, .int u_22_triples, .ref h0_3, .int u_22_patterns, .ref h0_4, .ref h0_5, .int u_22_found, .ref h0_6, .int u_22_kept, .int u_22_keptVariables, .ref h0_7, .int u_22_thrown])), (h0_1, .inl (cI, 100, .inl u_22_number)), (h0_2, .inl (cI, 40, .inl u_22_term)), (h0_3, .inl (cI, 180, .inl u_22_store)), (h0_4, .inl (cI, 9, .inl u_22_query)), (h0_5, .inl (cI, 16, .inl u_22_bound)), (h0_6, .inl (cI, 2000, .inl u_22_work)), (h0_7, .inl (cI, 2000, .inl u_22_answers))]) hP hD [0, 1, 2, 3, 4, 5, 6, 7] [] [0, 1, 2, 3, 4, 5, 6, 7] rfl rfl (by decide) (by decide) (by decide) rfl hk1 hFc hP1 hD1
                      obtain ⟨ht_, hf_⟩ := h
                      refine lv_if_eq (tgt := 116) hx hb dX8_goesThrough_108 (by decide) (fun c_24 => ?_) (fun c_24 => ?_)
                      · have h := ht_ c_24
                        refine lv_iinc (v := (v3_14 + (1 : Int32))) (lv' := [(3, .int (v3_14 + (1 : Int32))), (0, .ref h0), (1, .int v1_7), (2, .int v2_12)]) hx hb dX8_goesThrough_116 hl (k := 3) rfl rfl (by decide) rfl (fun ls hl => ?_)
                        refine lv_goto (tgt := 85) hx hb dX8_goesThrough_119 (by decide) ?_
                        have hl : lv_has ls 4 [(0, .ref h0), (1, .int v1_7), (2, .int v2_12), (3, .int (v3_14 + (1 : Int32)))] := lv_sub hl [1, 2, 3, 0] rfl
                        obtain ⟨k_25, hk_26, h⟩ := h
                        exact ih_13 k_25 hk_26 (v3_14 + (1 : Int32)) u_22_terms u_22_number u_22_term u_22_triples u_22_store u_22_patterns u_22_query u_22_bound u_22_found u_22_work u_22_kept u_22_keptVariables u_22_answers u_22_thrown h _ _ hP hD hS _ hl
                      · have h := hf_ c_24
                        refine lv_aload_n hx hb dX8_goesThrough_111 rfl (lv_at hl 0 rfl) ?_
                        refine lv_iconst (v := (3 : Int32)) hx hb dX8_goesThrough_112 (by decide) ?_
                        have hPc := hP.sub (ws' := [(h0, .inr (8, [.int u_22_terms, .ref h0_1, .ref h0_2, .int u_22_triples, .ref h0_3, .int u_22_patterns, .ref h0_4, .ref h0_5, .int u_22_found, .ref h0_6, .int u_22_kept, .int u_22_keptVariables, .ref h0_7, .int u_22_thrown])), (h0_1, .inl (cI, 100, .inl u_22_number)), (h0_2, .inl (cI, 40, .inl u_22_term)), (h0_3, .inl (cI, 180, .inl u_22_store)), (h0_4, .inl (cI, 9, .inl u_22_query)), (h0_5, .inl (cI, 16, .inl u_22_bound)), (h0_6, .inl (cI, 2000, .inl u_22_work)), (h0_7, .inl (cI, 2000, .inl u_22_answers))]) [0, 1, 2, 3, 4, 5, 6, 7] rfl
                        have hDc := hD.sub (ws' := [(h0, .inr (8, [.int u_22_terms, .ref h0_1, .ref h0_2, .int u_22_triples, .ref h0_3, .int u_22_patterns, .ref h0_4, .ref h0_5, .int u_22_found, .ref h0_6, .int u_22_kept, .int u_22_keptVariables, .ref h0_7, .int u_22_thrown])), (h0_1, .inl (cI, 100, .inl u_22_number)), (h0_2, .inl (cI, 40, .inl u_22_term)), (h0_3, .inl (cI, 180, .inl u_22_store)), (h0_4, .inl (cI, 9, .inl u_22_query)), (h0_5, .inl (cI, 16, .inl u_22_bound)), (h0_6, .inl (cI, 2000, .inl u_22_work)), (h0_7, .inl (cI, 2000, .inl u_22_answers))]) [0, 1, 2, 3, 4, 5, 6, 7] (by decide) rfl
                        have hFc := va_free (wc := [(h0, .inr (8, [.int u_22_terms, .ref h0_1, .ref h0_2, .int u_22_triples, .ref h0_3, .int u_22_patterns, .ref h0_4, .ref h0_5, .int u_22_found, .ref h0_6, .int u_22_kept, .int u_22_keptVariables, .ref h0_7, .int u_22_thrown])), (h0_1, .inl (cI, 100, .inl u_22_number)), (h0_2, .inl (cI, 40, .inl u_22_term)), (h0_3, .inl (cI, 180, .inl u_22_store)), (h0_4, .inl (cI, 9, .inl u_22_query)), (h0_5, .inl (cI, 16, .inl u_22_bound)), (h0_6, .inl (cI, 2000, .inl u_22_work)), (h0_7, .inl (cI, 2000, .inl u_22_answers))]) hD hS hA [0, 1, 2, 3, 4, 5, 6, 7] rfl
                        refine va_callv (va_runV (As := [.int (3 : Int32)]) (rest := []) ⟨hx, hb, hml, hown, hts⟩ (c_X8_finds l dC dI cI h0 h0_1 h0_2 h0_3 h0_4 h0_5 h0_6 h0_7 _ (u_22_terms, u_22_number, u_22_term, u_22_triples, u_22_store, u_22_patterns, u_22_query, u_22_bound, u_22_found, u_22_work, u_22_kept, u_22_keptVariables, u_22_answers, u_22_thrown) (3 : Int32) _ h) (cwV 1 hts gX8_goesThrough_X8_finds rfl rfl rfl (by decide +kernel) ⟨Nat.le_of_ble_eq_true rfl, Nat.le_of_ble_eq_true rfl⟩) (pb_V hPc hK hDc hN (ci := 8) (q0 := 0) rfl rfl) rfl rfl hl.1 rfl (lv_room (Nat.le_of_ble_eq_true rfl)) dX8_goesThrough_113 ⟨Nat.zero_le _, Nat.zero_le _⟩) hS (fun q _ h => hFc q h) hFc (fun u_27 t H locs ht hvm h hB hz1 hk1 hS => ?_)
                        obtain ⟨u_27_terms, u_27_number, u_27_term, u_27_triples, u_27_store, u_27_patterns, u_27_query, u_27_bound, u_27_found, u_27_work, u_27_kept, u_27_keptVariables, u_27_answers, u_27_thrown⟩ := u_27
                        obtain ⟨hP1, hD1⟩ := hB
                        rw [ht] at hP1
                        obtain ⟨hP, hD⟩ := cl_join (wr := []) (w1 := [(h0, .inr (8, [.int u_27_terms, .ref h0_1, .ref h0_2, .int u_27_triples, .ref h0_3, .int u_27_patterns, .ref h0_4, .ref h0_5, .int u_27_found, .ref h0_6, .int u_27_kept, .int u_27_keptVariables, .ref h0_7, .int u_27_thrown])), (h0_1, .inl (cI, 100, .inl u_27_number)), (h0_2, .inl (cI, 40, .inl u_27_term)), (h0_3, .inl (cI, 180, .inl u_27_store)), (h0_4, .inl (cI, 9, .inl u_27_query)), (h0_5, .inl (cI, 16, .inl u_27_bound)), (h0_6, .inl (cI, 2000, .inl u_27_work)), (h0_7, .inl (cI, 2000, .inl u_27_answers))]) (ws' := [(h0, .inr (8, [.int u_27_terms, .ref h0_1, .ref h0_2, .int u_27_triples, .ref h0_3, .int u_27_patterns, .ref h0_4, .ref h0_5, .int u_27_found, .ref h0_6, .int u_27_kept, .int u_27_keptVariables, .ref h0_7, .int u_27_thrown])), (h0_1, .inl (cI, 100, .inl u_27_number)), (h0_2, .inl (cI, 40, .inl u_27_term)), (h0_3, .inl (cI, 180, .inl u_27_store)), (h0_4, .inl (cI, 9, .inl u_27_query)), (h0_5, .inl (cI, 16, .inl u_27_bound)), (h0_6, .inl (cI, 2000, .inl u_27_work)), (h0_7, .inl (cI, 2000, .inl u_27_answers))]) hP hD [0, 1, 2, 3, 4, 5, 6, 7] [] [0, 1, 2, 3, 4, 5, 6, 7] rfl rfl (by decide) (by decide) (by decide) rfl hk1 hFc hP1 hD1
                        refine lv_iinc (v := (v3_14 + (1 : Int32))) (lv' := [(3, .int (v3_14 + (1 : Int32))), (0, .ref h0), (1, .int v1_7), (2, .int v2_12)]) hx hb dX8_goesThrough_116 hl (k := 3) rfl rfl (by decide) rfl (fun ls hl => ?_)
                        refine lv_goto (tgt := 85) hx hb dX8_goesThrough_119 (by decide) ?_
                        have hl : lv_has ls 4 [(0, .ref h0), (1, .int v1_7), (2, .int v2_12), (3, .int (v3_14 + (1 : Int32)))] := lv_sub hl [1, 2, 3, 0] rfl
                        obtain ⟨k_29, hk_30, h⟩ := h
                        exact ih_13 k_29 hk_30 (v3_14 + (1 : Int32)) u_27_terms u_27_number u_27_term u_27_triples u_27_store u_27_patterns u_27_query u_27_bound u_27_found u_27_work u_27_kept u_27_keptVariables u_27_answers u_27_thrown h _ _ hP hD hS _ hl
              exact loop_13 n_13 (0 : Int32) s0_11_terms s0_11_number s0_11_term s0_11_triples s0_11_store s0_11_patterns s0_11_query s0_11_bound s0_11_found s0_11_work s0_11_kept s0_11_keptVariables s0_11_answers s0_11_thrown h _ _ hP hD hS _ hl
            refine lv_iload_n hx hb dX8_goesThrough_44 rfl (lv_at hl 2 rfl) ?_
            refine lv_aload_n hx hb dX8_goesThrough_45 rfl (lv_at hl 0 rfl) ?_
            refine va_get (D := (dC, dI)) (ci := 8) (v := .int s0_10_triples) (C := RX8) (T := TX8) (N := 14) hx hb hts (hinX8) hown hK hP 0 rfl rfl 3 (by decide) (hts (.fieldLink RX8 39 "TripleJoinsModel" "triples" "I") (by decide +kernel)) (fun _ h9 => h9) rfl dX8_goesThrough_46 ?_
            obtain ⟨ht_, hf_⟩ := h
            refine lv_icmp_ge (tgt := 128) hx hb dX8_goesThrough_49 (by decide) (fun c_31 => ?_) (fun c_31 => ?_)
            · have h := ht_ c_31
              refine lv_iinc (v := (v1_7 + (1 : Int32))) (lv' := [(1, .int (v1_7 + (1 : Int32))), (0, .ref h0), (2, .int v2_9)]) hx hb dX8_goesThrough_128 hl (k := 1) rfl rfl (by decide) rfl (fun ls hl => ?_)
              refine lv_goto (tgt := 11) hx hb dX8_goesThrough_131 (by decide) ?_
              have hl : lv_has ls 4 [(0, .ref h0), (1, .int (v1_7 + (1 : Int32)))] := lv_sub hl [1, 0] rfl
              obtain ⟨k_32, hk_33, h⟩ := h
              exact ih_3 k_32 hk_33 (v1_7 + (1 : Int32)) s0_10_terms s0_10_number s0_10_term s0_10_triples s0_10_store s0_10_patterns s0_10_query s0_10_bound s0_10_found s0_10_work s0_10_kept s0_10_keptVariables s0_10_answers s0_10_thrown h _ _ hP hD hS _ hl
            · have h := hf_ c_31
              refine lv_aload_n hx hb dX8_goesThrough_52 rfl (lv_at hl 0 rfl) ?_
              refine va_get (D := (dC, dI)) (ci := 8) (v := .int s0_10_patterns) (C := RX8) (T := TX8) (N := 14) hx hb hts (hinX8) hown hK hP 0 rfl rfl 5 (by decide) (hts (.fieldLink RX8 67 "TripleJoinsModel" "patterns" "I") (by decide +kernel)) (fun _ h9 => h9) rfl dX8_goesThrough_53 ?_
              refine lv_iconst (v := (1 : Int32)) hx hb dX8_goesThrough_56 (by decide) ?_
              obtain ⟨ht_, hf_⟩ := h
              refine lv_icmp_le (tgt := 128) hx hb dX8_goesThrough_57 (by decide) (fun c_34 => ?_) (fun c_34 => ?_)
              · have h := ht_ c_34
                refine lv_iinc (v := (v1_7 + (1 : Int32))) (lv' := [(1, .int (v1_7 + (1 : Int32))), (0, .ref h0), (2, .int v2_9)]) hx hb dX8_goesThrough_128 hl (k := 1) rfl rfl (by decide) rfl (fun ls hl => ?_)
                refine lv_goto (tgt := 11) hx hb dX8_goesThrough_131 (by decide) ?_
                have hl : lv_has ls 4 [(0, .ref h0), (1, .int (v1_7 + (1 : Int32)))] := lv_sub hl [1, 0] rfl
                obtain ⟨k_35, hk_36, h⟩ := h
                exact ih_3 k_35 hk_36 (v1_7 + (1 : Int32)) s0_10_terms s0_10_number s0_10_term s0_10_triples s0_10_store s0_10_patterns s0_10_query s0_10_bound s0_10_found s0_10_work s0_10_kept s0_10_keptVariables s0_10_answers s0_10_thrown h _ _ hP hD hS _ hl
              · have h := hf_ c_34
                refine lv_aload_n hx hb dX8_goesThrough_60 rfl (lv_at hl 0 rfl) ?_
                refine lv_iconst (v := (1 : Int32)) hx hb dX8_goesThrough_61 (by decide) ?_
                refine lv_iconst (v := (1 : Int32)) hx hb dX8_goesThrough_62 (by decide) ?_
                refine lv_iload_n hx hb dX8_goesThrough_63 rfl (lv_at hl 2 rfl) ?_
                have hPc := hP.sub (ws' := [(h0, .inr (8, [.int s0_10_terms, .ref h0_1, .ref h0_2, .int s0_10_triples, .ref h0_3, .int s0_10_patterns, .ref h0_4, .ref h0_5, .int s0_10_found, .ref h0_6, .int s0_10_kept, .int s0_10_keptVariables, .ref h0_7, .int s0_10_thrown])), (h0_1, .inl (cI, 100, .inl s0_10_number)), (h0_2, .inl (cI, 40, .inl s0_10_term)), (h0_3, .inl (cI, 180, .inl s0_10_store)), (h0_4, .inl (cI, 9, .inl s0_10_query)), (h0_5, .inl (cI, 16, .inl s0_10_bound)), (h0_6, .inl (cI, 2000, .inl s0_10_work)), (h0_7, .inl (cI, 2000, .inl s0_10_answers))]) [0, 1, 2, 3, 4, 5, 6, 7] rfl
                have hDc := hD.sub (ws' := [(h0, .inr (8, [.int s0_10_terms, .ref h0_1, .ref h0_2, .int s0_10_triples, .ref h0_3, .int s0_10_patterns, .ref h0_4, .ref h0_5, .int s0_10_found, .ref h0_6, .int s0_10_kept, .int s0_10_keptVariables, .ref h0_7, .int s0_10_thrown])), (h0_1, .inl (cI, 100, .inl s0_10_number)), (h0_2, .inl (cI, 40, .inl s0_10_term)), (h0_3, .inl (cI, 180, .inl s0_10_store)), (h0_4, .inl (cI, 9, .inl s0_10_query)), (h0_5, .inl (cI, 16, .inl s0_10_bound)), (h0_6, .inl (cI, 2000, .inl s0_10_work)), (h0_7, .inl (cI, 2000, .inl s0_10_answers))]) [0, 1, 2, 3, 4, 5, 6, 7] (by decide) rfl
                have hFc := va_free (wc := [(h0, .inr (8, [.int s0_10_terms, .ref h0_1, .ref h0_2, .int s0_10_triples, .ref h0_3, .int s0_10_patterns, .ref h0_4, .ref h0_5, .int s0_10_found, .ref h0_6, .int s0_10_kept, .int s0_10_keptVariables, .ref h0_7, .int s0_10_thrown])), (h0_1, .inl (cI, 100, .inl s0_10_number)), (h0_2, .inl (cI, 40, .inl s0_10_term)), (h0_3, .inl (cI, 180, .inl s0_10_store)), (h0_4, .inl (cI, 9, .inl s0_10_query)), (h0_5, .inl (cI, 16, .inl s0_10_bound)), (h0_6, .inl (cI, 2000, .inl s0_10_work)), (h0_7, .inl (cI, 2000, .inl s0_10_answers))]) hD hS hA [0, 1, 2, 3, 4, 5, 6, 7] rfl
                refine va_calli (va_runV (As := [.int (1 : Int32), .int (1 : Int32), .int v2_9]) (rest := []) ⟨hx, hb, hml, hown, hts⟩ (c_X8_tries l dC dI cI h0 h0_1 h0_2 h0_3 h0_4 h0_5 h0_6 h0_7 _ (s0_10_terms, s0_10_number, s0_10_term, s0_10_triples, s0_10_store, s0_10_patterns, s0_10_query, s0_10_bound, s0_10_found, s0_10_work, s0_10_kept, s0_10_keptVariables, s0_10_answers, s0_10_thrown) (1 : Int32) (1 : Int32) v2_9 _ h) (cwV 3 hts gX8_goesThrough_X8_tries rfl rfl rfl (by decide +kernel) ⟨Nat.le_of_ble_eq_true rfl, Nat.le_of_ble_eq_true rfl⟩) (pb_V hPc hK hDc hN (ci := 8) (q0 := 0) rfl rfl) rfl rfl hl.1 rfl (lv_room (Nat.le_of_ble_eq_true rfl)) dX8_goesThrough_64 ⟨Nat.zero_le _, Nat.zero_le _⟩) hS (fun q _ h => hFc q h) hFc (fun r_38 u_37 t H locs ht hvm h hB hz1 hk1 hS => ?_)
                obtain ⟨u_37_terms, u_37_number, u_37_term, u_37_triples, u_37_store, u_37_patterns, u_37_query, u_37_bound, u_37_found, u_37_work, u_37_kept, u_37_keptVariables, u_37_answers, u_37_thrown⟩ := u_37
                obtain ⟨hP1, hD1⟩ := hB
                rw [ht] at hP1
                obtain ⟨hP, hD⟩ := cl_join (wr := []) (w1 := [(h0, .inr (8, [.int u_37_terms, .ref h0_1, .ref h0_2, .int u_37_triples, .ref h0_3, .int u_37_patterns, .ref h0_4, .ref h0_5, .int u_37_found, .ref h0_6, .int u_37_kept, .int u_37_keptVariables, .ref h0_7, .int u_37_thrown])), (h0_1, .inl (cI, 100, .inl u_37_number)), (h0_2, .inl (cI, 40, .inl u_37_term)), (h0_3, .inl (cI, 180, .inl u_37_store)), (h0_4, .inl (cI, 9, .inl u_37_query)), (h0_5, .inl (cI, 16, .inl u_37_bound)), (h0_6, .inl (cI, 2000, .inl u_37_work)), (h0_7, .inl (cI, 2000, .inl u_37_answers))]) (ws' := [(h0, .inr (8, [.int u_37_terms, .ref h0_1, .ref h0_2, .int u_37_triples, .ref h0_3, .int u_37_patterns, .ref h0_4, .ref h0_5, .int u_37_found, .ref h0_6, .int u_37_kept, .int u_37_keptVariables, .ref h0_7, .int u_37_thrown])), (h0_1, .inl (cI, 100, .inl u_37_number)), (h0_2, .inl (cI, 40, .inl u_37_term)), (h0_3, .inl (cI, 180, .inl u_37_store)), (h0_4, .inl (cI, 9, .inl u_37_query)), (h0_5, .inl (cI, 16, .inl u_37_bound)), (h0_6, .inl (cI, 2000, .inl u_37_work)), (h0_7, .inl (cI, 2000, .inl u_37_answers))]) hP hD [0, 1, 2, 3, 4, 5, 6, 7] [] [0, 1, 2, 3, 4, 5, 6, 7] rfl rfl (by decide) (by decide) (by decide) rfl hk1 hFc hP1 hD1
                obtain ⟨ht_, hf_⟩ := h
                refine lv_if_eq (tgt := 122) hx hb dX8_goesThrough_67 (by decide) (fun c_39 => ?_) (fun c_39 => ?_)
                · have h := ht_ c_39
                  refine lv_iinc (v := (v2_9 + (1 : Int32))) (lv' := [(2, .int (v2_9 + (1 : Int32))), (0, .ref h0), (1, .int v1_7)]) hx hb dX8_goesThrough_122 hl (k := 2) rfl rfl (by decide) rfl (fun ls hl => ?_)
                  refine lv_goto (tgt := 44) hx hb dX8_goesThrough_125 (by decide) ?_
                  have hl : lv_has ls 4 [(0, .ref h0), (1, .int v1_7), (2, .int (v2_9 + (1 : Int32)))] := lv_sub hl [1, 2, 0] rfl
                  obtain ⟨k_40, hk_41, h⟩ := h
                  exact ih_8 k_40 hk_41 (v2_9 + (1 : Int32)) u_37_terms u_37_number u_37_term u_37_triples u_37_store u_37_patterns u_37_query u_37_bound u_37_found u_37_work u_37_kept u_37_keptVariables u_37_answers u_37_thrown h _ _ hP hD hS _ hl
                · have h := hf_ c_39
                  refine lv_aload_n hx hb dX8_goesThrough_70 rfl (lv_at hl 0 rfl) ?_
                  refine va_get (D := (dC, dI)) (ci := 8) (v := .int u_37_patterns) (C := RX8) (T := TX8) (N := 14) hx hb hts (hinX8) hown hK hP 0 rfl rfl 5 (by decide) (hts (.fieldLink RX8 67 "TripleJoinsModel" "patterns" "I") (by decide +kernel)) (fun _ h9 => h9) rfl dX8_goesThrough_71 ?_
                  refine lv_iconst (v := (2 : Int32)) hx hb dX8_goesThrough_74 (by decide) ?_
                  obtain ⟨ht_, hf_⟩ := h
                  refine lv_icmp_ne (tgt := 83) hx hb dX8_goesThrough_75 (by decide) (fun c_42 => ?_) (fun c_42 => ?_)
                  · have h := ht_ c_42
                    exact lab_83 u_37_terms u_37_number u_37_term u_37_triples u_37_store u_37_patterns u_37_query u_37_bound u_37_found u_37_work u_37_kept u_37_keptVariables u_37_answers u_37_thrown v2_9 h _ _ hP hD hS _ hl
                  · have h := hf_ c_42
                    refine lv_aload_n hx hb dX8_goesThrough_78 rfl (lv_at hl 0 rfl) ?_
                    refine lv_iconst (v := (2 : Int32)) hx hb dX8_goesThrough_79 (by decide) ?_
                    have hPc := hP.sub (ws' := [(h0, .inr (8, [.int u_37_terms, .ref h0_1, .ref h0_2, .int u_37_triples, .ref h0_3, .int u_37_patterns, .ref h0_4, .ref h0_5, .int u_37_found, .ref h0_6, .int u_37_kept, .int u_37_keptVariables, .ref h0_7, .int u_37_thrown])), (h0_1, .inl (cI, 100, .inl u_37_number)), (h0_2, .inl (cI, 40, .inl u_37_term)), (h0_3, .inl (cI, 180, .inl u_37_store)), (h0_4, .inl (cI, 9, .inl u_37_query)), (h0_5, .inl (cI, 16, .inl u_37_bound)), (h0_6, .inl (cI, 2000, .inl u_37_work)), (h0_7, .inl (cI, 2000, .inl u_37_answers))]) [0, 1, 2, 3, 4, 5, 6, 7] rfl
                    have hDc := hD.sub (ws' := [(h0, .inr (8, [.int u_37_terms, .ref h0_1, .ref h0_2, .int u_37_triples, .ref h0_3, .int u_37_patterns, .ref h0_4, .ref h0_5, .int u_37_found, .ref h0_6, .int u_37_kept, .int u_37_keptVariables, .ref h0_7, .int u_37_thrown])), (h0_1, .inl (cI, 100, .inl u_37_number)), (h0_2, .inl (cI, 40, .inl u_37_term)), (h0_3, .inl (cI, 180, .inl u_37_store)), (h0_4, .inl (cI, 9, .inl u_37_query)), (h0_5, .inl (cI, 16, .inl u_37_bound)), (h0_6, .inl (cI, 2000, .inl u_37_work)), (h0_7, .inl (cI, 2000, .inl u_37_answers))]) [0, 1, 2, 3, 4, 5, 6, 7] (by decide) rfl
                    have hFc := va_free (wc := [(h0, .inr (8, [.int u_37_terms, .ref h0_1, .ref h0_2, .int u_37_triples, .ref h0_3, .int u_37_patterns, .ref h0_4, .ref h0_5, .int u_37_found, .ref h0_6, .int u_37_kept, .int u_37_keptVariables, .ref h0_7, .int u_37_thrown])), (h0_1, .inl (cI, 100, .inl u_37_number)), (h0_2, .inl (cI, 40, .inl u_37_term)), (h0_3, .inl (cI, 180, .inl u_37_store)), (h0_4, .inl (cI, 9, .inl u_37_query)), (h0_5, .inl (cI, 16, .inl u_37_bound)), (h0_6, .inl (cI, 2000, .inl u_37_work)), (h0_7, .inl (cI, 2000, .inl u_37_answers))]) hD hS hA [0, 1, 2, 3, 4, 5, 6, 7] rfl
                    refine va_callv (va_runV (As := [.int (2 : Int32)]) (rest := []) ⟨hx, hb, hml, hown, hts⟩ (c_X8_finds l dC dI cI h0 h0_1 h0_2 h0_3 h0_4 h0_5 h0_6 h0_7 _ (u_37_terms, u_37_number, u_37_term, u_37_triples, u_37_store, u_37_patterns, u_37_query, u_37_bound, u_37_found, u_37_work, u_37_kept, u_37_keptVariables, u_37_answers, u_37_thrown) (2 : Int32) _ h) (cwV 1 hts gX8_goesThrough_X8_finds rfl rfl rfl (by decide +kernel) ⟨Nat.le_of_ble_eq_true rfl, Nat.le_of_ble_eq_true rfl⟩) (pb_V hPc hK hDc hN (ci := 8) (q0 := 0) rfl rfl) rfl rfl hl.1 rfl (lv_room (Nat.le_of_ble_eq_true rfl)) dX8_goesThrough_80 ⟨Nat.zero_le _, Nat.zero_le _⟩) hS (fun q _ h => hFc q h) hFc (fun u_43 t H locs ht hvm h hB hz1 hk1 hS => ?_)
                    obtain ⟨u_43_terms, u_43_number, u_43_term, u_43_triples, u_43_store, u_43_patterns, u_43_query, u_43_bound, u_43_found, u_43_work, u_43_kept, u_43_keptVariables, u_43_answers, u_43_thrown⟩ := u_43
                    obtain ⟨hP1, hD1⟩ := hB
                    rw [ht] at hP1
                    obtain ⟨hP, hD⟩ := cl_join (wr := []) (w1 := [(h0, .inr (8, [.int u_43_terms, .ref h0_1, .ref h0_2, .int u_43_triples, .ref h0_3, .int u_43_patterns, .ref h0_4, .ref h0_5, .int u_43_found, .ref h0_6, .int u_43_kept, .int u_43_keptVariables, .ref h0_7, .int u_43_thrown])), (h0_1, .inl (cI, 100, .inl u_43_number)), (h0_2, .inl (cI, 40, .inl u_43_term)), (h0_3, .inl (cI, 180, .inl u_43_store)), (h0_4, .inl (cI, 9, .inl u_43_query)), (h0_5, .inl (cI, 16, .inl u_43_bound)), (h0_6, .inl (cI, 2000, .inl u_43_work)), (h0_7, .inl (cI, 2000, .inl u_43_answers))]) (ws' := [(h0, .inr (8, [.int u_43_terms, .ref h0_1, .ref h0_2, .int u_43_triples, .ref h0_3, .int u_43_patterns, .ref h0_4, .ref h0_5, .int u_43_found, .ref h0_6, .int u_43_kept, .int u_43_keptVariables, .ref h0_7, .int u_43_thrown])), (h0_1, .inl (cI, 100, .inl u_43_number)), (h0_2, .inl (cI, 40, .inl u_43_term)), (h0_3, .inl (cI, 180, .inl u_43_store)), (h0_4, .inl (cI, 9, .inl u_43_query)), (h0_5, .inl (cI, 16, .inl u_43_bound)), (h0_6, .inl (cI, 2000, .inl u_43_work)), (h0_7, .inl (cI, 2000, .inl u_43_answers))]) hP hD [0, 1, 2, 3, 4, 5, 6, 7] [] [0, 1, 2, 3, 4, 5, 6, 7] rfl rfl (by decide) (by decide) (by decide) rfl hk1 hFc hP1 hD1
                    exact lab_83 u_43_terms u_43_number u_43_term u_43_triples u_43_store u_43_patterns u_43_query u_43_bound u_43_found u_43_work u_43_kept u_43_keptVariables u_43_answers u_43_thrown v2_9 h _ _ hP hD hS _ hl
        exact loop_8 n_8 (0 : Int32) s0_6_terms s0_6_number s0_6_term s0_6_triples s0_6_store s0_6_patterns s0_6_query s0_6_bound s0_6_found s0_6_work s0_6_kept s0_6_keptVariables s0_6_answers s0_6_thrown h _ _ hP hD hS _ hl
      refine lv_iload_n hx hb dX8_goesThrough_11 rfl (lv_at hl 1 rfl) ?_
      refine lv_aload_n hx hb dX8_goesThrough_12 rfl (lv_at hl 0 rfl) ?_
      refine va_get (D := (dC, dI)) (ci := 8) (v := .int s0_5_triples) (C := RX8) (T := TX8) (N := 14) hx hb hts (hinX8) hown hK hP 0 rfl rfl 3 (by decide) (hts (.fieldLink RX8 39 "TripleJoinsModel" "triples" "I") (by decide +kernel)) (fun _ h9 => h9) rfl dX8_goesThrough_13 ?_
      obtain ⟨ht_, hf_⟩ := h
      refine lv_icmp_ge (tgt := 134) hx hb dX8_goesThrough_16 (by decide) (fun c_45 => ?_) (fun c_45 => ?_)
      · have h := ht_ c_45
        exact W.vret hx hb hr (fun t ht hW => ⟨⟨(s0_5_terms, s0_5_number, s0_5_term, s0_5_triples, s0_5_store, s0_5_patterns, s0_5_query, s0_5_bound, s0_5_found, s0_5_work, s0_5_kept, s0_5_keptVariables, s0_5_answers, s0_5_thrown), rfl, h, ⟨by rw [ht]; exact hP, hD⟩⟩, hS.F ht⟩) hS.2.2 dX8_goesThrough_134
      · have h := hf_ c_45
        refine lv_aload_n hx hb dX8_goesThrough_19 rfl (lv_at hl 0 rfl) ?_
        refine lv_iconst (v := (0 : Int32)) hx hb dX8_goesThrough_20 (by decide) ?_
        refine lv_iconst (v := (0 : Int32)) hx hb dX8_goesThrough_21 (by decide) ?_
        refine lv_iload_n hx hb dX8_goesThrough_22 rfl (lv_at hl 1 rfl) ?_
        have hPc := hP.sub (ws' := [(h0, .inr (8, [.int s0_5_terms, .ref h0_1, .ref h0_2, .int s0_5_triples, .ref h0_3, .int s0_5_patterns, .ref h0_4, .ref h0_5, .int s0_5_found, .ref h0_6, .int s0_5_kept, .int s0_5_keptVariables, .ref h0_7, .int s0_5_thrown])), (h0_1, .inl (cI, 100, .inl s0_5_number)), (h0_2, .inl (cI, 40, .inl s0_5_term)), (h0_3, .inl (cI, 180, .inl s0_5_store)), (h0_4, .inl (cI, 9, .inl s0_5_query)), (h0_5, .inl (cI, 16, .inl s0_5_bound)), (h0_6, .inl (cI, 2000, .inl s0_5_work)), (h0_7, .inl (cI, 2000, .inl s0_5_answers))]) [0, 1, 2, 3, 4, 5, 6, 7] rfl
        have hDc := hD.sub (ws' := [(h0, .inr (8, [.int s0_5_terms, .ref h0_1, .ref h0_2, .int s0_5_triples, .ref h0_3, .int s0_5_patterns, .ref h0_4, .ref h0_5, .int s0_5_found, .ref h0_6, .int s0_5_kept, .int s0_5_keptVariables, .ref h0_7, .int s0_5_thrown])), (h0_1, .inl (cI, 100, .inl s0_5_number)), (h0_2, .inl (cI, 40, .inl s0_5_term)), (h0_3, .inl (cI, 180, .inl s0_5_store)), (h0_4, .inl (cI, 9, .inl s0_5_query)), (h0_5, .inl (cI, 16, .inl s0_5_bound)), (h0_6, .inl (cI, 2000, .inl s0_5_work)), (h0_7, .inl (cI, 2000, .inl s0_5_answers))]) [0, 1, 2, 3, 4, 5, 6, 7] (by decide) rfl
        have hFc := va_free (wc := [(h0, .inr (8, [.int s0_5_terms, .ref h0_1, .ref h0_2, .int s0_5_triples, .ref h0_3, .int s0_5_patterns, .ref h0_4, .ref h0_5, .int s0_5_found, .ref h0_6, .int s0_5_kept, .int s0_5_keptVariables, .ref h0_7, .int s0_5_thrown])), (h0_1, .inl (cI, 100, .inl s0_5_number)), (h0_2, .inl (cI, 40, .inl s0_5_term)), (h0_3, .inl (cI, 180, .inl s0_5_store)), (h0_4, .inl (cI, 9, .inl s0_5_query)), (h0_5, .inl (cI, 16, .inl s0_5_bound)), (h0_6, .inl (cI, 2000, .inl s0_5_work)), (h0_7, .inl (cI, 2000, .inl s0_5_answers))]) hD hS hA [0, 1, 2, 3, 4, 5, 6, 7] rfl
        refine va_calli (va_runV (As := [.int (0 : Int32), .int (0 : Int32), .int v1_4]) (rest := []) ⟨hx, hb, hml, hown, hts⟩ (c_X8_tries l dC dI cI h0 h0_1 h0_2 h0_3 h0_4 h0_5 h0_6 h0_7 _ (s0_5_terms, s0_5_number, s0_5_term, s0_5_triples, s0_5_store, s0_5_patterns, s0_5_query, s0_5_bound, s0_5_found, s0_5_work, s0_5_kept, s0_5_keptVariables, s0_5_answers, s0_5_thrown) (0 : Int32) (0 : Int32) v1_4 _ h) (cwV 3 hts gX8_goesThrough_X8_tries rfl rfl rfl (by decide +kernel) ⟨Nat.le_of_ble_eq_true rfl, Nat.le_of_ble_eq_true rfl⟩) (pb_V hPc hK hDc hN (ci := 8) (q0 := 0) rfl rfl) rfl rfl hl.1 rfl (lv_room (Nat.le_of_ble_eq_true rfl)) dX8_goesThrough_23 ⟨Nat.zero_le _, Nat.zero_le _⟩) hS (fun q _ h => hFc q h) hFc (fun r_47 u_46 t H locs ht hvm h hB hz1 hk1 hS => ?_)
        obtain ⟨u_46_terms, u_46_number, u_46_term, u_46_triples, u_46_store, u_46_patterns, u_46_query, u_46_bound, u_46_found, u_46_work, u_46_kept, u_46_keptVariables, u_46_answers, u_46_thrown⟩ := u_46
        obtain ⟨hP1, hD1⟩ := hB
        rw [ht] at hP1
        obtain ⟨hP, hD⟩ := cl_join (wr := []) (w1 := [(h0, .inr (8, [.int u_46_terms, .ref h0_1, .ref h0_2, .int u_46_triples, .ref h0_3, .int u_46_patterns, .ref h0_4, .ref h0_5, .int u_46_found, .ref h0_6, .int u_46_kept, .int u_46_keptVariables, .ref h0_7, .int u_46_thrown])), (h0_1, .inl (cI, 100, .inl u_46_number)), (h0_2, .inl (cI, 40, .inl u_46_term)), (h0_3, .inl (cI, 180, .inl u_46_store)), (h0_4, .inl (cI, 9, .inl u_46_query)), (h0_5, .inl (cI, 16, .inl u_46_bound)), (h0_6, .inl (cI, 2000, .inl u_46_work)), (h0_7, .inl (cI, 2000, .inl u_46_answers))]) (ws' := [(h0, .inr (8, [.int u_46_terms, .ref h0_1, .ref h0_2, .int u_46_triples, .ref h0_3, .int u_46_patterns, .ref h0_4, .ref h0_5, .int u_46_found, .ref h0_6, .int u_46_kept, .int u_46_keptVariables, .ref h0_7, .int u_46_thrown])), (h0_1, .inl (cI, 100, .inl u_46_number)), (h0_2, .inl (cI, 40, .inl u_46_term)), (h0_3, .inl (cI, 180, .inl u_46_store)), (h0_4, .inl (cI, 9, .inl u_46_query)), (h0_5, .inl (cI, 16, .inl u_46_bound)), (h0_6, .inl (cI, 2000, .inl u_46_work)), (h0_7, .inl (cI, 2000, .inl u_46_answers))]) hP hD [0, 1, 2, 3, 4, 5, 6, 7] [] [0, 1, 2, 3, 4, 5, 6, 7] rfl rfl (by decide) (by decide) (by decide) rfl hk1 hFc hP1 hD1
        obtain ⟨ht_, hf_⟩ := h
        refine lv_if_eq (tgt := 128) hx hb dX8_goesThrough_26 (by decide) (fun c_48 => ?_) (fun c_48 => ?_)
        · have h := ht_ c_48
          refine lv_iinc (v := (v1_4 + (1 : Int32))) (lv' := [(1, .int (v1_4 + (1 : Int32))), (0, .ref h0)]) hx hb dX8_goesThrough_128 hl (k := 1) rfl rfl (by decide) rfl (fun ls hl => ?_)
          refine lv_goto (tgt := 11) hx hb dX8_goesThrough_131 (by decide) ?_
          have hl : lv_has ls 4 [(0, .ref h0), (1, .int (v1_4 + (1 : Int32)))] := lv_sub hl [1, 0] rfl
          obtain ⟨k_49, hk_50, h⟩ := h
          exact ih_3 k_49 hk_50 (v1_4 + (1 : Int32)) u_46_terms u_46_number u_46_term u_46_triples u_46_store u_46_patterns u_46_query u_46_bound u_46_found u_46_work u_46_kept u_46_keptVariables u_46_answers u_46_thrown h _ _ hP hD hS _ hl
        · have h := hf_ c_48
          refine lv_aload_n hx hb dX8_goesThrough_29 rfl (lv_at hl 0 rfl) ?_
          refine va_get (D := (dC, dI)) (ci := 8) (v := .int u_46_patterns) (C := RX8) (T := TX8) (N := 14) hx hb hts (hinX8) hown hK hP 0 rfl rfl 5 (by decide) (hts (.fieldLink RX8 67 "TripleJoinsModel" "patterns" "I") (by decide +kernel)) (fun _ h9 => h9) rfl dX8_goesThrough_30 ?_
          refine lv_iconst (v := (1 : Int32)) hx hb dX8_goesThrough_33 (by decide) ?_
          obtain ⟨ht_, hf_⟩ := h
          refine lv_icmp_ne (tgt := 42) hx hb dX8_goesThrough_34 (by decide) (fun c_51 => ?_) (fun c_51 => ?_)
          · have h := ht_ c_51
            exact lab_42 u_46_terms u_46_number u_46_term u_46_triples u_46_store u_46_patterns u_46_query u_46_bound u_46_found u_46_work u_46_kept u_46_keptVariables u_46_answers u_46_thrown v1_4 h _ _ hP hD hS _ hl
          · have h := hf_ c_51
            refine lv_aload_n hx hb dX8_goesThrough_37 rfl (lv_at hl 0 rfl) ?_
            refine lv_iconst (v := (1 : Int32)) hx hb dX8_goesThrough_38 (by decide) ?_
            have hPc := hP.sub (ws' := [(h0, .inr (8, [.int u_46_terms, .ref h0_1, .ref h0_2, .int u_46_triples, .ref h0_3, .int u_46_patterns, .ref h0_4, .ref h0_5, .int u_46_found, .ref h0_6, .int u_46_kept, .int u_46_keptVariables, .ref h0_7, .int u_46_thrown])), (h0_1, .inl (cI, 100, .inl u_46_number)), (h0_2, .inl (cI, 40, .inl u_46_term)), (h0_3, .inl (cI, 180, .inl u_46_store)), (h0_4, .inl (cI, 9, .inl u_46_query)), (h0_5, .inl (cI, 16, .inl u_46_bound)), (h0_6, .inl (cI, 2000, .inl u_46_work)), (h0_7, .inl (cI, 2000, .inl u_46_answers))]) [0, 1, 2, 3, 4, 5, 6, 7] rfl
            have hDc := hD.sub (ws' := [(h0, .inr (8, [.int u_46_terms, .ref h0_1, .ref h0_2, .int u_46_triples, .ref h0_3, .int u_46_patterns, .ref h0_4, .ref h0_5, .int u_46_found, .ref h0_6, .int u_46_kept, .int u_46_keptVariables, .ref h0_7, .int u_46_thrown])), (h0_1, .inl (cI, 100, .inl u_46_number)), (h0_2, .inl (cI, 40, .inl u_46_term)), (h0_3, .inl (cI, 180, .inl u_46_store)), (h0_4, .inl (cI, 9, .inl u_46_query)), (h0_5, .inl (cI, 16, .inl u_46_bound)), (h0_6, .inl (cI, 2000, .inl u_46_work)), (h0_7, .inl (cI, 2000, .inl u_46_answers))]) [0, 1, 2, 3, 4, 5, 6, 7] (by decide) rfl
            have hFc := va_free (wc := [(h0, .inr (8, [.int u_46_terms, .ref h0_1, .ref h0_2, .int u_46_triples, .ref h0_3, .int u_46_patterns, .ref h0_4, .ref h0_5, .int u_46_found, .ref h0_6, .int u_46_kept, .int u_46_keptVariables, .ref h0_7, .int u_46_thrown])), (h0_1, .inl (cI, 100, .inl u_46_number)), (h0_2, .inl (cI, 40, .inl u_46_term)), (h0_3, .inl (cI, 180, .inl u_46_store)), (h0_4, .inl (cI, 9, .inl u_46_query)), (h0_5, .inl (cI, 16, .inl u_46_bound)), (h0_6, .inl (cI, 2000, .inl u_46_work)), (h0_7, .inl (cI, 2000, .inl u_46_answers))]) hD hS hA [0, 1, 2, 3, 4, 5, 6, 7] rfl
            refine va_callv (va_runV (As := [.int (1 : Int32)]) (rest := []) ⟨hx, hb, hml, hown, hts⟩ (c_X8_finds l dC dI cI h0 h0_1 h0_2 h0_3 h0_4 h0_5 h0_6 h0_7 _ (u_46_terms, u_46_number, u_46_term, u_46_triples, u_46_store, u_46_patterns, u_46_query, u_46_bound, u_46_found, u_46_work, u_46_kept, u_46_keptVariables, u_46_answers, u_46_thrown) (1 : Int32) _ h) (cwV 1 hts gX8_goesThrough_X8_finds rfl rfl rfl (by decide +kernel) ⟨Nat.le_of_ble_eq_true rfl, Nat.le_of_ble_eq_true rfl⟩) (pb_V hPc hK hDc hN (ci := 8) (q0 := 0) rfl rfl) rfl rfl hl.1 rfl (lv_room (Nat.le_of_ble_eq_true rfl)) dX8_goesThrough_39 ⟨Nat.zero_le _, Nat.zero_le _⟩) hS (fun q _ h => hFc q h) hFc (fun u_52 t H locs ht hvm h hB hz1 hk1 hS => ?_)
            obtain ⟨u_52_terms, u_52_number, u_52_term, u_52_triples, u_52_store, u_52_patterns, u_52_query, u_52_bound, u_52_found, u_52_work, u_52_kept, u_52_keptVariables, u_52_answers, u_52_thrown⟩ := u_52
            obtain ⟨hP1, hD1⟩ := hB
            rw [ht] at hP1
            obtain ⟨hP, hD⟩ := cl_join (wr := []) (w1 := [(h0, .inr (8, [.int u_52_terms, .ref h0_1, .ref h0_2, .int u_52_triples, .ref h0_3, .int u_52_patterns, .ref h0_4, .ref h0_5, .int u_52_found, .ref h0_6, .int u_52_kept, .int u_52_keptVariables, .ref h0_7, .int u_52_thrown])), (h0_1, .inl (cI, 100, .inl u_52_number)), (h0_2, .inl (cI, 40, .inl u_52_term)), (h0_3, .inl (cI, 180, .inl u_52_store)), (h0_4, .inl (cI, 9, .inl u_52_query)), (h0_5, .inl (cI, 16, .inl u_52_bound)), (h0_6, .inl (cI, 2000, .inl u_52_work)), (h0_7, .inl (cI, 2000, .inl u_52_answers))]) (ws' := [(h0, .inr (8, [.int u_52_terms, .ref h0_1, .ref h0_2, .int u_52_triples, .ref h0_3, .int u_52_patterns, .ref h0_4, .ref h0_5, .int u_52_found, .ref h0_6, .int u_52_kept, .int u_52_keptVariables, .ref h0_7, .int u_52_thrown])), (h0_1, .inl (cI, 100, .inl u_52_number)), (h0_2, .inl (cI, 40, .inl u_52_term)), (h0_3, .inl (cI, 180, .inl u_52_store)), (h0_4, .inl (cI, 9, .inl u_52_query)), (h0_5, .inl (cI, 16, .inl u_52_bound)), (h0_6, .inl (cI, 2000, .inl u_52_work)), (h0_7, .inl (cI, 2000, .inl u_52_answers))]) hP hD [0, 1, 2, 3, 4, 5, 6, 7] [] [0, 1, 2, 3, 4, 5, 6, 7] rfl rfl (by decide) (by decide) (by decide) rfl hk1 hFc hP1 hD1
            exact lab_42 u_52_terms u_52_number u_52_term u_52_triples u_52_store u_52_patterns u_52_query u_52_bound u_52_found u_52_work u_52_kept u_52_keptVariables u_52_answers u_52_thrown v1_4 h _ _ hP hD hS _ hl
  exact loop_3 n_3 (0 : Int32) u_1_terms u_1_number u_1_term u_1_triples u_1_store u_1_patterns u_1_query u_1_bound u_1_found u_1_work u_1_kept u_1_keptVariables u_1_answers u_1_thrown h _ _ hP hD hS _ hl
abbrev Q_X8_answersAll (dC : Nat → ClassId) (dI : Nat → Nat → Nat) (cI : ClassId) (h0 h0_1 h0_2 h0_3 h0_4 h0_5 h0_6 h0_7 : Nat) (s0 : ModS) (A : Nat → Prop) (post : Int32 → ModS → Prop) : Array Value → State → Outcome → State → Prop := va_Qi post (fun (u : ModS) (t : State) => va_P (dC, dI) vwCl [(h0, .inr (8, [.int u.terms, .ref h0_1, .ref h0_2, .int u.triples, .ref h0_3, .int u.patterns, .ref h0_4, .ref h0_5, .int u.found, .ref h0_6, .int u.kept, .int u.keptVariables, .ref h0_7, .int u.thrown])), (h0_1, .inl (cI, 100, .inl u.number)), (h0_2, .inl (cI, 40, .inl u.term)), (h0_3, .inl (cI, 180, .inl u.store)), (h0_4, .inl (cI, 9, .inl u.query)), (h0_5, .inl (cI, 16, .inl u.bound)), (h0_6, .inl (cI, 2000, .inl u.work)), (h0_7, .inl (cI, 2000, .inl u.answers))] t.heap ∧ va_D A [(h0, .inr (8, [.int u.terms, .ref h0_1, .ref h0_2, .int u.triples, .ref h0_3, .int u.patterns, .ref h0_4, .ref h0_5, .int u.found, .ref h0_6, .int u.kept, .int u.keptVariables, .ref h0_7, .int u.thrown])), (h0_1, .inl (cI, 100, .inl u.number)), (h0_2, .inl (cI, 40, .inl u.term)), (h0_3, .inl (cI, 180, .inl u.store)), (h0_4, .inl (cI, 9, .inl u.query)), (h0_5, .inl (cI, 16, .inl u.bound)), (h0_6, .inl (cI, 2000, .inl u.work)), (h0_7, .inl (cI, 2000, .inl u.answers))]) A
abbrev rm_X8_answersAll : Room := { frames := 2, cells := 0, slots := 0, locals := 51 }
set_option maxHeartbeats 4000000 in
set_option maxRecDepth 100000 in
theorem c_X8_answersAll (l : Launch) (dC : Nat → ClassId) (dI : Nat → Nat → Nat) (cI : ClassId) (h0 h0_1 h0_2 h0_3 h0_4 h0_5 h0_6 h0_7 : Nat) (sz : Nat) (s0 : ModS) (post : Int32 → ModS → Prop) (h : P_X8_answersAll s0 post) : Met l yX8_answersAll wsX8_answersAll rm_X8_answersAll (va_Pc [.ref h0] (cpre (dC, dI) [(cI, .int)] [(h0, .inr (8, [.int s0.terms, .ref h0_1, .ref h0_2, .int s0.triples, .ref h0_3, .int s0.patterns, .ref h0_4, .ref h0_5, .int s0.found, .ref h0_6, .int s0.kept, .int s0.keptVariables, .ref h0_7, .int s0.thrown])), (h0_1, .inl (cI, 100, .inl s0.number)), (h0_2, .inl (cI, 40, .inl s0.term)), (h0_3, .inl (cI, 180, .inl s0.store)), (h0_4, .inl (cI, 9, .inl s0.query)), (h0_5, .inl (cI, 16, .inl s0.bound)), (h0_6, .inl (cI, 2000, .inl s0.work)), (h0_7, .inl (cI, 2000, .inl s0.answers))] sz)) (Q_X8_answersAll dC dI cI h0 h0_1 h0_2 h0_3 h0_4 h0_5 h0_6 h0_7 s0 (va_A [(h0, .inr (8, [.int s0.terms, .ref h0_1, .ref h0_2, .int s0.triples, .ref h0_3, .int s0.patterns, .ref h0_4, .ref h0_5, .int s0.found, .ref h0_6, .int s0.kept, .int s0.keptVariables, .ref h0_7, .int s0.thrown])), (h0_1, .inl (cI, 100, .inl s0.number)), (h0_2, .inl (cI, 40, .inl s0.term)), (h0_3, .inl (cI, 180, .inl s0.store)), (h0_4, .inl (cI, 9, .inl s0.query)), (h0_5, .inl (cI, 16, .inl s0.bound)), (h0_6, .inl (cI, 2000, .inl s0.work)), (h0_7, .inl (cI, 2000, .inl s0.answers))] sz) post) 0 0 (va_A [(h0, .inr (8, [.int s0.terms, .ref h0_1, .ref h0_2, .int s0.triples, .ref h0_3, .int s0.patterns, .ref h0_4, .ref h0_5, .int s0.found, .ref h0_6, .int s0.kept, .int s0.keptVariables, .ref h0_7, .int s0.thrown])), (h0_1, .inl (cI, 100, .inl s0.number)), (h0_2, .inl (cI, 40, .inl s0.term)), (h0_3, .inl (cI, 180, .inl s0.store)), (h0_4, .inl (cI, 9, .inl s0.query)), (h0_5, .inl (cI, 16, .inl s0.bound)), (h0_6, .inl (cI, 2000, .inl s0.work)), (h0_7, .inl (cI, 2000, .inl s0.answers))] sz) := by
  refine Met.ofW (cc := cX8_answersAll) (maxL := 3) (ret := (some .int)) (by decide) rfl ?_
  intro p e s m args below meth c s₁ B hml hv
  obtain ⟨rfl, hsz, hP, hK, hD0, hN⟩ := hv
  have hx := B.exec
  have hb := B.bytes
  have hr := B.returns
  have hts := atoms_spec (ws := wsX8_answersAll) B.pre
  have hown : s.vm.findClass RX8 = some m.cls := findClass_of_methodNamed B.named
  have hlocks := B.notSynchronized
  subst hsz
  have hD := hD0.self (sz := s.heap.size)
  generalize hAe : va_A [(h0, .inr (8, [.int s0.terms, .ref h0_1, .ref h0_2, .int s0.triples, .ref h0_3, .int s0.patterns, .ref h0_4, .ref h0_5, .int s0.found, .ref h0_6, .int s0.kept, .int s0.keptVariables, .ref h0_7, .int s0.thrown])), (h0_1, .inl (cI, 100, .inl s0.number)), (h0_2, .inl (cI, 40, .inl s0.term)), (h0_3, .inl (cI, 180, .inl s0.store)), (h0_4, .inl (cI, 9, .inl s0.query)), (h0_5, .inl (cI, 16, .inl s0.bound)), (h0_6, .inl (cI, 2000, .inl s0.work)), (h0_7, .inl (cI, 2000, .inl s0.answers))] s.heap.size = A at hD ⊢
  have hA : ∀ q : Nat, s.heap.size ≤ q → A q := fun q h => by rw [← hAe]; exact Or.inr h
  clear hAe hD0
  obtain ⟨s0_terms, s0_number, s0_term, s0_triples, s0_store, s0_patterns, s0_query, s0_bound, s0_found, s0_work, s0_kept, s0_keptVariables, s0_answers, s0_thrown⟩ := s0
  have hS : va_S A s.heap s.heap [] := va_S.rf
  have hP : va_P (dC, dI) vwCl [(h0, .inr (8, [.int s0_terms, .ref h0_1, .ref h0_2, .int s0_triples, .ref h0_3, .int s0_patterns, .ref h0_4, .ref h0_5, .int s0_found, .ref h0_6, .int s0_kept, .int s0_keptVariables, .ref h0_7, .int s0_thrown])), (h0_1, .inl (cI, 100, .inl s0_number)), (h0_2, .inl (cI, 40, .inl s0_term)), (h0_3, .inl (cI, 180, .inl s0_store)), (h0_4, .inl (cI, 9, .inl s0_query)), (h0_5, .inl (cI, 16, .inl s0_bound)), (h0_6, .inl (cI, 2000, .inl s0_work)), (h0_7, .inl (cI, 2000, .inl s0_answers))] s.heap := hP
  have hD : va_D A [(h0, .inr (8, [.int s0_terms, .ref h0_1, .ref h0_2, .int s0_triples, .ref h0_3, .int s0_patterns, .ref h0_4, .ref h0_5, .int s0_found, .ref h0_6, .int s0_kept, .int s0_keptVariables, .ref h0_7, .int s0_thrown])), (h0_1, .inl (cI, 100, .inl s0_number)), (h0_2, .inl (cI, 40, .inl s0_term)), (h0_3, .inl (cI, 180, .inl s0_store)), (h0_4, .inl (cI, 9, .inl s0_query)), (h0_5, .inl (cI, 16, .inl s0_bound)), (h0_6, .inl (cI, 2000, .inl s0_work)), (h0_7, .inl (cI, 2000, .inl s0_answers))] := hD
  have hl := lv_entry ([.ref h0]) (n := 3) (Nat.le_of_ble_eq_true rfl)
  rw [lg_entry_eq]
  generalize (lg_sl ([.ref h0]) ++ List.replicate (3 - (lg_sl ([.ref h0])).length) Slot.unset).toArray = ls at hl ⊢
  have hl : lv_has ls 3 [(0, .ref h0)] := hl
  have hinX8 : ∀ w ∈ u_ws RX8 TX8 14, w ∈ wsX8_answersAll := by decide +kernel
  have lab_39 : ∀ (s0_1_terms : Int32) (s0_1_number : Nat → Int32) (s0_1_term : Nat → Int32) (s0_1_triples : Int32) (s0_1_store : Nat → Int32) (s0_1_patterns : Int32) (s0_1_query : Nat → Int32) (s0_1_bound : Nat → Int32) (s0_1_found : Int32) (s0_1_work : Nat → Int32) (s0_1_kept : Int32) (s0_1_keptVariables : Int32) (s0_1_answers : Nat → Int32) (s0_1_thrown : Int32) (x0_2 : Int32) (h : P_X8_answersAll_j39 (s0_1_terms, s0_1_number, s0_1_term, s0_1_triples, s0_1_store, s0_1_patterns, s0_1_query, s0_1_bound, s0_1_found, s0_1_work, s0_1_kept, s0_1_keptVariables, s0_1_answers, s0_1_thrown) x0_2 post) (H : Heap) (locs : List Loc) (hP : va_P (dC, dI) vwCl [(h0, .inr (8, [.int s0_1_terms, .ref h0_1, .ref h0_2, .int s0_1_triples, .ref h0_3, .int s0_1_patterns, .ref h0_4, .ref h0_5, .int s0_1_found, .ref h0_6, .int s0_1_kept, .int s0_1_keptVariables, .ref h0_7, .int s0_1_thrown])), (h0_1, .inl (cI, 100, .inl s0_1_number)), (h0_2, .inl (cI, 40, .inl s0_1_term)), (h0_3, .inl (cI, 180, .inl s0_1_store)), (h0_4, .inl (cI, 9, .inl s0_1_query)), (h0_5, .inl (cI, 16, .inl s0_1_bound)), (h0_6, .inl (cI, 2000, .inl s0_1_work)), (h0_7, .inl (cI, 2000, .inl s0_1_answers))] H) (hD : va_D A [(h0, .inr (8, [.int s0_1_terms, .ref h0_1, .ref h0_2, .int s0_1_triples, .ref h0_3, .int s0_1_patterns, .ref h0_4, .ref h0_5, .int s0_1_found, .ref h0_6, .int s0_1_kept, .int s0_1_keptVariables, .ref h0_7, .int s0_1_thrown])), (h0_1, .inl (cI, 100, .inl s0_1_number)), (h0_2, .inl (cI, 40, .inl s0_1_term)), (h0_3, .inl (cI, 180, .inl s0_1_store)), (h0_4, .inl (cI, 9, .inl s0_1_query)), (h0_5, .inl (cI, 16, .inl s0_1_bound)), (h0_6, .inl (cI, 2000, .inl s0_1_work)), (h0_7, .inl (cI, 2000, .inl s0_1_answers))]) (hS : va_S A s.heap H locs) (ls : Array Slot) (hl : lv_has ls 3 [(0, .ref h0)]), W p l e rm_X8_answersAll s m ([.ref h0] : List Value).toArray below meth c H locs 0 0 (MQ below (Q_X8_answersAll dC dI cI h0 h0_1 h0_2 h0_3 h0_4 h0_5 h0_6 h0_7 (s0_terms, s0_number, s0_term, s0_triples, s0_store, s0_patterns, s0_query, s0_bound, s0_found, s0_work, s0_kept, s0_keptVariables, s0_answers, s0_thrown) A post) (([.ref h0] : List Value).toArray) s 0 0 A) (F0 m 39 ls [.int x0_2, .ref h0]) := by
    intro s0_1_terms s0_1_number s0_1_term s0_1_triples s0_1_store s0_1_patterns s0_1_query s0_1_bound s0_1_found s0_1_work s0_1_kept s0_1_keptVariables s0_1_answers s0_1_thrown x0_2 h H locs hP hD hS ls hl
    refine va_put (D := (dC, dI)) (ci := 8) (v := .int x0_2) (ty := .int) (C := RX8) (T := TX8) (N := 14) hx hb hts (hinX8) tyX8 tyX8_ok nmX8 hown hK hP hD hS 0 rfl rfl 13 (by decide) (hts (.fieldLink RX8 31 "TripleJoinsModel" "thrown" "I") (by decide +kernel)) (fun _ h9 => h9) rfl (by decide +kernel) rfl rfl (Nat.le_of_ble_eq_true rfl) dX8_answersAll_39 (fun H locs hP hD hS => ?_)
    have hP : va_P (dC, dI) vwCl [(h0, .inr (8, [.int s0_1_terms, .ref h0_1, .ref h0_2, .int s0_1_triples, .ref h0_3, .int s0_1_patterns, .ref h0_4, .ref h0_5, .int s0_1_found, .ref h0_6, .int s0_1_kept, .int s0_1_keptVariables, .ref h0_7, .int x0_2])), (h0_1, .inl (cI, 100, .inl s0_1_number)), (h0_2, .inl (cI, 40, .inl s0_1_term)), (h0_3, .inl (cI, 180, .inl s0_1_store)), (h0_4, .inl (cI, 9, .inl s0_1_query)), (h0_5, .inl (cI, 16, .inl s0_1_bound)), (h0_6, .inl (cI, 2000, .inl s0_1_work)), (h0_7, .inl (cI, 2000, .inl s0_1_answers))] _ := hP
    have hD : va_D A [(h0, .inr (8, [.int s0_1_terms, .ref h0_1, .ref h0_2, .int s0_1_triples, .ref h0_3, .int s0_1_patterns, .ref h0_4, .ref h0_5, .int s0_1_found, .ref h0_6, .int s0_1_kept, .int s0_1_keptVariables, .ref h0_7, .int x0_2])), (h0_1, .inl (cI, 100, .inl s0_1_number)), (h0_2, .inl (cI, 40, .inl s0_1_term)), (h0_3, .inl (cI, 180, .inl s0_1_store)), (h0_4, .inl (cI, 9, .inl s0_1_query)), (h0_5, .inl (cI, 16, .inl s0_1_bound)), (h0_6, .inl (cI, 2000, .inl s0_1_work)), (h0_7, .inl (cI, 2000, .inl s0_1_answers))] := hD
    refine lv_aload_n hx hb dX8_answersAll_42 rfl (lv_at hl 0 rfl) ?_
    refine va_get (D := (dC, dI)) (ci := 8) (v := .int x0_2) (C := RX8) (T := TX8) (N := 14) hx hb hts (hinX8) hown hK hP 0 rfl rfl 13 (by decide) (hts (.fieldLink RX8 31 "TripleJoinsModel" "thrown" "I") (by decide +kernel)) (fun _ h9 => h9) rfl dX8_answersAll_43 ?_
    obtain ⟨ht_, hf_⟩ := h
    refine lv_if_le (tgt := 51) hx hb dX8_answersAll_46 (by decide) (fun c_3 => ?_) (fun c_3 => ?_)
    · have h := ht_ c_3
      refine lv_aload_n hx hb dX8_answersAll_51 rfl (lv_at hl 0 rfl) ?_
      refine lv_aload_n hx hb dX8_answersAll_52 rfl (lv_at hl 0 rfl) ?_
      refine va_get (D := (dC, dI)) (ci := 8) (v := .int s0_1_found) (C := RX8) (T := TX8) (N := 14) hx hb hts (hinX8) hown hK hP 0 rfl rfl 8 (by decide) (hts (.fieldLink RX8 86 "TripleJoinsModel" "found" "I") (by decide +kernel)) (fun _ h9 => h9) rfl dX8_answersAll_53 ?_
      refine va_put (D := (dC, dI)) (ci := 8) (v := .int s0_1_found) (ty := .int) (C := RX8) (T := TX8) (N := 14) hx hb hts (hinX8) tyX8 tyX8_ok nmX8 hown hK hP hD hS 0 rfl rfl 10 (by decide) (hts (.fieldLink RX8 96 "TripleJoinsModel" "kept" "I") (by decide +kernel)) (fun _ h9 => h9) rfl (by decide +kernel) rfl rfl (Nat.le_of_ble_eq_true rfl) dX8_answersAll_56 (fun H locs hP hD hS => ?_)
      have hP : va_P (dC, dI) vwCl [(h0, .inr (8, [.int s0_1_terms, .ref h0_1, .ref h0_2, .int s0_1_triples, .ref h0_3, .int s0_1_patterns, .ref h0_4, .ref h0_5, .int s0_1_found, .ref h0_6, .int s0_1_found, .int s0_1_keptVariables, .ref h0_7, .int x0_2])), (h0_1, .inl (cI, 100, .inl s0_1_number)), (h0_2, .inl (cI, 40, .inl s0_1_term)), (h0_3, .inl (cI, 180, .inl s0_1_store)), (h0_4, .inl (cI, 9, .inl s0_1_query)), (h0_5, .inl (cI, 16, .inl s0_1_bound)), (h0_6, .inl (cI, 2000, .inl s0_1_work)), (h0_7, .inl (cI, 2000, .inl s0_1_answers))] _ := hP
      have hD : va_D A [(h0, .inr (8, [.int s0_1_terms, .ref h0_1, .ref h0_2, .int s0_1_triples, .ref h0_3, .int s0_1_patterns, .ref h0_4, .ref h0_5, .int s0_1_found, .ref h0_6, .int s0_1_found, .int s0_1_keptVariables, .ref h0_7, .int x0_2])), (h0_1, .inl (cI, 100, .inl s0_1_number)), (h0_2, .inl (cI, 40, .inl s0_1_term)), (h0_3, .inl (cI, 180, .inl s0_1_store)), (h0_4, .inl (cI, 9, .inl s0_1_query)), (h0_5, .inl (cI, 16, .inl s0_1_bound)), (h0_6, .inl (cI, 2000, .inl s0_1_work)), (h0_7, .inl (cI, 2000, .inl s0_1_answers))] := hD
      refine lv_aload_n hx hb dX8_answersAll_59 rfl (lv_at hl 0 rfl) ?_
      refine lv_aload_n hx hb dX8_answersAll_60 rfl (lv_at hl 0 rfl) ?_
      have hPc := hP.sub (ws' := [(h0, .inr (8, [.int s0_1_terms, .ref h0_1, .ref h0_2, .int s0_1_triples, .ref h0_3, .int s0_1_patterns, .ref h0_4, .ref h0_5, .int s0_1_found, .ref h0_6, .int s0_1_found, .int s0_1_keptVariables, .ref h0_7, .int x0_2])), (h0_1, .inl (cI, 100, .inl s0_1_number)), (h0_2, .inl (cI, 40, .inl s0_1_term)), (h0_3, .inl (cI, 180, .inl s0_1_store)), (h0_4, .inl (cI, 9, .inl s0_1_query)), (h0_5, .inl (cI, 16, .inl s0_1_bound)), (h0_6, .inl (cI, 2000, .inl s0_1_work)), (h0_7, .inl (cI, 2000, .inl s0_1_answers))]) [0, 1, 2, 3, 4, 5, 6, 7] rfl
      have hDc := hD.sub (ws' := [(h0, .inr (8, [.int s0_1_terms, .ref h0_1, .ref h0_2, .int s0_1_triples, .ref h0_3, .int s0_1_patterns, .ref h0_4, .ref h0_5, .int s0_1_found, .ref h0_6, .int s0_1_found, .int s0_1_keptVariables, .ref h0_7, .int x0_2])), (h0_1, .inl (cI, 100, .inl s0_1_number)), (h0_2, .inl (cI, 40, .inl s0_1_term)), (h0_3, .inl (cI, 180, .inl s0_1_store)), (h0_4, .inl (cI, 9, .inl s0_1_query)), (h0_5, .inl (cI, 16, .inl s0_1_bound)), (h0_6, .inl (cI, 2000, .inl s0_1_work)), (h0_7, .inl (cI, 2000, .inl s0_1_answers))]) [0, 1, 2, 3, 4, 5, 6, 7] (by decide) rfl
      have hFc := fr0 hA hS
      refine va_calli (va_runV (As := []) (rest := [.ref h0]) ⟨hx, hb, hml, hown, hts⟩ (c_X8_allVariables l dC dI cI h0 h0_1 h0_2 h0_3 h0_4 h0_5 h0_6 h0_7 _ (s0_1_terms, s0_1_number, s0_1_term, s0_1_triples, s0_1_store, s0_1_patterns, s0_1_query, s0_1_bound, s0_1_found, s0_1_work, s0_1_found, s0_1_keptVariables, s0_1_answers, x0_2) _ h) (cwV 0 hts gX8_answersAll_X8_allVariables rfl rfl rfl (by decide +kernel) ⟨Nat.le_of_ble_eq_true rfl, Nat.le_of_ble_eq_true rfl⟩) (pb_V hPc hK hDc hN (ci := 8) (q0 := 0) rfl rfl) rfl rfl hl.1 rfl (lv_room (Nat.le_of_ble_eq_true rfl)) dX8_answersAll_61 ⟨Nat.zero_le _, Nat.zero_le _⟩) hS (fun q _ h => hFc q h) hFc (fun r_5 u_4 t H locs ht hvm h hB hz1 hk1 hS => ?_)
      have hP := vaPk hP hk1
      refine va_put (D := (dC, dI)) (ci := 8) (v := .int r_5) (ty := .int) (C := RX8) (T := TX8) (N := 14) hx hb hts (hinX8) tyX8 tyX8_ok nmX8 hown hK hP hD hS 0 rfl rfl 11 (by decide) (hts (.fieldLink RX8 99 "TripleJoinsModel" "keptVariables" "I") (by decide +kernel)) (fun _ h9 => h9) rfl (by decide +kernel) rfl rfl (Nat.le_of_ble_eq_true rfl) dX8_answersAll_64 (fun H locs hP hD hS => ?_)
      have hP : va_P (dC, dI) vwCl [(h0, .inr (8, [.int s0_1_terms, .ref h0_1, .ref h0_2, .int s0_1_triples, .ref h0_3, .int s0_1_patterns, .ref h0_4, .ref h0_5, .int s0_1_found, .ref h0_6, .int s0_1_found, .int r_5, .ref h0_7, .int x0_2])), (h0_1, .inl (cI, 100, .inl s0_1_number)), (h0_2, .inl (cI, 40, .inl s0_1_term)), (h0_3, .inl (cI, 180, .inl s0_1_store)), (h0_4, .inl (cI, 9, .inl s0_1_query)), (h0_5, .inl (cI, 16, .inl s0_1_bound)), (h0_6, .inl (cI, 2000, .inl s0_1_work)), (h0_7, .inl (cI, 2000, .inl s0_1_answers))] _ := hP
      have hD : va_D A [(h0, .inr (8, [.int s0_1_terms, .ref h0_1, .ref h0_2, .int s0_1_triples, .ref h0_3, .int s0_1_patterns, .ref h0_4, .ref h0_5, .int s0_1_found, .ref h0_6, .int s0_1_found, .int r_5, .ref h0_7, .int x0_2])), (h0_1, .inl (cI, 100, .inl s0_1_number)), (h0_2, .inl (cI, 40, .inl s0_1_term)), (h0_3, .inl (cI, 180, .inl s0_1_store)), (h0_4, .inl (cI, 9, .inl s0_1_query)), (h0_5, .inl (cI, 16, .inl s0_1_bound)), (h0_6, .inl (cI, 2000, .inl s0_1_work)), (h0_7, .inl (cI, 2000, .inl s0_1_answers))] := hD
      refine lv_iconst (v := (0 : Int32)) hx hb dX8_answersAll_67 (by decide) ?_
      refine lv_istore_n (lv' := [(1, .int (0 : Int32)), (0, .ref h0)]) hx hb dX8_answersAll_68 rfl hl (by decide) rfl (fun ls hl => ?_)
      have hl : lv_has ls 3 [(0, .ref h0), (1, .int (0 : Int32))] := lv_sub hl [1, 0] rfl
      obtain ⟨I_6, hI_6, n_6, h⟩ := h
      have loop_6 : ∀ (n_6 : Nat) (v1_7 : Int32) (s0_8_terms : Int32) (s0_8_number : Nat → Int32) (s0_8_term : Nat → Int32) (s0_8_triples : Int32) (s0_8_store : Nat → Int32) (s0_8_patterns : Int32) (s0_8_query : Nat → Int32) (s0_8_bound : Nat → Int32) (s0_8_found : Int32) (s0_8_work : Nat → Int32) (s0_8_kept : Int32) (s0_8_keptVariables : Int32) (s0_8_answers : Nat → Int32) (s0_8_thrown : Int32) (h : I_6 n_6 (v1_7, (s0_8_terms, s0_8_number, s0_8_term, s0_8_triples, s0_8_store, s0_8_patterns, s0_8_query, s0_8_bound, s0_8_found, s0_8_work, s0_8_kept, s0_8_keptVariables, s0_8_answers, s0_8_thrown))) (H : Heap) (locs : List Loc) (hP : va_P (dC, dI) vwCl [(h0, .inr (8, [.int s0_8_terms, .ref h0_1, .ref h0_2, .int s0_8_triples, .ref h0_3, .int s0_8_patterns, .ref h0_4, .ref h0_5, .int s0_8_found, .ref h0_6, .int s0_8_kept, .int s0_8_keptVariables, .ref h0_7, .int s0_8_thrown])), (h0_1, .inl (cI, 100, .inl s0_8_number)), (h0_2, .inl (cI, 40, .inl s0_8_term)), (h0_3, .inl (cI, 180, .inl s0_8_store)), (h0_4, .inl (cI, 9, .inl s0_8_query)), (h0_5, .inl (cI, 16, .inl s0_8_bound)), (h0_6, .inl (cI, 2000, .inl s0_8_work)), (h0_7, .inl (cI, 2000, .inl s0_8_answers))] H) (hD : va_D A [(h0, .inr (8, [.int s0_8_terms, .ref h0_1, .ref h0_2, .int s0_8_triples, .ref h0_3, .int s0_8_patterns, .ref h0_4, .ref h0_5, .int s0_8_found, .ref h0_6, .int s0_8_kept, .int s0_8_keptVariables, .ref h0_7, .int s0_8_thrown])), (h0_1, .inl (cI, 100, .inl s0_8_number)), (h0_2, .inl (cI, 40, .inl s0_8_term)), (h0_3, .inl (cI, 180, .inl s0_8_store)), (h0_4, .inl (cI, 9, .inl s0_8_query)), (h0_5, .inl (cI, 16, .inl s0_8_bound)), (h0_6, .inl (cI, 2000, .inl s0_8_work)), (h0_7, .inl (cI, 2000, .inl s0_8_answers))]) (hS : va_S A s.heap H locs) (ls : Array Slot) (hl : lv_has ls 3 [(0, .ref h0), (1, .int v1_7)]), W p l e rm_X8_answersAll s m ([.ref h0] : List Value).toArray below meth c H locs 0 0 (MQ below (Q_X8_answersAll dC dI cI h0 h0_1 h0_2 h0_3 h0_4 h0_5 h0_6 h0_7 (s0_terms, s0_number, s0_term, s0_triples, s0_store, s0_patterns, s0_query, s0_bound, s0_found, s0_work, s0_kept, s0_keptVariables, s0_answers, s0_thrown) A post) (([.ref h0] : List Value).toArray) s 0 0 A) (F0 m 69 ls []) := by
        intro n_6
        induction n_6 using Nat.strongRecOn with
        | ind n_6 ih_6 =>
          intro v1_7 s0_8_terms s0_8_number s0_8_term s0_8_triples s0_8_store s0_8_patterns s0_8_query s0_8_bound s0_8_found s0_8_work s0_8_kept s0_8_keptVariables s0_8_answers s0_8_thrown h H locs hP hD hS ls hl
          have h := hI_6 n_6 _ h
          have lab_120 : ∀ (s0_9_terms : Int32) (s0_9_number : Nat → Int32) (s0_9_term : Nat → Int32) (s0_9_triples : Int32) (s0_9_store : Nat → Int32) (s0_9_patterns : Int32) (s0_9_query : Nat → Int32) (s0_9_bound : Nat → Int32) (s0_9_found : Int32) (s0_9_work : Nat → Int32) (s0_9_kept : Int32) (s0_9_keptVariables : Int32) (s0_9_answers : Nat → Int32) (s0_9_thrown : Int32) (v1_10 : Int32) (v2_11 : Int32) (h : P_X8_answersAll_j120 (s0_9_terms, s0_9_number, s0_9_term, s0_9_triples, s0_9_store, s0_9_patterns, s0_9_query, s0_9_bound, s0_9_found, s0_9_work, s0_9_kept, s0_9_keptVariables, s0_9_answers, s0_9_thrown) v1_10 v2_11 (fun w => ∃ k, k < n_6 ∧ I_6 k w) post) (H : Heap) (locs : List Loc) (hP : va_P (dC, dI) vwCl [(h0, .inr (8, [.int s0_9_terms, .ref h0_1, .ref h0_2, .int s0_9_triples, .ref h0_3, .int s0_9_patterns, .ref h0_4, .ref h0_5, .int s0_9_found, .ref h0_6, .int s0_9_kept, .int s0_9_keptVariables, .ref h0_7, .int s0_9_thrown])), (h0_1, .inl (cI, 100, .inl s0_9_number)), (h0_2, .inl (cI, 40, .inl s0_9_term)), (h0_3, .inl (cI, 180, .inl s0_9_store)), (h0_4, .inl (cI, 9, .inl s0_9_query)), (h0_5, .inl (cI, 16, .inl s0_9_bound)), (h0_6, .inl (cI, 2000, .inl s0_9_work)), (h0_7, .inl (cI, 2000, .inl s0_9_answers))] H) (hD : va_D A [(h0, .inr (8, [.int s0_9_terms, .ref h0_1, .ref h0_2, .int s0_9_triples, .ref h0_3, .int s0_9_patterns, .ref h0_4, .ref h0_5, .int s0_9_found, .ref h0_6, .int s0_9_kept, .int s0_9_keptVariables, .ref h0_7, .int s0_9_thrown])), (h0_1, .inl (cI, 100, .inl s0_9_number)), (h0_2, .inl (cI, 40, .inl s0_9_term)), (h0_3, .inl (cI, 180, .inl s0_9_store)), (h0_4, .inl (cI, 9, .inl s0_9_query)), (h0_5, .inl (cI, 16, .inl s0_9_bound)), (h0_6, .inl (cI, 2000, .inl s0_9_work)), (h0_7, .inl (cI, 2000, .inl s0_9_answers))]) (hS : va_S A s.heap H locs) (ls : Array Slot) (hl : lv_has ls 3 [(0, .ref h0), (1, .int v1_10), (2, .int v2_11)]), W p l e rm_X8_answersAll s m ([.ref h0] : List Value).toArray below meth c H locs 0 0 (MQ below (Q_X8_answersAll dC dI cI h0 h0_1 h0_2 h0_3 h0_4 h0_5 h0_6 h0_7 (s0_terms, s0_number, s0_term, s0_triples, s0_store, s0_patterns, s0_query, s0_bound, s0_found, s0_work, s0_kept, s0_keptVariables, s0_answers, s0_thrown) A post) (([.ref h0] : List Value).toArray) s 0 0 A) (F0 m 120 ls []) := by
            intro s0_9_terms s0_9_number s0_9_term s0_9_triples s0_9_store s0_9_patterns s0_9_query s0_9_bound s0_9_found s0_9_work s0_9_kept s0_9_keptVariables s0_9_answers s0_9_thrown v1_10 v2_11 h H locs hP hD hS ls hl
            refine lv_aload_n hx hb dX8_answersAll_120 rfl (lv_at hl 0 rfl) ?_
            refine va_get (D := (dC, dI)) (ci := 8) (v := .ref h0_7) (C := RX8) (T := TX8) (N := 14) hx hb hts (hinX8) hown hK hP 0 rfl rfl 12 (by decide) (hts (.fieldLink RX8 28 "TripleJoinsModel" "answers" "[I") (by decide +kernel)) (fun _ h9 => h9) rfl dX8_answersAll_121 ?_
            refine lv_iload_n hx hb dX8_answersAll_124 rfl (lv_at hl 2 rfl) ?_
            refine lv_aload_n hx hb dX8_answersAll_125 rfl (lv_at hl 0 rfl) ?_
            refine va_get (D := (dC, dI)) (ci := 8) (v := .ref h0_6) (C := RX8) (T := TX8) (N := 14) hx hb hts (hinX8) hown hK hP 0 rfl rfl 9 (by decide) (hts (.fieldLink RX8 25 "TripleJoinsModel" "work" "[I") (by decide +kernel)) (fun _ h9 => h9) rfl dX8_answersAll_126 ?_
            refine lv_iload_n hx hb dX8_answersAll_129 rfl (lv_at hl 1 rfl) ?_
            obtain ⟨hin, h⟩ := h
            refine va_iald (n := 2000) hx hb hK hP 6 0 rfl rfl hin dX8_answersAll_130 ?_
            obtain ⟨hin, h⟩ := h
            refine va_iast (n := 2000) hx hb hK hP hD hS 7 0 rfl rfl hin dX8_answersAll_131 (fun H locs hP hD hS => ?_)
            have hP : va_P (dC, dI) vwCl [(h0, .inr (8, [.int s0_9_terms, .ref h0_1, .ref h0_2, .int s0_9_triples, .ref h0_3, .int s0_9_patterns, .ref h0_4, .ref h0_5, .int s0_9_found, .ref h0_6, .int s0_9_kept, .int s0_9_keptVariables, .ref h0_7, .int s0_9_thrown])), (h0_1, .inl (cI, 100, .inl s0_9_number)), (h0_2, .inl (cI, 40, .inl s0_9_term)), (h0_3, .inl (cI, 180, .inl s0_9_store)), (h0_4, .inl (cI, 9, .inl s0_9_query)), (h0_5, .inl (cI, 16, .inl s0_9_bound)), (h0_6, .inl (cI, 2000, .inl s0_9_work)), (h0_7, .inl (cI, 2000, .inl (upd s0_9_answers (v2_11).toNatClampNeg (s0_9_work (v1_10).toNatClampNeg))))] _ := hP
            have hD : va_D A [(h0, .inr (8, [.int s0_9_terms, .ref h0_1, .ref h0_2, .int s0_9_triples, .ref h0_3, .int s0_9_patterns, .ref h0_4, .ref h0_5, .int s0_9_found, .ref h0_6, .int s0_9_kept, .int s0_9_keptVariables, .ref h0_7, .int s0_9_thrown])), (h0_1, .inl (cI, 100, .inl s0_9_number)), (h0_2, .inl (cI, 40, .inl s0_9_term)), (h0_3, .inl (cI, 180, .inl s0_9_store)), (h0_4, .inl (cI, 9, .inl s0_9_query)), (h0_5, .inl (cI, 16, .inl s0_9_bound)), (h0_6, .inl (cI, 2000, .inl s0_9_work)), (h0_7, .inl (cI, 2000, .inl (upd s0_9_answers (v2_11).toNatClampNeg (s0_9_work (v1_10).toNatClampNeg))))] := hD
            refine lv_iinc (v := (v1_10 + (1 : Int32))) (lv' := [(1, .int (v1_10 + (1 : Int32))), (0, .ref h0), (2, .int v2_11)]) hx hb dX8_answersAll_132 hl (k := 1) rfl rfl (by decide) rfl (fun ls hl => ?_)
            refine lv_goto (tgt := 69) hx hb dX8_answersAll_135 (by decide) ?_
            have hl : lv_has ls 3 [(0, .ref h0), (1, .int (v1_10 + (1 : Int32)))] := lv_sub hl [1, 0] rfl
            obtain ⟨k_12, hk_13, h⟩ := h
            exact ih_6 k_12 hk_13 (v1_10 + (1 : Int32)) s0_9_terms s0_9_number s0_9_term s0_9_triples s0_9_store s0_9_patterns s0_9_query s0_9_bound s0_9_found s0_9_work s0_9_kept s0_9_keptVariables (upd s0_9_answers (v2_11).toNatClampNeg (s0_9_work (v1_10).toNatClampNeg)) s0_9_thrown h _ _ hP hD hS _ hl
          refine lv_iload_n hx hb dX8_answersAll_69 rfl (lv_at hl 1 rfl) ?_
          refine lv_aload_n hx hb dX8_answersAll_70 rfl (lv_at hl 0 rfl) ?_
          refine va_get (D := (dC, dI)) (ci := 8) (v := .int s0_8_kept) (C := RX8) (T := TX8) (N := 14) hx hb hts (hinX8) hown hK hP 0 rfl rfl 10 (by decide) (hts (.fieldLink RX8 96 "TripleJoinsModel" "kept" "I") (by decide +kernel)) (fun _ h9 => h9) rfl dX8_answersAll_71 ?_
          obtain ⟨ht_, hf_⟩ := h
          refine lv_icmp_ge (tgt := 138) hx hb dX8_answersAll_74 (by decide) (fun c_14 => ?_) (fun c_14 => ?_)
          · have h := ht_ c_14
            refine lv_aload_n hx hb dX8_answersAll_138 rfl (lv_at hl 0 rfl) ?_
            refine va_get (D := (dC, dI)) (ci := 8) (v := .int s0_8_kept) (C := RX8) (T := TX8) (N := 14) hx hb hts (hinX8) hown hK hP 0 rfl rfl 10 (by decide) (hts (.fieldLink RX8 96 "TripleJoinsModel" "kept" "I") (by decide +kernel)) (fun _ h9 => h9) rfl dX8_answersAll_139 ?_
            exact W.iret (v := s0_8_kept) hx hb hr (fun t ht hW => ⟨⟨s0_8_kept, (s0_8_terms, s0_8_number, s0_8_term, s0_8_triples, s0_8_store, s0_8_patterns, s0_8_query, s0_8_bound, s0_8_found, s0_8_work, s0_8_kept, s0_8_keptVariables, s0_8_answers, s0_8_thrown), rfl, h, ⟨by rw [ht]; exact hP, hD⟩⟩, hS.F ht⟩) hS.2.2 dX8_answersAll_142
          · have h := hf_ c_14
            refine lv_iload_n hx hb dX8_answersAll_77 rfl (lv_at hl 1 rfl) ?_
            refine lv_istore_n (lv' := [(2, .int v1_7), (0, .ref h0), (1, .int v1_7)]) hx hb dX8_answersAll_78 rfl hl (by decide) rfl (fun ls hl => ?_)
            have hl : lv_has ls 3 [(0, .ref h0), (1, .int v1_7), (2, .int v1_7)] := lv_sub hl [1, 2, 0] rfl
            obtain ⟨I_15, hI_15, n_15, h⟩ := h
            have loop_15 : ∀ (n_15 : Nat) (v2_16 : Int32) (s0_17_terms : Int32) (s0_17_number : Nat → Int32) (s0_17_term : Nat → Int32) (s0_17_triples : Int32) (s0_17_store : Nat → Int32) (s0_17_patterns : Int32) (s0_17_query : Nat → Int32) (s0_17_bound : Nat → Int32) (s0_17_found : Int32) (s0_17_work : Nat → Int32) (s0_17_kept : Int32) (s0_17_keptVariables : Int32) (s0_17_answers : Nat → Int32) (s0_17_thrown : Int32) (h : I_15 n_15 (v2_16, (s0_17_terms, s0_17_number, s0_17_term, s0_17_triples, s0_17_store, s0_17_patterns, s0_17_query, s0_17_bound, s0_17_found, s0_17_work, s0_17_kept, s0_17_keptVariables, s0_17_answers, s0_17_thrown))) (H : Heap) (locs : List Loc) (hP : va_P (dC, dI) vwCl [(h0, .inr (8, [.int s0_17_terms, .ref h0_1, .ref h0_2, .int s0_17_triples, .ref h0_3, .int s0_17_patterns, .ref h0_4, .ref h0_5, .int s0_17_found, .ref h0_6, .int s0_17_kept, .int s0_17_keptVariables, .ref h0_7, .int s0_17_thrown])), (h0_1, .inl (cI, 100, .inl s0_17_number)), (h0_2, .inl (cI, 40, .inl s0_17_term)), (h0_3, .inl (cI, 180, .inl s0_17_store)), (h0_4, .inl (cI, 9, .inl s0_17_query)), (h0_5, .inl (cI, 16, .inl s0_17_bound)), (h0_6, .inl (cI, 2000, .inl s0_17_work)), (h0_7, .inl (cI, 2000, .inl s0_17_answers))] H) (hD : va_D A [(h0, .inr (8, [.int s0_17_terms, .ref h0_1, .ref h0_2, .int s0_17_triples, .ref h0_3, .int s0_17_patterns, .ref h0_4, .ref h0_5, .int s0_17_found, .ref h0_6, .int s0_17_kept, .int s0_17_keptVariables, .ref h0_7, .int s0_17_thrown])), (h0_1, .inl (cI, 100, .inl s0_17_number)), (h0_2, .inl (cI, 40, .inl s0_17_term)), (h0_3, .inl (cI, 180, .inl s0_17_store)), (h0_4, .inl (cI, 9, .inl s0_17_query)), (h0_5, .inl (cI, 16, .inl s0_17_bound)), (h0_6, .inl (cI, 2000, .inl s0_17_work)), (h0_7, .inl (cI, 2000, .inl s0_17_answers))]) (hS : va_S A s.heap H locs) (ls : Array Slot) (hl : lv_has ls 3 [(0, .ref h0), (1, .int v1_7), (2, .int v2_16)]), W p l e rm_X8_answersAll s m ([.ref h0] : List Value).toArray below meth c H locs 0 0 (MQ below (Q_X8_answersAll dC dI cI h0 h0_1 h0_2 h0_3 h0_4 h0_5 h0_6 h0_7 (s0_terms, s0_number, s0_term, s0_triples, s0_store, s0_patterns, s0_query, s0_bound, s0_found, s0_work, s0_kept, s0_keptVariables, s0_answers, s0_thrown) A post) (([.ref h0] : List Value).toArray) s 0 0 A) (F0 m 79 ls []) := by
              intro n_15
              induction n_15 using Nat.strongRecOn with
              | ind n_15 ih_15 =>
                intro v2_16 s0_17_terms s0_17_number s0_17_term s0_17_triples s0_17_store s0_17_patterns s0_17_query s0_17_bound s0_17_found s0_17_work s0_17_kept s0_17_keptVariables s0_17_answers s0_17_thrown h H locs hP hD hS ls hl
                have h := hI_15 n_15 _ h
                refine lv_iload_n hx hb dX8_answersAll_79 rfl (lv_at hl 2 rfl) ?_
                obtain ⟨ht_, hf_⟩ := h
                refine lv_if_le (tgt := 120) hx hb dX8_answersAll_80 (by decide) (fun c_18 => ?_) (fun c_18 => ?_)
                · have h := ht_ c_18
                  exact lab_120 s0_17_terms s0_17_number s0_17_term s0_17_triples s0_17_store s0_17_patterns s0_17_query s0_17_bound s0_17_found s0_17_work s0_17_kept s0_17_keptVariables s0_17_answers s0_17_thrown v1_7 v2_16 h _ _ hP hD hS _ hl
                · have h := hf_ c_18
                  refine lv_aload_n hx hb dX8_answersAll_83 rfl (lv_at hl 0 rfl) ?_
                  refine va_get (D := (dC, dI)) (ci := 8) (v := .ref h0_7) (C := RX8) (T := TX8) (N := 14) hx hb hts (hinX8) hown hK hP 0 rfl rfl 12 (by decide) (hts (.fieldLink RX8 28 "TripleJoinsModel" "answers" "[I") (by decide +kernel)) (fun _ h9 => h9) rfl dX8_answersAll_84 ?_
                  refine lv_iload_n hx hb dX8_answersAll_87 rfl (lv_at hl 2 rfl) ?_
                  refine lv_iconst (v := (1 : Int32)) hx hb dX8_answersAll_88 (by decide) ?_
                  refine lv_isub hx hb dX8_answersAll_89 ?_
                  obtain ⟨hin, h⟩ := h
                  refine va_iald (n := 2000) hx hb hK hP 7 0 rfl rfl hin dX8_answersAll_90 ?_
                  refine lv_aload_n hx hb dX8_answersAll_91 rfl (lv_at hl 0 rfl) ?_
                  refine va_get (D := (dC, dI)) (ci := 8) (v := .ref h0_6) (C := RX8) (T := TX8) (N := 14) hx hb hts (hinX8) hown hK hP 0 rfl rfl 9 (by decide) (hts (.fieldLink RX8 25 "TripleJoinsModel" "work" "[I") (by decide +kernel)) (fun _ h9 => h9) rfl dX8_answersAll_92 ?_
                  refine lv_iload_n hx hb dX8_answersAll_95 rfl (lv_at hl 1 rfl) ?_
                  obtain ⟨hin, h⟩ := h
                  refine va_iald (n := 2000) hx hb hK hP 6 0 rfl rfl hin dX8_answersAll_96 ?_
                  obtain ⟨ht_, hf_⟩ := h
                  refine lv_icmp_le (tgt := 120) hx hb dX8_answersAll_97 (by decide) (fun c_19 => ?_) (fun c_19 => ?_)
                  · have h := ht_ c_19
                    exact lab_120 s0_17_terms s0_17_number s0_17_term s0_17_triples s0_17_store s0_17_patterns s0_17_query s0_17_bound s0_17_found s0_17_work s0_17_kept s0_17_keptVariables s0_17_answers s0_17_thrown v1_7 v2_16 h _ _ hP hD hS _ hl
                  · have h := hf_ c_19
                    refine lv_aload_n hx hb dX8_answersAll_100 rfl (lv_at hl 0 rfl) ?_
                    refine va_get (D := (dC, dI)) (ci := 8) (v := .ref h0_7) (C := RX8) (T := TX8) (N := 14) hx hb hts (hinX8) hown hK hP 0 rfl rfl 12 (by decide) (hts (.fieldLink RX8 28 "TripleJoinsModel" "answers" "[I") (by decide +kernel)) (fun _ h9 => h9) rfl dX8_answersAll_101 ?_
                    refine lv_iload_n hx hb dX8_answersAll_104 rfl (lv_at hl 2 rfl) ?_
                    refine lv_aload_n hx hb dX8_answersAll_105 rfl (lv_at hl 0 rfl) ?_
                    refine va_get (D := (dC, dI)) (ci := 8) (v := .ref h0_7) (C := RX8) (T := TX8) (N := 14) hx hb hts (hinX8) hown hK hP 0 rfl rfl 12 (by decide) (hts (.fieldLink RX8 28 "TripleJoinsModel" "answers" "[I") (by decide +kernel)) (fun _ h9 => h9) rfl dX8_answersAll_106 ?_
                    refine lv_iload_n hx hb dX8_answersAll_109 rfl (lv_at hl 2 rfl) ?_
                    refine lv_iconst (v := (1 : Int32)) hx hb dX8_answersAll_110 (by decide) ?_
                    refine lv_isub hx hb dX8_answersAll_111 ?_
                    obtain ⟨hin, h⟩ := h
                    refine va_iald (n := 2000) hx hb hK hP 7 0 rfl rfl hin dX8_answersAll_112 ?_
                    obtain ⟨hin, h⟩ := h
                    refine va_iast (n := 2000) hx hb hK hP hD hS 7 0 rfl rfl hin dX8_answersAll_113 (fun H locs hP hD hS => ?_)
                    have hP : va_P (dC, dI) vwCl [(h0, .inr (8, [.int s0_17_terms, .ref h0_1, .ref h0_2, .int s0_17_triples, .ref h0_3, .int s0_17_patterns, .ref h0_4, .ref h0_5, .int s0_17_found, .ref h0_6, .int s0_17_kept, .int s0_17_keptVariables, .ref h0_7, .int s0_17_thrown])), (h0_1, .inl (cI, 100, .inl s0_17_number)), (h0_2, .inl (cI, 40, .inl s0_17_term)), (h0_3, .inl (cI, 180, .inl s0_17_store)), (h0_4, .inl (cI, 9, .inl s0_17_query)), (h0_5, .inl (cI, 16, .inl s0_17_bound)), (h0_6, .inl (cI, 2000, .inl s0_17_work)), (h0_7, .inl (cI, 2000, .inl (upd s0_17_answers (v2_16).toNatClampNeg (s0_17_answers ((v2_16 - (1 : Int32))).toNatClampNeg))))] _ := hP
                    have hD : va_D A [(h0, .inr (8, [.int s0_17_terms, .ref h0_1, .ref h0_2, .int s0_17_triples, .ref h0_3, .int s0_17_patterns, .ref h0_4, .ref h0_5, .int s0_17_found, .ref h0_6, .int s0_17_kept, .int s0_17_keptVariables, .ref h0_7, .int s0_17_thrown])), (h0_1, .inl (cI, 100, .inl s0_17_number)), (h0_2, .inl (cI, 40, .inl s0_17_term)), (h0_3, .inl (cI, 180, .inl s0_17_store)), (h0_4, .inl (cI, 9, .inl s0_17_query)), (h0_5, .inl (cI, 16, .inl s0_17_bound)), (h0_6, .inl (cI, 2000, .inl s0_17_work)), (h0_7, .inl (cI, 2000, .inl (upd s0_17_answers (v2_16).toNatClampNeg (s0_17_answers ((v2_16 - (1 : Int32))).toNatClampNeg))))] := hD
                    refine lv_iinc (v := (v2_16 + (-1 : Int32))) (lv' := [(2, .int (v2_16 + (-1 : Int32))), (0, .ref h0), (1, .int v1_7)]) hx hb dX8_answersAll_114 hl (k := 2) rfl rfl (by decide) rfl (fun ls hl => ?_)
                    refine lv_goto (tgt := 79) hx hb dX8_answersAll_117 (by decide) ?_
                    have hl : lv_has ls 3 [(0, .ref h0), (1, .int v1_7), (2, .int (v2_16 + (-1 : Int32)))] := lv_sub hl [1, 2, 0] rfl
                    obtain ⟨k_20, hk_21, h⟩ := h
                    exact ih_15 k_20 hk_21 (v2_16 + (-1 : Int32)) s0_17_terms s0_17_number s0_17_term s0_17_triples s0_17_store s0_17_patterns s0_17_query s0_17_bound s0_17_found s0_17_work s0_17_kept s0_17_keptVariables (upd s0_17_answers (v2_16).toNatClampNeg (s0_17_answers ((v2_16 - (1 : Int32))).toNatClampNeg)) s0_17_thrown h _ _ hP hD hS _ hl
            exact loop_15 n_15 v1_7 s0_8_terms s0_8_number s0_8_term s0_8_triples s0_8_store s0_8_patterns s0_8_query s0_8_bound s0_8_found s0_8_work s0_8_kept s0_8_keptVariables s0_8_answers s0_8_thrown h _ _ hP hD hS _ hl
      exact loop_6 n_6 (0 : Int32) s0_1_terms s0_1_number s0_1_term s0_1_triples s0_1_store s0_1_patterns s0_1_query s0_1_bound s0_1_found s0_1_work s0_1_found r_5 s0_1_answers x0_2 h _ _ hP hD hS _ hl
    · have h := hf_ c_3
      refine lv_iconst (v := (0 : Int32)) hx hb dX8_answersAll_49 (by decide) ?_
      exact W.iret (v := (0 : Int32)) hx hb hr (fun t ht hW => ⟨⟨(0 : Int32), (s0_1_terms, s0_1_number, s0_1_term, s0_1_triples, s0_1_store, s0_1_patterns, s0_1_query, s0_1_bound, s0_1_found, s0_1_work, s0_1_kept, s0_1_keptVariables, s0_1_answers, x0_2), rfl, h, ⟨by rw [ht]; exact hP, hD⟩⟩, hS.F ht⟩) hS.2.2 dX8_answersAll_50
  have lab_34 : ∀ (s0_22_terms : Int32) (s0_22_number : Nat → Int32) (s0_22_term : Nat → Int32) (s0_22_triples : Int32) (s0_22_store : Nat → Int32) (s0_22_patterns : Int32) (s0_22_query : Nat → Int32) (s0_22_bound : Nat → Int32) (s0_22_found : Int32) (s0_22_work : Nat → Int32) (s0_22_kept : Int32) (s0_22_keptVariables : Int32) (s0_22_answers : Nat → Int32) (s0_22_thrown : Int32) (h : P_X8_answersAll_j34 (s0_22_terms, s0_22_number, s0_22_term, s0_22_triples, s0_22_store, s0_22_patterns, s0_22_query, s0_22_bound, s0_22_found, s0_22_work, s0_22_kept, s0_22_keptVariables, s0_22_answers, s0_22_thrown) post) (H : Heap) (locs : List Loc) (hP : va_P (dC, dI) vwCl [(h0, .inr (8, [.int s0_22_terms, .ref h0_1, .ref h0_2, .int s0_22_triples, .ref h0_3, .int s0_22_patterns, .ref h0_4, .ref h0_5, .int s0_22_found, .ref h0_6, .int s0_22_kept, .int s0_22_keptVariables, .ref h0_7, .int s0_22_thrown])), (h0_1, .inl (cI, 100, .inl s0_22_number)), (h0_2, .inl (cI, 40, .inl s0_22_term)), (h0_3, .inl (cI, 180, .inl s0_22_store)), (h0_4, .inl (cI, 9, .inl s0_22_query)), (h0_5, .inl (cI, 16, .inl s0_22_bound)), (h0_6, .inl (cI, 2000, .inl s0_22_work)), (h0_7, .inl (cI, 2000, .inl s0_22_answers))] H) (hD : va_D A [(h0, .inr (8, [.int s0_22_terms, .ref h0_1, .ref h0_2, .int s0_22_triples, .ref h0_3, .int s0_22_patterns, .ref h0_4, .ref h0_5, .int s0_22_found, .ref h0_6, .int s0_22_kept, .int s0_22_keptVariables, .ref h0_7, .int s0_22_thrown])), (h0_1, .inl (cI, 100, .inl s0_22_number)), (h0_2, .inl (cI, 40, .inl s0_22_term)), (h0_3, .inl (cI, 180, .inl s0_22_store)), (h0_4, .inl (cI, 9, .inl s0_22_query)), (h0_5, .inl (cI, 16, .inl s0_22_bound)), (h0_6, .inl (cI, 2000, .inl s0_22_work)), (h0_7, .inl (cI, 2000, .inl s0_22_answers))]) (hS : va_S A s.heap H locs) (ls : Array Slot) (hl : lv_has ls 3 [(0, .ref h0)]), W p l e rm_X8_answersAll s m ([.ref h0] : List Value).toArray below meth c H locs 0 0 (MQ below (Q_X8_answersAll dC dI cI h0 h0_1 h0_2 h0_3 h0_4 h0_5 h0_6 h0_7 (s0_terms, s0_number, s0_term, s0_triples, s0_store, s0_patterns, s0_query, s0_bound, s0_found, s0_work, s0_kept, s0_keptVariables, s0_answers, s0_thrown) A post) (([.ref h0] : List Value).toArray) s 0 0 A) (F0 m 34 ls [.ref h0]) := by
    intro s0_22_terms s0_22_number s0_22_term s0_22_triples s0_22_store s0_22_patterns s0_22_query s0_22_bound s0_22_found s0_22_work s0_22_kept s0_22_keptVariables s0_22_answers s0_22_thrown h H locs hP hD hS ls hl
    refine lv_iconst (v := (1 : Int32)) hx hb dX8_answersAll_34 (by decide) ?_
    refine lv_goto (tgt := 39) hx hb dX8_answersAll_35 (by decide) ?_
    exact lab_39 s0_22_terms s0_22_number s0_22_term s0_22_triples s0_22_store s0_22_patterns s0_22_query s0_22_bound s0_22_found s0_22_work s0_22_kept s0_22_keptVariables s0_22_answers s0_22_thrown (1 : Int32) h _ _ hP hD hS _ hl
  have lab_16 : ∀ (s0_23_terms : Int32) (s0_23_number : Nat → Int32) (s0_23_term : Nat → Int32) (s0_23_triples : Int32) (s0_23_store : Nat → Int32) (s0_23_patterns : Int32) (s0_23_query : Nat → Int32) (s0_23_bound : Nat → Int32) (s0_23_found : Int32) (s0_23_work : Nat → Int32) (s0_23_kept : Int32) (s0_23_keptVariables : Int32) (s0_23_answers : Nat → Int32) (s0_23_thrown : Int32) (h : P_X8_answersAll_j16 (s0_23_terms, s0_23_number, s0_23_term, s0_23_triples, s0_23_store, s0_23_patterns, s0_23_query, s0_23_bound, s0_23_found, s0_23_work, s0_23_kept, s0_23_keptVariables, s0_23_answers, s0_23_thrown) post) (H : Heap) (locs : List Loc) (hP : va_P (dC, dI) vwCl [(h0, .inr (8, [.int s0_23_terms, .ref h0_1, .ref h0_2, .int s0_23_triples, .ref h0_3, .int s0_23_patterns, .ref h0_4, .ref h0_5, .int s0_23_found, .ref h0_6, .int s0_23_kept, .int s0_23_keptVariables, .ref h0_7, .int s0_23_thrown])), (h0_1, .inl (cI, 100, .inl s0_23_number)), (h0_2, .inl (cI, 40, .inl s0_23_term)), (h0_3, .inl (cI, 180, .inl s0_23_store)), (h0_4, .inl (cI, 9, .inl s0_23_query)), (h0_5, .inl (cI, 16, .inl s0_23_bound)), (h0_6, .inl (cI, 2000, .inl s0_23_work)), (h0_7, .inl (cI, 2000, .inl s0_23_answers))] H) (hD : va_D A [(h0, .inr (8, [.int s0_23_terms, .ref h0_1, .ref h0_2, .int s0_23_triples, .ref h0_3, .int s0_23_patterns, .ref h0_4, .ref h0_5, .int s0_23_found, .ref h0_6, .int s0_23_kept, .int s0_23_keptVariables, .ref h0_7, .int s0_23_thrown])), (h0_1, .inl (cI, 100, .inl s0_23_number)), (h0_2, .inl (cI, 40, .inl s0_23_term)), (h0_3, .inl (cI, 180, .inl s0_23_store)), (h0_4, .inl (cI, 9, .inl s0_23_query)), (h0_5, .inl (cI, 16, .inl s0_23_bound)), (h0_6, .inl (cI, 2000, .inl s0_23_work)), (h0_7, .inl (cI, 2000, .inl s0_23_answers))]) (hS : va_S A s.heap H locs) (ls : Array Slot) (hl : lv_has ls 3 [(0, .ref h0)]), W p l e rm_X8_answersAll s m ([.ref h0] : List Value).toArray below meth c H locs 0 0 (MQ below (Q_X8_answersAll dC dI cI h0 h0_1 h0_2 h0_3 h0_4 h0_5 h0_6 h0_7 (s0_terms, s0_number, s0_term, s0_triples, s0_store, s0_patterns, s0_query, s0_bound, s0_found, s0_work, s0_kept, s0_keptVariables, s0_answers, s0_thrown) A post) (([.ref h0] : List Value).toArray) s 0 0 A) (F0 m 16 ls []) := by
    intro s0_23_terms s0_23_number s0_23_term s0_23_triples s0_23_store s0_23_patterns s0_23_query s0_23_bound s0_23_found s0_23_work s0_23_kept s0_23_keptVariables s0_23_answers s0_23_thrown h H locs hP hD hS ls hl
    refine lv_aload_n hx hb dX8_answersAll_16 rfl (lv_at hl 0 rfl) ?_
    refine lv_aload_n hx hb dX8_answersAll_17 rfl (lv_at hl 0 rfl) ?_
    refine va_get (D := (dC, dI)) (ci := 8) (v := .int s0_23_patterns) (C := RX8) (T := TX8) (N := 14) hx hb hts (hinX8) hown hK hP 0 rfl rfl 5 (by decide) (hts (.fieldLink RX8 67 "TripleJoinsModel" "patterns" "I") (by decide +kernel)) (fun _ h9 => h9) rfl dX8_answersAll_18 ?_
    obtain ⟨ht_, hf_⟩ := h
    refine lv_if_eq (tgt := 34) hx hb dX8_answersAll_21 (by decide) (fun c_24 => ?_) (fun c_24 => ?_)
    · have h := ht_ c_24
      exact lab_34 s0_23_terms s0_23_number s0_23_term s0_23_triples s0_23_store s0_23_patterns s0_23_query s0_23_bound s0_23_found s0_23_work s0_23_kept s0_23_keptVariables s0_23_answers s0_23_thrown h _ _ hP hD hS _ hl
    · have h := hf_ c_24
      refine lv_aload_n hx hb dX8_answersAll_24 rfl (lv_at hl 0 rfl) ?_
      refine va_get (D := (dC, dI)) (ci := 8) (v := .int s0_23_found) (C := RX8) (T := TX8) (N := 14) hx hb hts (hinX8) hown hK hP 0 rfl rfl 8 (by decide) (hts (.fieldLink RX8 86 "TripleJoinsModel" "found" "I") (by decide +kernel)) (fun _ h9 => h9) rfl dX8_answersAll_25 ?_
      refine lv_sipush (v := (2000 : Int32)) hx hb dX8_answersAll_28 (by decide) ?_
      obtain ⟨ht_, hf_⟩ := h
      refine lv_icmp_le (tgt := 38) hx hb dX8_answersAll_31 (by decide) (fun c_25 => ?_) (fun c_25 => ?_)
      · have h := ht_ c_25
        refine lv_iconst (v := (0 : Int32)) hx hb dX8_answersAll_38 (by decide) ?_
        exact lab_39 s0_23_terms s0_23_number s0_23_term s0_23_triples s0_23_store s0_23_patterns s0_23_query s0_23_bound s0_23_found s0_23_work s0_23_kept s0_23_keptVariables s0_23_answers s0_23_thrown (0 : Int32) h _ _ hP hD hS _ hl
      · have h := hf_ c_25
        exact lab_34 s0_23_terms s0_23_number s0_23_term s0_23_triples s0_23_store s0_23_patterns s0_23_query s0_23_bound s0_23_found s0_23_work s0_23_kept s0_23_keptVariables s0_23_answers s0_23_thrown h _ _ hP hD hS _ hl
  refine lv_aload_n hx hb dX8_answersAll_0 rfl (lv_at hl 0 rfl) ?_
  refine lv_iconst (v := (0 : Int32)) hx hb dX8_answersAll_1 (by decide) ?_
  refine va_put (D := (dC, dI)) (ci := 8) (v := .int (0 : Int32)) (ty := .int) (C := RX8) (T := TX8) (N := 14) hx hb hts (hinX8) tyX8 tyX8_ok nmX8 hown hK hP hD hS 0 rfl rfl 13 (by decide) (hts (.fieldLink RX8 31 "TripleJoinsModel" "thrown" "I") (by decide +kernel)) (fun _ h9 => h9) rfl (by decide +kernel) rfl rfl (Nat.le_of_ble_eq_true rfl) dX8_answersAll_2 (fun H locs hP hD hS => ?_)
  have hP : va_P (dC, dI) vwCl [(h0, .inr (8, [.int s0_terms, .ref h0_1, .ref h0_2, .int s0_triples, .ref h0_3, .int s0_patterns, .ref h0_4, .ref h0_5, .int s0_found, .ref h0_6, .int s0_kept, .int s0_keptVariables, .ref h0_7, .int (0 : Int32)])), (h0_1, .inl (cI, 100, .inl s0_number)), (h0_2, .inl (cI, 40, .inl s0_term)), (h0_3, .inl (cI, 180, .inl s0_store)), (h0_4, .inl (cI, 9, .inl s0_query)), (h0_5, .inl (cI, 16, .inl s0_bound)), (h0_6, .inl (cI, 2000, .inl s0_work)), (h0_7, .inl (cI, 2000, .inl s0_answers))] _ := hP
  have hD : va_D A [(h0, .inr (8, [.int s0_terms, .ref h0_1, .ref h0_2, .int s0_triples, .ref h0_3, .int s0_patterns, .ref h0_4, .ref h0_5, .int s0_found, .ref h0_6, .int s0_kept, .int s0_keptVariables, .ref h0_7, .int (0 : Int32)])), (h0_1, .inl (cI, 100, .inl s0_number)), (h0_2, .inl (cI, 40, .inl s0_term)), (h0_3, .inl (cI, 180, .inl s0_store)), (h0_4, .inl (cI, 9, .inl s0_query)), (h0_5, .inl (cI, 16, .inl s0_bound)), (h0_6, .inl (cI, 2000, .inl s0_work)), (h0_7, .inl (cI, 2000, .inl s0_answers))] := hD
  refine lv_aload_n hx hb dX8_answersAll_5 rfl (lv_at hl 0 rfl) ?_
  refine va_get (D := (dC, dI)) (ci := 8) (v := .int s0_patterns) (C := RX8) (T := TX8) (N := 14) hx hb hts (hinX8) hown hK hP 0 rfl rfl 5 (by decide) (hts (.fieldLink RX8 67 "TripleJoinsModel" "patterns" "I") (by decide +kernel)) (fun _ h9 => h9) rfl dX8_answersAll_6 ?_
  obtain ⟨ht_, hf_⟩ := h
  refine lv_if_le (tgt := 16) hx hb dX8_answersAll_9 (by decide) (fun c_26 => ?_) (fun c_26 => ?_)
  · have h := ht_ c_26
    exact lab_16 s0_terms s0_number s0_term s0_triples s0_store s0_patterns s0_query s0_bound s0_found s0_work s0_kept s0_keptVariables s0_answers (0 : Int32) h _ _ hP hD hS _ hl
  · have h := hf_ c_26
    refine lv_aload_n hx hb dX8_answersAll_12 rfl (lv_at hl 0 rfl) ?_
    have hPc := hP.sub (ws' := [(h0, .inr (8, [.int s0_terms, .ref h0_1, .ref h0_2, .int s0_triples, .ref h0_3, .int s0_patterns, .ref h0_4, .ref h0_5, .int s0_found, .ref h0_6, .int s0_kept, .int s0_keptVariables, .ref h0_7, .int (0 : Int32)])), (h0_1, .inl (cI, 100, .inl s0_number)), (h0_2, .inl (cI, 40, .inl s0_term)), (h0_3, .inl (cI, 180, .inl s0_store)), (h0_4, .inl (cI, 9, .inl s0_query)), (h0_5, .inl (cI, 16, .inl s0_bound)), (h0_6, .inl (cI, 2000, .inl s0_work)), (h0_7, .inl (cI, 2000, .inl s0_answers))]) [0, 1, 2, 3, 4, 5, 6, 7] rfl
    have hDc := hD.sub (ws' := [(h0, .inr (8, [.int s0_terms, .ref h0_1, .ref h0_2, .int s0_triples, .ref h0_3, .int s0_patterns, .ref h0_4, .ref h0_5, .int s0_found, .ref h0_6, .int s0_kept, .int s0_keptVariables, .ref h0_7, .int (0 : Int32)])), (h0_1, .inl (cI, 100, .inl s0_number)), (h0_2, .inl (cI, 40, .inl s0_term)), (h0_3, .inl (cI, 180, .inl s0_store)), (h0_4, .inl (cI, 9, .inl s0_query)), (h0_5, .inl (cI, 16, .inl s0_bound)), (h0_6, .inl (cI, 2000, .inl s0_work)), (h0_7, .inl (cI, 2000, .inl s0_answers))]) [0, 1, 2, 3, 4, 5, 6, 7] (by decide) rfl
    have hFc := va_free (wc := [(h0, .inr (8, [.int s0_terms, .ref h0_1, .ref h0_2, .int s0_triples, .ref h0_3, .int s0_patterns, .ref h0_4, .ref h0_5, .int s0_found, .ref h0_6, .int s0_kept, .int s0_keptVariables, .ref h0_7, .int (0 : Int32)])), (h0_1, .inl (cI, 100, .inl s0_number)), (h0_2, .inl (cI, 40, .inl s0_term)), (h0_3, .inl (cI, 180, .inl s0_store)), (h0_4, .inl (cI, 9, .inl s0_query)), (h0_5, .inl (cI, 16, .inl s0_bound)), (h0_6, .inl (cI, 2000, .inl s0_work)), (h0_7, .inl (cI, 2000, .inl s0_answers))]) hD hS hA [0, 1, 2, 3, 4, 5, 6, 7] rfl
    refine va_callv (va_runV (As := []) (rest := []) ⟨hx, hb, hml, hown, hts⟩ (c_X8_goesThrough l dC dI cI h0 h0_1 h0_2 h0_3 h0_4 h0_5 h0_6 h0_7 _ (s0_terms, s0_number, s0_term, s0_triples, s0_store, s0_patterns, s0_query, s0_bound, s0_found, s0_work, s0_kept, s0_keptVariables, s0_answers, (0 : Int32)) _ h) (cwV 0 hts gX8_answersAll_X8_goesThrough rfl rfl rfl (by decide +kernel) ⟨Nat.le_of_ble_eq_true rfl, Nat.le_of_ble_eq_true rfl⟩) (pb_V hPc hK hDc hN (ci := 8) (q0 := 0) rfl rfl) rfl rfl hl.1 rfl (lv_room (Nat.le_of_ble_eq_true rfl)) dX8_answersAll_13 ⟨Nat.zero_le _, Nat.zero_le _⟩) hS (fun q _ h => hFc q h) hFc (fun u_27 t H locs ht hvm h hB hz1 hk1 hS => ?_)
    obtain ⟨u_27_terms, u_27_number, u_27_term, u_27_triples, u_27_store, u_27_patterns, u_27_query, u_27_bound, u_27_found, u_27_work, u_27_kept, u_27_keptVariables, u_27_answers, u_27_thrown⟩ := u_27
    obtain ⟨hP1, hD1⟩ := hB
    rw [ht] at hP1
    obtain ⟨hP, hD⟩ := cl_join (wr := []) (w1 := [(h0, .inr (8, [.int u_27_terms, .ref h0_1, .ref h0_2, .int u_27_triples, .ref h0_3, .int u_27_patterns, .ref h0_4, .ref h0_5, .int u_27_found, .ref h0_6, .int u_27_kept, .int u_27_keptVariables, .ref h0_7, .int u_27_thrown])), (h0_1, .inl (cI, 100, .inl u_27_number)), (h0_2, .inl (cI, 40, .inl u_27_term)), (h0_3, .inl (cI, 180, .inl u_27_store)), (h0_4, .inl (cI, 9, .inl u_27_query)), (h0_5, .inl (cI, 16, .inl u_27_bound)), (h0_6, .inl (cI, 2000, .inl u_27_work)), (h0_7, .inl (cI, 2000, .inl u_27_answers))]) (ws' := [(h0, .inr (8, [.int u_27_terms, .ref h0_1, .ref h0_2, .int u_27_triples, .ref h0_3, .int u_27_patterns, .ref h0_4, .ref h0_5, .int u_27_found, .ref h0_6, .int u_27_kept, .int u_27_keptVariables, .ref h0_7, .int u_27_thrown])), (h0_1, .inl (cI, 100, .inl u_27_number)), (h0_2, .inl (cI, 40, .inl u_27_term)), (h0_3, .inl (cI, 180, .inl u_27_store)), (h0_4, .inl (cI, 9, .inl u_27_query)), (h0_5, .inl (cI, 16, .inl u_27_bound)), (h0_6, .inl (cI, 2000, .inl u_27_work)), (h0_7, .inl (cI, 2000, .inl u_27_answers))]) hP hD [0, 1, 2, 3, 4, 5, 6, 7] [] [0, 1, 2, 3, 4, 5, 6, 7] rfl rfl (by decide) (by decide) (by decide) rfl hk1 hFc hP1 hD1
    exact lab_16 u_27_terms u_27_number u_27_term u_27_triples u_27_store u_27_patterns u_27_query u_27_bound u_27_found u_27_work u_27_kept u_27_keptVariables u_27_answers u_27_thrown h _ _ hP hD hS _ hl
abbrev Q_X8_answerByMerging (dC : Nat → ClassId) (dI : Nat → Nat → Nat) (cI : ClassId) (h0 h0_1 h0_2 h0_3 h0_4 h0_5 h0_6 h0_7 : Nat) (s0 : ModS) (A : Nat → Prop) (post : Int32 → ModS → Prop) : Array Value → State → Outcome → State → Prop := va_Qi post (fun (u : ModS) (t : State) => va_P (dC, dI) vwCl [(h0, .inr (8, [.int u.terms, .ref h0_1, .ref h0_2, .int u.triples, .ref h0_3, .int u.patterns, .ref h0_4, .ref h0_5, .int u.found, .ref h0_6, .int u.kept, .int u.keptVariables, .ref h0_7, .int u.thrown])), (h0_1, .inl (cI, 100, .inl u.number)), (h0_2, .inl (cI, 40, .inl u.term)), (h0_3, .inl (cI, 180, .inl u.store)), (h0_4, .inl (cI, 9, .inl u.query)), (h0_5, .inl (cI, 16, .inl u.bound)), (h0_6, .inl (cI, 2000, .inl u.work)), (h0_7, .inl (cI, 2000, .inl u.answers))] t.heap ∧ va_D A [(h0, .inr (8, [.int u.terms, .ref h0_1, .ref h0_2, .int u.triples, .ref h0_3, .int u.patterns, .ref h0_4, .ref h0_5, .int u.found, .ref h0_6, .int u.kept, .int u.keptVariables, .ref h0_7, .int u.thrown])), (h0_1, .inl (cI, 100, .inl u.number)), (h0_2, .inl (cI, 40, .inl u.term)), (h0_3, .inl (cI, 180, .inl u.store)), (h0_4, .inl (cI, 9, .inl u.query)), (h0_5, .inl (cI, 16, .inl u.bound)), (h0_6, .inl (cI, 2000, .inl u.work)), (h0_7, .inl (cI, 2000, .inl u.answers))]) A
abbrev rm_X8_answerByMerging : Room := { frames := 3, cells := 0, slots := 0, locals := 73 }
set_option maxHeartbeats 4000000 in
set_option maxRecDepth 100000 in
theorem c_X8_answerByMerging (l : Launch) (dC : Nat → ClassId) (dI : Nat → Nat → Nat) (cI : ClassId) (h0 h0_1 h0_2 h0_3 h0_4 h0_5 h0_6 h0_7 : Nat) (sz : Nat) (s0 : ModS) (post : Int32 → ModS → Prop) (h : P_X8_answerByMerging s0 post) : Met l yX8_answerByMerging wsX8_answerByMerging rm_X8_answerByMerging (va_Pc [.ref h0] (cpre (dC, dI) [(cI, .int)] [(h0, .inr (8, [.int s0.terms, .ref h0_1, .ref h0_2, .int s0.triples, .ref h0_3, .int s0.patterns, .ref h0_4, .ref h0_5, .int s0.found, .ref h0_6, .int s0.kept, .int s0.keptVariables, .ref h0_7, .int s0.thrown])), (h0_1, .inl (cI, 100, .inl s0.number)), (h0_2, .inl (cI, 40, .inl s0.term)), (h0_3, .inl (cI, 180, .inl s0.store)), (h0_4, .inl (cI, 9, .inl s0.query)), (h0_5, .inl (cI, 16, .inl s0.bound)), (h0_6, .inl (cI, 2000, .inl s0.work)), (h0_7, .inl (cI, 2000, .inl s0.answers))] sz)) (Q_X8_answerByMerging dC dI cI h0 h0_1 h0_2 h0_3 h0_4 h0_5 h0_6 h0_7 s0 (va_A [(h0, .inr (8, [.int s0.terms, .ref h0_1, .ref h0_2, .int s0.triples, .ref h0_3, .int s0.patterns, .ref h0_4, .ref h0_5, .int s0.found, .ref h0_6, .int s0.kept, .int s0.keptVariables, .ref h0_7, .int s0.thrown])), (h0_1, .inl (cI, 100, .inl s0.number)), (h0_2, .inl (cI, 40, .inl s0.term)), (h0_3, .inl (cI, 180, .inl s0.store)), (h0_4, .inl (cI, 9, .inl s0.query)), (h0_5, .inl (cI, 16, .inl s0.bound)), (h0_6, .inl (cI, 2000, .inl s0.work)), (h0_7, .inl (cI, 2000, .inl s0.answers))] sz) post) 0 0 (va_A [(h0, .inr (8, [.int s0.terms, .ref h0_1, .ref h0_2, .int s0.triples, .ref h0_3, .int s0.patterns, .ref h0_4, .ref h0_5, .int s0.found, .ref h0_6, .int s0.kept, .int s0.keptVariables, .ref h0_7, .int s0.thrown])), (h0_1, .inl (cI, 100, .inl s0.number)), (h0_2, .inl (cI, 40, .inl s0.term)), (h0_3, .inl (cI, 180, .inl s0.store)), (h0_4, .inl (cI, 9, .inl s0.query)), (h0_5, .inl (cI, 16, .inl s0.bound)), (h0_6, .inl (cI, 2000, .inl s0.work)), (h0_7, .inl (cI, 2000, .inl s0.answers))] sz) := by
  refine Met.ofW (cc := cX8_answerByMerging) (maxL := 1) (ret := (some .int)) (by decide) rfl ?_
  intro p e s m args below meth c s₁ B hml hv
  obtain ⟨rfl, hsz, hP, hK, hD0, hN⟩ := hv
  have hx := B.exec
  have hb := B.bytes
  have hr := B.returns
  have hts := atoms_spec (ws := wsX8_answerByMerging) B.pre
  have hown : s.vm.findClass RX8 = some m.cls := findClass_of_methodNamed B.named
  have hlocks := B.notSynchronized
  subst hsz
  have hD := hD0.self (sz := s.heap.size)
  generalize hAe : va_A [(h0, .inr (8, [.int s0.terms, .ref h0_1, .ref h0_2, .int s0.triples, .ref h0_3, .int s0.patterns, .ref h0_4, .ref h0_5, .int s0.found, .ref h0_6, .int s0.kept, .int s0.keptVariables, .ref h0_7, .int s0.thrown])), (h0_1, .inl (cI, 100, .inl s0.number)), (h0_2, .inl (cI, 40, .inl s0.term)), (h0_3, .inl (cI, 180, .inl s0.store)), (h0_4, .inl (cI, 9, .inl s0.query)), (h0_5, .inl (cI, 16, .inl s0.bound)), (h0_6, .inl (cI, 2000, .inl s0.work)), (h0_7, .inl (cI, 2000, .inl s0.answers))] s.heap.size = A at hD ⊢
  have hA : ∀ q : Nat, s.heap.size ≤ q → A q := fun q h => by rw [← hAe]; exact Or.inr h
  clear hAe hD0
  obtain ⟨s0_terms, s0_number, s0_term, s0_triples, s0_store, s0_patterns, s0_query, s0_bound, s0_found, s0_work, s0_kept, s0_keptVariables, s0_answers, s0_thrown⟩ := s0
  have hS : va_S A s.heap s.heap [] := va_S.rf
  have hP : va_P (dC, dI) vwCl [(h0, .inr (8, [.int s0_terms, .ref h0_1, .ref h0_2, .int s0_triples, .ref h0_3, .int s0_patterns, .ref h0_4, .ref h0_5, .int s0_found, .ref h0_6, .int s0_kept, .int s0_keptVariables, .ref h0_7, .int s0_thrown])), (h0_1, .inl (cI, 100, .inl s0_number)), (h0_2, .inl (cI, 40, .inl s0_term)), (h0_3, .inl (cI, 180, .inl s0_store)), (h0_4, .inl (cI, 9, .inl s0_query)), (h0_5, .inl (cI, 16, .inl s0_bound)), (h0_6, .inl (cI, 2000, .inl s0_work)), (h0_7, .inl (cI, 2000, .inl s0_answers))] s.heap := hP
  have hD : va_D A [(h0, .inr (8, [.int s0_terms, .ref h0_1, .ref h0_2, .int s0_triples, .ref h0_3, .int s0_patterns, .ref h0_4, .ref h0_5, .int s0_found, .ref h0_6, .int s0_kept, .int s0_keptVariables, .ref h0_7, .int s0_thrown])), (h0_1, .inl (cI, 100, .inl s0_number)), (h0_2, .inl (cI, 40, .inl s0_term)), (h0_3, .inl (cI, 180, .inl s0_store)), (h0_4, .inl (cI, 9, .inl s0_query)), (h0_5, .inl (cI, 16, .inl s0_bound)), (h0_6, .inl (cI, 2000, .inl s0_work)), (h0_7, .inl (cI, 2000, .inl s0_answers))] := hD
  have hl := lv_entry ([.ref h0]) (n := 1) (Nat.le_of_ble_eq_true rfl)
  rw [lg_entry_eq]
  generalize (lg_sl ([.ref h0]) ++ List.replicate (1 - (lg_sl ([.ref h0])).length) Slot.unset).toArray = ls at hl ⊢
  have hl : lv_has ls 1 [(0, .ref h0)] := hl
  refine lv_aload_n hx hb dX8_answerByMerging_0 rfl (lv_at hl 0 rfl) ?_
  have hPc := hP.sub (ws' := [(h0, .inr (8, [.int s0_terms, .ref h0_1, .ref h0_2, .int s0_triples, .ref h0_3, .int s0_patterns, .ref h0_4, .ref h0_5, .int s0_found, .ref h0_6, .int s0_kept, .int s0_keptVariables, .ref h0_7, .int s0_thrown])), (h0_1, .inl (cI, 100, .inl s0_number)), (h0_2, .inl (cI, 40, .inl s0_term)), (h0_3, .inl (cI, 180, .inl s0_store)), (h0_4, .inl (cI, 9, .inl s0_query)), (h0_5, .inl (cI, 16, .inl s0_bound)), (h0_6, .inl (cI, 2000, .inl s0_work)), (h0_7, .inl (cI, 2000, .inl s0_answers))]) [0, 1, 2, 3, 4, 5, 6, 7] rfl
  have hDc := hD.sub (ws' := [(h0, .inr (8, [.int s0_terms, .ref h0_1, .ref h0_2, .int s0_triples, .ref h0_3, .int s0_patterns, .ref h0_4, .ref h0_5, .int s0_found, .ref h0_6, .int s0_kept, .int s0_keptVariables, .ref h0_7, .int s0_thrown])), (h0_1, .inl (cI, 100, .inl s0_number)), (h0_2, .inl (cI, 40, .inl s0_term)), (h0_3, .inl (cI, 180, .inl s0_store)), (h0_4, .inl (cI, 9, .inl s0_query)), (h0_5, .inl (cI, 16, .inl s0_bound)), (h0_6, .inl (cI, 2000, .inl s0_work)), (h0_7, .inl (cI, 2000, .inl s0_answers))]) [0, 1, 2, 3, 4, 5, 6, 7] (by decide) rfl
  have hFc := va_free (wc := [(h0, .inr (8, [.int s0_terms, .ref h0_1, .ref h0_2, .int s0_triples, .ref h0_3, .int s0_patterns, .ref h0_4, .ref h0_5, .int s0_found, .ref h0_6, .int s0_kept, .int s0_keptVariables, .ref h0_7, .int s0_thrown])), (h0_1, .inl (cI, 100, .inl s0_number)), (h0_2, .inl (cI, 40, .inl s0_term)), (h0_3, .inl (cI, 180, .inl s0_store)), (h0_4, .inl (cI, 9, .inl s0_query)), (h0_5, .inl (cI, 16, .inl s0_bound)), (h0_6, .inl (cI, 2000, .inl s0_work)), (h0_7, .inl (cI, 2000, .inl s0_answers))]) hD hS hA [0, 1, 2, 3, 4, 5, 6, 7] rfl
  refine va_calli (va_runV (As := []) (rest := []) ⟨hx, hb, hml, hown, hts⟩ (c_X8_answersAll l dC dI cI h0 h0_1 h0_2 h0_3 h0_4 h0_5 h0_6 h0_7 _ (s0_terms, s0_number, s0_term, s0_triples, s0_store, s0_patterns, s0_query, s0_bound, s0_found, s0_work, s0_kept, s0_keptVariables, s0_answers, s0_thrown) _ h) (cwV 0 hts gX8_answerByMerging_X8_answersAll rfl rfl rfl (by decide +kernel) ⟨Nat.le_of_ble_eq_true rfl, Nat.le_of_ble_eq_true rfl⟩) (pb_V hPc hK hDc hN (ci := 8) (q0 := 0) rfl rfl) rfl rfl hl.1 rfl (lv_room (Nat.le_of_ble_eq_true rfl)) dX8_answerByMerging_1 ⟨Nat.zero_le _, Nat.zero_le _⟩) hS (fun q _ h => hFc q h) hFc (fun r_2 u_1 t H locs ht hvm h hB hz1 hk1 hS => ?_)
  obtain ⟨u_1_terms, u_1_number, u_1_term, u_1_triples, u_1_store, u_1_patterns, u_1_query, u_1_bound, u_1_found, u_1_work, u_1_kept, u_1_keptVariables, u_1_answers, u_1_thrown⟩ := u_1
  obtain ⟨hP1, hD1⟩ := hB
  rw [ht] at hP1
  obtain ⟨hP, hD⟩ := cl_join (wr := []) (w1 := [(h0, .inr (8, [.int u_1_terms, .ref h0_1, .ref h0_2, .int u_1_triples, .ref h0_3, .int u_1_patterns, .ref h0_4, .ref h0_5, .int u_1_found, .ref h0_6, .int u_1_kept, .int u_1_keptVariables, .ref h0_7, .int u_1_thrown])), (h0_1, .inl (cI, 100, .inl u_1_number)), (h0_2, .inl (cI, 40, .inl u_1_term)), (h0_3, .inl (cI, 180, .inl u_1_store)), (h0_4, .inl (cI, 9, .inl u_1_query)), (h0_5, .inl (cI, 16, .inl u_1_bound)), (h0_6, .inl (cI, 2000, .inl u_1_work)), (h0_7, .inl (cI, 2000, .inl u_1_answers))]) (ws' := [(h0, .inr (8, [.int u_1_terms, .ref h0_1, .ref h0_2, .int u_1_triples, .ref h0_3, .int u_1_patterns, .ref h0_4, .ref h0_5, .int u_1_found, .ref h0_6, .int u_1_kept, .int u_1_keptVariables, .ref h0_7, .int u_1_thrown])), (h0_1, .inl (cI, 100, .inl u_1_number)), (h0_2, .inl (cI, 40, .inl u_1_term)), (h0_3, .inl (cI, 180, .inl u_1_store)), (h0_4, .inl (cI, 9, .inl u_1_query)), (h0_5, .inl (cI, 16, .inl u_1_bound)), (h0_6, .inl (cI, 2000, .inl u_1_work)), (h0_7, .inl (cI, 2000, .inl u_1_answers))]) hP hD [0, 1, 2, 3, 4, 5, 6, 7] [] [0, 1, 2, 3, 4, 5, 6, 7] rfl rfl (by decide) (by decide) (by decide) rfl hk1 hFc hP1 hD1
  exact W.iret (v := r_2) hx hb hr (fun t ht hW => ⟨⟨r_2, (u_1_terms, u_1_number, u_1_term, u_1_triples, u_1_store, u_1_patterns, u_1_query, u_1_bound, u_1_found, u_1_work, u_1_kept, u_1_keptVariables, u_1_answers, u_1_thrown), rfl, h, ⟨by rw [ht]; exact hP, hD⟩⟩, hS.F ht⟩) hS.2.2 dX8_answerByMerging_4
abbrev Q_X8_answerByVariables (dC : Nat → ClassId) (dI : Nat → Nat → Nat) (cI : ClassId) (h0 h0_1 h0_2 h0_3 h0_4 h0_5 h0_6 h0_7 : Nat) (s0 : ModS) (A : Nat → Prop) (post : Int32 → ModS → Prop) : Array Value → State → Outcome → State → Prop := va_Qi post (fun (u : ModS) (t : State) => va_P (dC, dI) vwCl [(h0, .inr (8, [.int u.terms, .ref h0_1, .ref h0_2, .int u.triples, .ref h0_3, .int u.patterns, .ref h0_4, .ref h0_5, .int u.found, .ref h0_6, .int u.kept, .int u.keptVariables, .ref h0_7, .int u.thrown])), (h0_1, .inl (cI, 100, .inl u.number)), (h0_2, .inl (cI, 40, .inl u.term)), (h0_3, .inl (cI, 180, .inl u.store)), (h0_4, .inl (cI, 9, .inl u.query)), (h0_5, .inl (cI, 16, .inl u.bound)), (h0_6, .inl (cI, 2000, .inl u.work)), (h0_7, .inl (cI, 2000, .inl u.answers))] t.heap ∧ va_D A [(h0, .inr (8, [.int u.terms, .ref h0_1, .ref h0_2, .int u.triples, .ref h0_3, .int u.patterns, .ref h0_4, .ref h0_5, .int u.found, .ref h0_6, .int u.kept, .int u.keptVariables, .ref h0_7, .int u.thrown])), (h0_1, .inl (cI, 100, .inl u.number)), (h0_2, .inl (cI, 40, .inl u.term)), (h0_3, .inl (cI, 180, .inl u.store)), (h0_4, .inl (cI, 9, .inl u.query)), (h0_5, .inl (cI, 16, .inl u.bound)), (h0_6, .inl (cI, 2000, .inl u.work)), (h0_7, .inl (cI, 2000, .inl u.answers))]) A
abbrev rm_X8_answerByVariables : Room := { frames := 3, cells := 0, slots := 0, locals := 73 }
set_option maxHeartbeats 4000000 in
set_option maxRecDepth 100000 in
theorem c_X8_answerByVariables (l : Launch) (dC : Nat → ClassId) (dI : Nat → Nat → Nat) (cI : ClassId) (h0 h0_1 h0_2 h0_3 h0_4 h0_5 h0_6 h0_7 : Nat) (sz : Nat) (s0 : ModS) (post : Int32 → ModS → Prop) (h : P_X8_answerByVariables s0 post) : Met l yX8_answerByVariables wsX8_answerByVariables rm_X8_answerByVariables (va_Pc [.ref h0] (cpre (dC, dI) [(cI, .int)] [(h0, .inr (8, [.int s0.terms, .ref h0_1, .ref h0_2, .int s0.triples, .ref h0_3, .int s0.patterns, .ref h0_4, .ref h0_5, .int s0.found, .ref h0_6, .int s0.kept, .int s0.keptVariables, .ref h0_7, .int s0.thrown])), (h0_1, .inl (cI, 100, .inl s0.number)), (h0_2, .inl (cI, 40, .inl s0.term)), (h0_3, .inl (cI, 180, .inl s0.store)), (h0_4, .inl (cI, 9, .inl s0.query)), (h0_5, .inl (cI, 16, .inl s0.bound)), (h0_6, .inl (cI, 2000, .inl s0.work)), (h0_7, .inl (cI, 2000, .inl s0.answers))] sz)) (Q_X8_answerByVariables dC dI cI h0 h0_1 h0_2 h0_3 h0_4 h0_5 h0_6 h0_7 s0 (va_A [(h0, .inr (8, [.int s0.terms, .ref h0_1, .ref h0_2, .int s0.triples, .ref h0_3, .int s0.patterns, .ref h0_4, .ref h0_5, .int s0.found, .ref h0_6, .int s0.kept, .int s0.keptVariables, .ref h0_7, .int s0.thrown])), (h0_1, .inl (cI, 100, .inl s0.number)), (h0_2, .inl (cI, 40, .inl s0.term)), (h0_3, .inl (cI, 180, .inl s0.store)), (h0_4, .inl (cI, 9, .inl s0.query)), (h0_5, .inl (cI, 16, .inl s0.bound)), (h0_6, .inl (cI, 2000, .inl s0.work)), (h0_7, .inl (cI, 2000, .inl s0.answers))] sz) post) 0 0 (va_A [(h0, .inr (8, [.int s0.terms, .ref h0_1, .ref h0_2, .int s0.triples, .ref h0_3, .int s0.patterns, .ref h0_4, .ref h0_5, .int s0.found, .ref h0_6, .int s0.kept, .int s0.keptVariables, .ref h0_7, .int s0.thrown])), (h0_1, .inl (cI, 100, .inl s0.number)), (h0_2, .inl (cI, 40, .inl s0.term)), (h0_3, .inl (cI, 180, .inl s0.store)), (h0_4, .inl (cI, 9, .inl s0.query)), (h0_5, .inl (cI, 16, .inl s0.bound)), (h0_6, .inl (cI, 2000, .inl s0.work)), (h0_7, .inl (cI, 2000, .inl s0.answers))] sz) := by
  refine Met.ofW (cc := cX8_answerByVariables) (maxL := 1) (ret := (some .int)) (by decide) rfl ?_
  intro p e s m args below meth c s₁ B hml hv
  obtain ⟨rfl, hsz, hP, hK, hD0, hN⟩ := hv
  have hx := B.exec
  have hb := B.bytes
  have hr := B.returns
  have hts := atoms_spec (ws := wsX8_answerByVariables) B.pre
  have hown : s.vm.findClass RX8 = some m.cls := findClass_of_methodNamed B.named
  have hlocks := B.notSynchronized
  subst hsz
  have hD := hD0.self (sz := s.heap.size)
  generalize hAe : va_A [(h0, .inr (8, [.int s0.terms, .ref h0_1, .ref h0_2, .int s0.triples, .ref h0_3, .int s0.patterns, .ref h0_4, .ref h0_5, .int s0.found, .ref h0_6, .int s0.kept, .int s0.keptVariables, .ref h0_7, .int s0.thrown])), (h0_1, .inl (cI, 100, .inl s0.number)), (h0_2, .inl (cI, 40, .inl s0.term)), (h0_3, .inl (cI, 180, .inl s0.store)), (h0_4, .inl (cI, 9, .inl s0.query)), (h0_5, .inl (cI, 16, .inl s0.bound)), (h0_6, .inl (cI, 2000, .inl s0.work)), (h0_7, .inl (cI, 2000, .inl s0.answers))] s.heap.size = A at hD ⊢
  have hA : ∀ q : Nat, s.heap.size ≤ q → A q := fun q h => by rw [← hAe]; exact Or.inr h
  clear hAe hD0
  obtain ⟨s0_terms, s0_number, s0_term, s0_triples, s0_store, s0_patterns, s0_query, s0_bound, s0_found, s0_work, s0_kept, s0_keptVariables, s0_answers, s0_thrown⟩ := s0
  have hS : va_S A s.heap s.heap [] := va_S.rf
  have hP : va_P (dC, dI) vwCl [(h0, .inr (8, [.int s0_terms, .ref h0_1, .ref h0_2, .int s0_triples, .ref h0_3, .int s0_patterns, .ref h0_4, .ref h0_5, .int s0_found, .ref h0_6, .int s0_kept, .int s0_keptVariables, .ref h0_7, .int s0_thrown])), (h0_1, .inl (cI, 100, .inl s0_number)), (h0_2, .inl (cI, 40, .inl s0_term)), (h0_3, .inl (cI, 180, .inl s0_store)), (h0_4, .inl (cI, 9, .inl s0_query)), (h0_5, .inl (cI, 16, .inl s0_bound)), (h0_6, .inl (cI, 2000, .inl s0_work)), (h0_7, .inl (cI, 2000, .inl s0_answers))] s.heap := hP
  have hD : va_D A [(h0, .inr (8, [.int s0_terms, .ref h0_1, .ref h0_2, .int s0_triples, .ref h0_3, .int s0_patterns, .ref h0_4, .ref h0_5, .int s0_found, .ref h0_6, .int s0_kept, .int s0_keptVariables, .ref h0_7, .int s0_thrown])), (h0_1, .inl (cI, 100, .inl s0_number)), (h0_2, .inl (cI, 40, .inl s0_term)), (h0_3, .inl (cI, 180, .inl s0_store)), (h0_4, .inl (cI, 9, .inl s0_query)), (h0_5, .inl (cI, 16, .inl s0_bound)), (h0_6, .inl (cI, 2000, .inl s0_work)), (h0_7, .inl (cI, 2000, .inl s0_answers))] := hD
  have hl := lv_entry ([.ref h0]) (n := 1) (Nat.le_of_ble_eq_true rfl)
  rw [lg_entry_eq]
  generalize (lg_sl ([.ref h0]) ++ List.replicate (1 - (lg_sl ([.ref h0])).length) Slot.unset).toArray = ls at hl ⊢
  have hl : lv_has ls 1 [(0, .ref h0)] := hl
  refine lv_aload_n hx hb dX8_answerByVariables_0 rfl (lv_at hl 0 rfl) ?_
  have hPc := hP.sub (ws' := [(h0, .inr (8, [.int s0_terms, .ref h0_1, .ref h0_2, .int s0_triples, .ref h0_3, .int s0_patterns, .ref h0_4, .ref h0_5, .int s0_found, .ref h0_6, .int s0_kept, .int s0_keptVariables, .ref h0_7, .int s0_thrown])), (h0_1, .inl (cI, 100, .inl s0_number)), (h0_2, .inl (cI, 40, .inl s0_term)), (h0_3, .inl (cI, 180, .inl s0_store)), (h0_4, .inl (cI, 9, .inl s0_query)), (h0_5, .inl (cI, 16, .inl s0_bound)), (h0_6, .inl (cI, 2000, .inl s0_work)), (h0_7, .inl (cI, 2000, .inl s0_answers))]) [0, 1, 2, 3, 4, 5, 6, 7] rfl
  have hDc := hD.sub (ws' := [(h0, .inr (8, [.int s0_terms, .ref h0_1, .ref h0_2, .int s0_triples, .ref h0_3, .int s0_patterns, .ref h0_4, .ref h0_5, .int s0_found, .ref h0_6, .int s0_kept, .int s0_keptVariables, .ref h0_7, .int s0_thrown])), (h0_1, .inl (cI, 100, .inl s0_number)), (h0_2, .inl (cI, 40, .inl s0_term)), (h0_3, .inl (cI, 180, .inl s0_store)), (h0_4, .inl (cI, 9, .inl s0_query)), (h0_5, .inl (cI, 16, .inl s0_bound)), (h0_6, .inl (cI, 2000, .inl s0_work)), (h0_7, .inl (cI, 2000, .inl s0_answers))]) [0, 1, 2, 3, 4, 5, 6, 7] (by decide) rfl
  have hFc := va_free (wc := [(h0, .inr (8, [.int s0_terms, .ref h0_1, .ref h0_2, .int s0_triples, .ref h0_3, .int s0_patterns, .ref h0_4, .ref h0_5, .int s0_found, .ref h0_6, .int s0_kept, .int s0_keptVariables, .ref h0_7, .int s0_thrown])), (h0_1, .inl (cI, 100, .inl s0_number)), (h0_2, .inl (cI, 40, .inl s0_term)), (h0_3, .inl (cI, 180, .inl s0_store)), (h0_4, .inl (cI, 9, .inl s0_query)), (h0_5, .inl (cI, 16, .inl s0_bound)), (h0_6, .inl (cI, 2000, .inl s0_work)), (h0_7, .inl (cI, 2000, .inl s0_answers))]) hD hS hA [0, 1, 2, 3, 4, 5, 6, 7] rfl
  refine va_calli (va_runV (As := []) (rest := []) ⟨hx, hb, hml, hown, hts⟩ (c_X8_answersAll l dC dI cI h0 h0_1 h0_2 h0_3 h0_4 h0_5 h0_6 h0_7 _ (s0_terms, s0_number, s0_term, s0_triples, s0_store, s0_patterns, s0_query, s0_bound, s0_found, s0_work, s0_kept, s0_keptVariables, s0_answers, s0_thrown) _ h) (cwV 0 hts gX8_answerByVariables_X8_answersAll rfl rfl rfl (by decide +kernel) ⟨Nat.le_of_ble_eq_true rfl, Nat.le_of_ble_eq_true rfl⟩) (pb_V hPc hK hDc hN (ci := 8) (q0 := 0) rfl rfl) rfl rfl hl.1 rfl (lv_room (Nat.le_of_ble_eq_true rfl)) dX8_answerByVariables_1 ⟨Nat.zero_le _, Nat.zero_le _⟩) hS (fun q _ h => hFc q h) hFc (fun r_2 u_1 t H locs ht hvm h hB hz1 hk1 hS => ?_)
  obtain ⟨u_1_terms, u_1_number, u_1_term, u_1_triples, u_1_store, u_1_patterns, u_1_query, u_1_bound, u_1_found, u_1_work, u_1_kept, u_1_keptVariables, u_1_answers, u_1_thrown⟩ := u_1
  obtain ⟨hP1, hD1⟩ := hB
  rw [ht] at hP1
  obtain ⟨hP, hD⟩ := cl_join (wr := []) (w1 := [(h0, .inr (8, [.int u_1_terms, .ref h0_1, .ref h0_2, .int u_1_triples, .ref h0_3, .int u_1_patterns, .ref h0_4, .ref h0_5, .int u_1_found, .ref h0_6, .int u_1_kept, .int u_1_keptVariables, .ref h0_7, .int u_1_thrown])), (h0_1, .inl (cI, 100, .inl u_1_number)), (h0_2, .inl (cI, 40, .inl u_1_term)), (h0_3, .inl (cI, 180, .inl u_1_store)), (h0_4, .inl (cI, 9, .inl u_1_query)), (h0_5, .inl (cI, 16, .inl u_1_bound)), (h0_6, .inl (cI, 2000, .inl u_1_work)), (h0_7, .inl (cI, 2000, .inl u_1_answers))]) (ws' := [(h0, .inr (8, [.int u_1_terms, .ref h0_1, .ref h0_2, .int u_1_triples, .ref h0_3, .int u_1_patterns, .ref h0_4, .ref h0_5, .int u_1_found, .ref h0_6, .int u_1_kept, .int u_1_keptVariables, .ref h0_7, .int u_1_thrown])), (h0_1, .inl (cI, 100, .inl u_1_number)), (h0_2, .inl (cI, 40, .inl u_1_term)), (h0_3, .inl (cI, 180, .inl u_1_store)), (h0_4, .inl (cI, 9, .inl u_1_query)), (h0_5, .inl (cI, 16, .inl u_1_bound)), (h0_6, .inl (cI, 2000, .inl u_1_work)), (h0_7, .inl (cI, 2000, .inl u_1_answers))]) hP hD [0, 1, 2, 3, 4, 5, 6, 7] [] [0, 1, 2, 3, 4, 5, 6, 7] rfl rfl (by decide) (by decide) (by decide) rfl hk1 hFc hP1 hD1
  exact W.iret (v := r_2) hx hb hr (fun t ht hW => ⟨⟨r_2, (u_1_terms, u_1_number, u_1_term, u_1_triples, u_1_store, u_1_patterns, u_1_query, u_1_bound, u_1_found, u_1_work, u_1_kept, u_1_keptVariables, u_1_answers, u_1_thrown), rfl, h, ⟨by rw [ht]; exact hP, hD⟩⟩, hS.F ht⟩) hS.2.2 dX8_answerByVariables_4
abbrev Q_X8_answerByLoops (dC : Nat → ClassId) (dI : Nat → Nat → Nat) (cI : ClassId) (h0 h0_1 h0_2 h0_3 h0_4 h0_5 h0_6 h0_7 : Nat) (s0 : ModS) (A : Nat → Prop) (post : Int32 → ModS → Prop) : Array Value → State → Outcome → State → Prop := va_Qi post (fun (u : ModS) (t : State) => va_P (dC, dI) vwCl [(h0, .inr (8, [.int u.terms, .ref h0_1, .ref h0_2, .int u.triples, .ref h0_3, .int u.patterns, .ref h0_4, .ref h0_5, .int u.found, .ref h0_6, .int u.kept, .int u.keptVariables, .ref h0_7, .int u.thrown])), (h0_1, .inl (cI, 100, .inl u.number)), (h0_2, .inl (cI, 40, .inl u.term)), (h0_3, .inl (cI, 180, .inl u.store)), (h0_4, .inl (cI, 9, .inl u.query)), (h0_5, .inl (cI, 16, .inl u.bound)), (h0_6, .inl (cI, 2000, .inl u.work)), (h0_7, .inl (cI, 2000, .inl u.answers))] t.heap ∧ va_D A [(h0, .inr (8, [.int u.terms, .ref h0_1, .ref h0_2, .int u.triples, .ref h0_3, .int u.patterns, .ref h0_4, .ref h0_5, .int u.found, .ref h0_6, .int u.kept, .int u.keptVariables, .ref h0_7, .int u.thrown])), (h0_1, .inl (cI, 100, .inl u.number)), (h0_2, .inl (cI, 40, .inl u.term)), (h0_3, .inl (cI, 180, .inl u.store)), (h0_4, .inl (cI, 9, .inl u.query)), (h0_5, .inl (cI, 16, .inl u.bound)), (h0_6, .inl (cI, 2000, .inl u.work)), (h0_7, .inl (cI, 2000, .inl u.answers))]) A
abbrev rm_X8_answerByLoops : Room := { frames := 3, cells := 0, slots := 0, locals := 73 }
set_option maxHeartbeats 4000000 in
set_option maxRecDepth 100000 in
theorem c_X8_answerByLoops (l : Launch) (dC : Nat → ClassId) (dI : Nat → Nat → Nat) (cI : ClassId) (h0 h0_1 h0_2 h0_3 h0_4 h0_5 h0_6 h0_7 : Nat) (sz : Nat) (s0 : ModS) (post : Int32 → ModS → Prop) (h : P_X8_answerByLoops s0 post) : Met l yX8_answerByLoops wsX8_answerByLoops rm_X8_answerByLoops (va_Pc [.ref h0] (cpre (dC, dI) [(cI, .int)] [(h0, .inr (8, [.int s0.terms, .ref h0_1, .ref h0_2, .int s0.triples, .ref h0_3, .int s0.patterns, .ref h0_4, .ref h0_5, .int s0.found, .ref h0_6, .int s0.kept, .int s0.keptVariables, .ref h0_7, .int s0.thrown])), (h0_1, .inl (cI, 100, .inl s0.number)), (h0_2, .inl (cI, 40, .inl s0.term)), (h0_3, .inl (cI, 180, .inl s0.store)), (h0_4, .inl (cI, 9, .inl s0.query)), (h0_5, .inl (cI, 16, .inl s0.bound)), (h0_6, .inl (cI, 2000, .inl s0.work)), (h0_7, .inl (cI, 2000, .inl s0.answers))] sz)) (Q_X8_answerByLoops dC dI cI h0 h0_1 h0_2 h0_3 h0_4 h0_5 h0_6 h0_7 s0 (va_A [(h0, .inr (8, [.int s0.terms, .ref h0_1, .ref h0_2, .int s0.triples, .ref h0_3, .int s0.patterns, .ref h0_4, .ref h0_5, .int s0.found, .ref h0_6, .int s0.kept, .int s0.keptVariables, .ref h0_7, .int s0.thrown])), (h0_1, .inl (cI, 100, .inl s0.number)), (h0_2, .inl (cI, 40, .inl s0.term)), (h0_3, .inl (cI, 180, .inl s0.store)), (h0_4, .inl (cI, 9, .inl s0.query)), (h0_5, .inl (cI, 16, .inl s0.bound)), (h0_6, .inl (cI, 2000, .inl s0.work)), (h0_7, .inl (cI, 2000, .inl s0.answers))] sz) post) 0 0 (va_A [(h0, .inr (8, [.int s0.terms, .ref h0_1, .ref h0_2, .int s0.triples, .ref h0_3, .int s0.patterns, .ref h0_4, .ref h0_5, .int s0.found, .ref h0_6, .int s0.kept, .int s0.keptVariables, .ref h0_7, .int s0.thrown])), (h0_1, .inl (cI, 100, .inl s0.number)), (h0_2, .inl (cI, 40, .inl s0.term)), (h0_3, .inl (cI, 180, .inl s0.store)), (h0_4, .inl (cI, 9, .inl s0.query)), (h0_5, .inl (cI, 16, .inl s0.bound)), (h0_6, .inl (cI, 2000, .inl s0.work)), (h0_7, .inl (cI, 2000, .inl s0.answers))] sz) := by
  refine Met.ofW (cc := cX8_answerByLoops) (maxL := 1) (ret := (some .int)) (by decide) rfl ?_
  intro p e s m args below meth c s₁ B hml hv
  obtain ⟨rfl, hsz, hP, hK, hD0, hN⟩ := hv
  have hx := B.exec
  have hb := B.bytes
  have hr := B.returns
  have hts := atoms_spec (ws := wsX8_answerByLoops) B.pre
  have hown : s.vm.findClass RX8 = some m.cls := findClass_of_methodNamed B.named
  have hlocks := B.notSynchronized
  subst hsz
  have hD := hD0.self (sz := s.heap.size)
  generalize hAe : va_A [(h0, .inr (8, [.int s0.terms, .ref h0_1, .ref h0_2, .int s0.triples, .ref h0_3, .int s0.patterns, .ref h0_4, .ref h0_5, .int s0.found, .ref h0_6, .int s0.kept, .int s0.keptVariables, .ref h0_7, .int s0.thrown])), (h0_1, .inl (cI, 100, .inl s0.number)), (h0_2, .inl (cI, 40, .inl s0.term)), (h0_3, .inl (cI, 180, .inl s0.store)), (h0_4, .inl (cI, 9, .inl s0.query)), (h0_5, .inl (cI, 16, .inl s0.bound)), (h0_6, .inl (cI, 2000, .inl s0.work)), (h0_7, .inl (cI, 2000, .inl s0.answers))] s.heap.size = A at hD ⊢
  have hA : ∀ q : Nat, s.heap.size ≤ q → A q := fun q h => by rw [← hAe]; exact Or.inr h
  clear hAe hD0
  obtain ⟨s0_terms, s0_number, s0_term, s0_triples, s0_store, s0_patterns, s0_query, s0_bound, s0_found, s0_work, s0_kept, s0_keptVariables, s0_answers, s0_thrown⟩ := s0
  have hS : va_S A s.heap s.heap [] := va_S.rf
  have hP : va_P (dC, dI) vwCl [(h0, .inr (8, [.int s0_terms, .ref h0_1, .ref h0_2, .int s0_triples, .ref h0_3, .int s0_patterns, .ref h0_4, .ref h0_5, .int s0_found, .ref h0_6, .int s0_kept, .int s0_keptVariables, .ref h0_7, .int s0_thrown])), (h0_1, .inl (cI, 100, .inl s0_number)), (h0_2, .inl (cI, 40, .inl s0_term)), (h0_3, .inl (cI, 180, .inl s0_store)), (h0_4, .inl (cI, 9, .inl s0_query)), (h0_5, .inl (cI, 16, .inl s0_bound)), (h0_6, .inl (cI, 2000, .inl s0_work)), (h0_7, .inl (cI, 2000, .inl s0_answers))] s.heap := hP
  have hD : va_D A [(h0, .inr (8, [.int s0_terms, .ref h0_1, .ref h0_2, .int s0_triples, .ref h0_3, .int s0_patterns, .ref h0_4, .ref h0_5, .int s0_found, .ref h0_6, .int s0_kept, .int s0_keptVariables, .ref h0_7, .int s0_thrown])), (h0_1, .inl (cI, 100, .inl s0_number)), (h0_2, .inl (cI, 40, .inl s0_term)), (h0_3, .inl (cI, 180, .inl s0_store)), (h0_4, .inl (cI, 9, .inl s0_query)), (h0_5, .inl (cI, 16, .inl s0_bound)), (h0_6, .inl (cI, 2000, .inl s0_work)), (h0_7, .inl (cI, 2000, .inl s0_answers))] := hD
  have hl := lv_entry ([.ref h0]) (n := 1) (Nat.le_of_ble_eq_true rfl)
  rw [lg_entry_eq]
  generalize (lg_sl ([.ref h0]) ++ List.replicate (1 - (lg_sl ([.ref h0])).length) Slot.unset).toArray = ls at hl ⊢
  have hl : lv_has ls 1 [(0, .ref h0)] := hl
  refine lv_aload_n hx hb dX8_answerByLoops_0 rfl (lv_at hl 0 rfl) ?_
  have hPc := hP.sub (ws' := [(h0, .inr (8, [.int s0_terms, .ref h0_1, .ref h0_2, .int s0_triples, .ref h0_3, .int s0_patterns, .ref h0_4, .ref h0_5, .int s0_found, .ref h0_6, .int s0_kept, .int s0_keptVariables, .ref h0_7, .int s0_thrown])), (h0_1, .inl (cI, 100, .inl s0_number)), (h0_2, .inl (cI, 40, .inl s0_term)), (h0_3, .inl (cI, 180, .inl s0_store)), (h0_4, .inl (cI, 9, .inl s0_query)), (h0_5, .inl (cI, 16, .inl s0_bound)), (h0_6, .inl (cI, 2000, .inl s0_work)), (h0_7, .inl (cI, 2000, .inl s0_answers))]) [0, 1, 2, 3, 4, 5, 6, 7] rfl
  have hDc := hD.sub (ws' := [(h0, .inr (8, [.int s0_terms, .ref h0_1, .ref h0_2, .int s0_triples, .ref h0_3, .int s0_patterns, .ref h0_4, .ref h0_5, .int s0_found, .ref h0_6, .int s0_kept, .int s0_keptVariables, .ref h0_7, .int s0_thrown])), (h0_1, .inl (cI, 100, .inl s0_number)), (h0_2, .inl (cI, 40, .inl s0_term)), (h0_3, .inl (cI, 180, .inl s0_store)), (h0_4, .inl (cI, 9, .inl s0_query)), (h0_5, .inl (cI, 16, .inl s0_bound)), (h0_6, .inl (cI, 2000, .inl s0_work)), (h0_7, .inl (cI, 2000, .inl s0_answers))]) [0, 1, 2, 3, 4, 5, 6, 7] (by decide) rfl
  have hFc := va_free (wc := [(h0, .inr (8, [.int s0_terms, .ref h0_1, .ref h0_2, .int s0_triples, .ref h0_3, .int s0_patterns, .ref h0_4, .ref h0_5, .int s0_found, .ref h0_6, .int s0_kept, .int s0_keptVariables, .ref h0_7, .int s0_thrown])), (h0_1, .inl (cI, 100, .inl s0_number)), (h0_2, .inl (cI, 40, .inl s0_term)), (h0_3, .inl (cI, 180, .inl s0_store)), (h0_4, .inl (cI, 9, .inl s0_query)), (h0_5, .inl (cI, 16, .inl s0_bound)), (h0_6, .inl (cI, 2000, .inl s0_work)), (h0_7, .inl (cI, 2000, .inl s0_answers))]) hD hS hA [0, 1, 2, 3, 4, 5, 6, 7] rfl
  refine va_calli (va_runV (As := []) (rest := []) ⟨hx, hb, hml, hown, hts⟩ (c_X8_answersAll l dC dI cI h0 h0_1 h0_2 h0_3 h0_4 h0_5 h0_6 h0_7 _ (s0_terms, s0_number, s0_term, s0_triples, s0_store, s0_patterns, s0_query, s0_bound, s0_found, s0_work, s0_kept, s0_keptVariables, s0_answers, s0_thrown) _ h) (cwV 0 hts gX8_answerByLoops_X8_answersAll rfl rfl rfl (by decide +kernel) ⟨Nat.le_of_ble_eq_true rfl, Nat.le_of_ble_eq_true rfl⟩) (pb_V hPc hK hDc hN (ci := 8) (q0 := 0) rfl rfl) rfl rfl hl.1 rfl (lv_room (Nat.le_of_ble_eq_true rfl)) dX8_answerByLoops_1 ⟨Nat.zero_le _, Nat.zero_le _⟩) hS (fun q _ h => hFc q h) hFc (fun r_2 u_1 t H locs ht hvm h hB hz1 hk1 hS => ?_)
  obtain ⟨u_1_terms, u_1_number, u_1_term, u_1_triples, u_1_store, u_1_patterns, u_1_query, u_1_bound, u_1_found, u_1_work, u_1_kept, u_1_keptVariables, u_1_answers, u_1_thrown⟩ := u_1
  obtain ⟨hP1, hD1⟩ := hB
  rw [ht] at hP1
  obtain ⟨hP, hD⟩ := cl_join (wr := []) (w1 := [(h0, .inr (8, [.int u_1_terms, .ref h0_1, .ref h0_2, .int u_1_triples, .ref h0_3, .int u_1_patterns, .ref h0_4, .ref h0_5, .int u_1_found, .ref h0_6, .int u_1_kept, .int u_1_keptVariables, .ref h0_7, .int u_1_thrown])), (h0_1, .inl (cI, 100, .inl u_1_number)), (h0_2, .inl (cI, 40, .inl u_1_term)), (h0_3, .inl (cI, 180, .inl u_1_store)), (h0_4, .inl (cI, 9, .inl u_1_query)), (h0_5, .inl (cI, 16, .inl u_1_bound)), (h0_6, .inl (cI, 2000, .inl u_1_work)), (h0_7, .inl (cI, 2000, .inl u_1_answers))]) (ws' := [(h0, .inr (8, [.int u_1_terms, .ref h0_1, .ref h0_2, .int u_1_triples, .ref h0_3, .int u_1_patterns, .ref h0_4, .ref h0_5, .int u_1_found, .ref h0_6, .int u_1_kept, .int u_1_keptVariables, .ref h0_7, .int u_1_thrown])), (h0_1, .inl (cI, 100, .inl u_1_number)), (h0_2, .inl (cI, 40, .inl u_1_term)), (h0_3, .inl (cI, 180, .inl u_1_store)), (h0_4, .inl (cI, 9, .inl u_1_query)), (h0_5, .inl (cI, 16, .inl u_1_bound)), (h0_6, .inl (cI, 2000, .inl u_1_work)), (h0_7, .inl (cI, 2000, .inl u_1_answers))]) hP hD [0, 1, 2, 3, 4, 5, 6, 7] [] [0, 1, 2, 3, 4, 5, 6, 7] rfl rfl (by decide) (by decide) (by decide) rfl hk1 hFc hP1 hD1
  exact W.iret (v := r_2) hx hb hr (fun t ht hW => ⟨⟨r_2, (u_1_terms, u_1_number, u_1_term, u_1_triples, u_1_store, u_1_patterns, u_1_query, u_1_bound, u_1_found, u_1_work, u_1_kept, u_1_keptVariables, u_1_answers, u_1_thrown), rfl, h, ⟨by rw [ht]; exact hP, hD⟩⟩, hS.F ht⟩) hS.2.2 dX8_answerByLoops_4
abbrev Q_X8_answers (dC : Nat → ClassId) (dI : Nat → Nat → Nat) (cI : ClassId) (h0 h0_1 h0_2 h0_3 h0_4 h0_5 h0_6 h0_7 : Nat) (s0 : ModS) (A : Nat → Prop) (post : Int32 → ModS → Prop) : Array Value → State → Outcome → State → Prop := va_Qi post (fun (u : ModS) (t : State) => va_P (dC, dI) vwCl [(h0, .inr (8, [.int u.terms, .ref h0_1, .ref h0_2, .int u.triples, .ref h0_3, .int u.patterns, .ref h0_4, .ref h0_5, .int u.found, .ref h0_6, .int u.kept, .int u.keptVariables, .ref h0_7, .int u.thrown])), (h0_1, .inl (cI, 100, .inl u.number)), (h0_2, .inl (cI, 40, .inl u.term)), (h0_3, .inl (cI, 180, .inl u.store)), (h0_4, .inl (cI, 9, .inl u.query)), (h0_5, .inl (cI, 16, .inl u.bound)), (h0_6, .inl (cI, 2000, .inl u.work)), (h0_7, .inl (cI, 2000, .inl u.answers))] t.heap ∧ va_D A [(h0, .inr (8, [.int u.terms, .ref h0_1, .ref h0_2, .int u.triples, .ref h0_3, .int u.patterns, .ref h0_4, .ref h0_5, .int u.found, .ref h0_6, .int u.kept, .int u.keptVariables, .ref h0_7, .int u.thrown])), (h0_1, .inl (cI, 100, .inl u.number)), (h0_2, .inl (cI, 40, .inl u.term)), (h0_3, .inl (cI, 180, .inl u.store)), (h0_4, .inl (cI, 9, .inl u.query)), (h0_5, .inl (cI, 16, .inl u.bound)), (h0_6, .inl (cI, 2000, .inl u.work)), (h0_7, .inl (cI, 2000, .inl u.answers))]) A
abbrev rm_X8_answers : Room := { frames := 0, cells := 0, slots := 0, locals := 0 }
set_option maxHeartbeats 4000000 in
set_option maxRecDepth 100000 in
theorem c_X8_answers (l : Launch) (dC : Nat → ClassId) (dI : Nat → Nat → Nat) (cI : ClassId) (h0 h0_1 h0_2 h0_3 h0_4 h0_5 h0_6 h0_7 : Nat) (sz : Nat) (s0 : ModS) (post : Int32 → ModS → Prop) (h : P_X8_answers s0 post) : Met l yX8_answers wsX8_answers rm_X8_answers (va_Pc [.ref h0] (cpre (dC, dI) [(cI, .int)] [(h0, .inr (8, [.int s0.terms, .ref h0_1, .ref h0_2, .int s0.triples, .ref h0_3, .int s0.patterns, .ref h0_4, .ref h0_5, .int s0.found, .ref h0_6, .int s0.kept, .int s0.keptVariables, .ref h0_7, .int s0.thrown])), (h0_1, .inl (cI, 100, .inl s0.number)), (h0_2, .inl (cI, 40, .inl s0.term)), (h0_3, .inl (cI, 180, .inl s0.store)), (h0_4, .inl (cI, 9, .inl s0.query)), (h0_5, .inl (cI, 16, .inl s0.bound)), (h0_6, .inl (cI, 2000, .inl s0.work)), (h0_7, .inl (cI, 2000, .inl s0.answers))] sz)) (Q_X8_answers dC dI cI h0 h0_1 h0_2 h0_3 h0_4 h0_5 h0_6 h0_7 s0 (va_A [(h0, .inr (8, [.int s0.terms, .ref h0_1, .ref h0_2, .int s0.triples, .ref h0_3, .int s0.patterns, .ref h0_4, .ref h0_5, .int s0.found, .ref h0_6, .int s0.kept, .int s0.keptVariables, .ref h0_7, .int s0.thrown])), (h0_1, .inl (cI, 100, .inl s0.number)), (h0_2, .inl (cI, 40, .inl s0.term)), (h0_3, .inl (cI, 180, .inl s0.store)), (h0_4, .inl (cI, 9, .inl s0.query)), (h0_5, .inl (cI, 16, .inl s0.bound)), (h0_6, .inl (cI, 2000, .inl s0.work)), (h0_7, .inl (cI, 2000, .inl s0.answers))] sz) post) 0 0 (va_A [(h0, .inr (8, [.int s0.terms, .ref h0_1, .ref h0_2, .int s0.triples, .ref h0_3, .int s0.patterns, .ref h0_4, .ref h0_5, .int s0.found, .ref h0_6, .int s0.kept, .int s0.keptVariables, .ref h0_7, .int s0.thrown])), (h0_1, .inl (cI, 100, .inl s0.number)), (h0_2, .inl (cI, 40, .inl s0.term)), (h0_3, .inl (cI, 180, .inl s0.store)), (h0_4, .inl (cI, 9, .inl s0.query)), (h0_5, .inl (cI, 16, .inl s0.bound)), (h0_6, .inl (cI, 2000, .inl s0.work)), (h0_7, .inl (cI, 2000, .inl s0.answers))] sz) := by
  refine Met.ofW (cc := cX8_answers) (maxL := 1) (ret := (some .int)) (by decide) rfl ?_
  intro p e s m args below meth c s₁ B hml hv
  obtain ⟨rfl, hsz, hP, hK, hD0, hN⟩ := hv
  have hx := B.exec
  have hb := B.bytes
  have hr := B.returns
  have hts := atoms_spec (ws := wsX8_answers) B.pre
  have hown : s.vm.findClass RX8 = some m.cls := findClass_of_methodNamed B.named
  have hlocks := B.notSynchronized
  subst hsz
  have hD := hD0.self (sz := s.heap.size)
  generalize hAe : va_A [(h0, .inr (8, [.int s0.terms, .ref h0_1, .ref h0_2, .int s0.triples, .ref h0_3, .int s0.patterns, .ref h0_4, .ref h0_5, .int s0.found, .ref h0_6, .int s0.kept, .int s0.keptVariables, .ref h0_7, .int s0.thrown])), (h0_1, .inl (cI, 100, .inl s0.number)), (h0_2, .inl (cI, 40, .inl s0.term)), (h0_3, .inl (cI, 180, .inl s0.store)), (h0_4, .inl (cI, 9, .inl s0.query)), (h0_5, .inl (cI, 16, .inl s0.bound)), (h0_6, .inl (cI, 2000, .inl s0.work)), (h0_7, .inl (cI, 2000, .inl s0.answers))] s.heap.size = A at hD ⊢
  have hA : ∀ q : Nat, s.heap.size ≤ q → A q := fun q h => by rw [← hAe]; exact Or.inr h
  clear hAe hD0
  obtain ⟨s0_terms, s0_number, s0_term, s0_triples, s0_store, s0_patterns, s0_query, s0_bound, s0_found, s0_work, s0_kept, s0_keptVariables, s0_answers, s0_thrown⟩ := s0
  have hS : va_S A s.heap s.heap [] := va_S.rf
  have hP : va_P (dC, dI) vwCl [(h0, .inr (8, [.int s0_terms, .ref h0_1, .ref h0_2, .int s0_triples, .ref h0_3, .int s0_patterns, .ref h0_4, .ref h0_5, .int s0_found, .ref h0_6, .int s0_kept, .int s0_keptVariables, .ref h0_7, .int s0_thrown])), (h0_1, .inl (cI, 100, .inl s0_number)), (h0_2, .inl (cI, 40, .inl s0_term)), (h0_3, .inl (cI, 180, .inl s0_store)), (h0_4, .inl (cI, 9, .inl s0_query)), (h0_5, .inl (cI, 16, .inl s0_bound)), (h0_6, .inl (cI, 2000, .inl s0_work)), (h0_7, .inl (cI, 2000, .inl s0_answers))] s.heap := hP
  have hD : va_D A [(h0, .inr (8, [.int s0_terms, .ref h0_1, .ref h0_2, .int s0_triples, .ref h0_3, .int s0_patterns, .ref h0_4, .ref h0_5, .int s0_found, .ref h0_6, .int s0_kept, .int s0_keptVariables, .ref h0_7, .int s0_thrown])), (h0_1, .inl (cI, 100, .inl s0_number)), (h0_2, .inl (cI, 40, .inl s0_term)), (h0_3, .inl (cI, 180, .inl s0_store)), (h0_4, .inl (cI, 9, .inl s0_query)), (h0_5, .inl (cI, 16, .inl s0_bound)), (h0_6, .inl (cI, 2000, .inl s0_work)), (h0_7, .inl (cI, 2000, .inl s0_answers))] := hD
  have hl := lv_entry ([.ref h0]) (n := 1) (Nat.le_of_ble_eq_true rfl)
  rw [lg_entry_eq]
  generalize (lg_sl ([.ref h0]) ++ List.replicate (1 - (lg_sl ([.ref h0])).length) Slot.unset).toArray = ls at hl ⊢
  have hl : lv_has ls 1 [(0, .ref h0)] := hl
  have hinX8 : ∀ w ∈ u_ws RX8 TX8 14, w ∈ wsX8_answers := by decide +kernel
  refine lv_aload_n hx hb dX8_answers_0 rfl (lv_at hl 0 rfl) ?_
  refine lv_iconst (v := (0 : Int32)) hx hb dX8_answers_1 (by decide) ?_
  refine va_put (D := (dC, dI)) (ci := 8) (v := .int (0 : Int32)) (ty := .int) (C := RX8) (T := TX8) (N := 14) hx hb hts (hinX8) tyX8 tyX8_ok nmX8 hown hK hP hD hS 0 rfl rfl 13 (by decide) (hts (.fieldLink RX8 31 "TripleJoinsModel" "thrown" "I") (by decide +kernel)) (fun _ h9 => h9) rfl (by decide +kernel) rfl rfl (Nat.le_of_ble_eq_true rfl) dX8_answers_2 (fun H locs hP hD hS => ?_)
  have hP : va_P (dC, dI) vwCl [(h0, .inr (8, [.int s0_terms, .ref h0_1, .ref h0_2, .int s0_triples, .ref h0_3, .int s0_patterns, .ref h0_4, .ref h0_5, .int s0_found, .ref h0_6, .int s0_kept, .int s0_keptVariables, .ref h0_7, .int (0 : Int32)])), (h0_1, .inl (cI, 100, .inl s0_number)), (h0_2, .inl (cI, 40, .inl s0_term)), (h0_3, .inl (cI, 180, .inl s0_store)), (h0_4, .inl (cI, 9, .inl s0_query)), (h0_5, .inl (cI, 16, .inl s0_bound)), (h0_6, .inl (cI, 2000, .inl s0_work)), (h0_7, .inl (cI, 2000, .inl s0_answers))] _ := hP
  have hD : va_D A [(h0, .inr (8, [.int s0_terms, .ref h0_1, .ref h0_2, .int s0_triples, .ref h0_3, .int s0_patterns, .ref h0_4, .ref h0_5, .int s0_found, .ref h0_6, .int s0_kept, .int s0_keptVariables, .ref h0_7, .int (0 : Int32)])), (h0_1, .inl (cI, 100, .inl s0_number)), (h0_2, .inl (cI, 40, .inl s0_term)), (h0_3, .inl (cI, 180, .inl s0_store)), (h0_4, .inl (cI, 9, .inl s0_query)), (h0_5, .inl (cI, 16, .inl s0_bound)), (h0_6, .inl (cI, 2000, .inl s0_work)), (h0_7, .inl (cI, 2000, .inl s0_answers))] := hD
  refine lv_aload_n hx hb dX8_answers_5 rfl (lv_at hl 0 rfl) ?_
  refine va_get (D := (dC, dI)) (ci := 8) (v := .int s0_kept) (C := RX8) (T := TX8) (N := 14) hx hb hts (hinX8) hown hK hP 0 rfl rfl 10 (by decide) (hts (.fieldLink RX8 96 "TripleJoinsModel" "kept" "I") (by decide +kernel)) (fun _ h9 => h9) rfl dX8_answers_6 ?_
  exact W.iret (v := s0_kept) hx hb hr (fun t ht hW => ⟨⟨s0_kept, (s0_terms, s0_number, s0_term, s0_triples, s0_store, s0_patterns, s0_query, s0_bound, s0_found, s0_work, s0_kept, s0_keptVariables, s0_answers, (0 : Int32)), rfl, h, ⟨by rw [ht]; exact hP, hD⟩⟩, hS.F ht⟩) hS.2.2 dX8_answers_9
abbrev Q_X8_bindingOf (dC : Nat → ClassId) (dI : Nat → Nat → Nat) (cI : ClassId) (h0 h0_1 h0_2 h0_3 h0_4 h0_5 h0_6 h0_7 : Nat) (s0 : ModS) (A : Nat → Prop) (post : Int32 → Prop) : Array Value → State → Outcome → State → Prop := va_Qi (fun (r : Int32) (_ : Unit) => post r) (fun _ _ => True) A
abbrev rm_X8_bindingOf : Room := { frames := 0, cells := 0, slots := 0, locals := 0 }
set_option maxHeartbeats 4000000 in
set_option maxRecDepth 100000 in
theorem c_X8_bindingOf (l : Launch) (dC : Nat → ClassId) (dI : Nat → Nat → Nat) (cI : ClassId) (h0 h0_1 h0_2 h0_3 h0_4 h0_5 h0_6 h0_7 : Nat) (sz : Nat) (s0 : ModS) (v1 : Int32) (v2 : Int32) (post : Int32 → Prop) (h : P_X8_bindingOf s0 v1 v2 post) : Met l yX8_bindingOf wsX8_bindingOf rm_X8_bindingOf (va_Pc [.ref h0, .int v1, .int v2] (cpre (dC, dI) [(cI, .int)] [(h0, .inr (8, [.int s0.terms, .ref h0_1, .ref h0_2, .int s0.triples, .ref h0_3, .int s0.patterns, .ref h0_4, .ref h0_5, .int s0.found, .ref h0_6, .int s0.kept, .int s0.keptVariables, .ref h0_7, .int s0.thrown])), (h0_1, .inl (cI, 100, .inl s0.number)), (h0_2, .inl (cI, 40, .inl s0.term)), (h0_3, .inl (cI, 180, .inl s0.store)), (h0_4, .inl (cI, 9, .inl s0.query)), (h0_5, .inl (cI, 16, .inl s0.bound)), (h0_6, .inl (cI, 2000, .inl s0.work)), (h0_7, .inl (cI, 2000, .inl s0.answers))] sz)) (Q_X8_bindingOf dC dI cI h0 h0_1 h0_2 h0_3 h0_4 h0_5 h0_6 h0_7 s0 (va_A [] sz) post) 0 0 (va_A [] sz) := by
  refine Met.ofW (cc := cX8_bindingOf) (maxL := 5) (ret := (some .int)) (by decide) rfl ?_
  intro p e s m args below meth c s₁ B hml hv
  obtain ⟨rfl, hsz, hP, hK, hD0, hN⟩ := hv
  have hx := B.exec
  have hb := B.bytes
  have hr := B.returns
  have hts := atoms_spec (ws := wsX8_bindingOf) B.pre
  have hown : s.vm.findClass RX8 = some m.cls := findClass_of_methodNamed B.named
  have hlocks := B.notSynchronized
  subst hsz
  have hD := hD0
  generalize hAe : va_A [] s.heap.size = A
  have hA : ∀ q : Nat, s.heap.size ≤ q → A q := fun q h => by rw [← hAe]; exact Or.inr h
  clear hAe hD0
  obtain ⟨s0_terms, s0_number, s0_term, s0_triples, s0_store, s0_patterns, s0_query, s0_bound, s0_found, s0_work, s0_kept, s0_keptVariables, s0_answers, s0_thrown⟩ := s0
  have hS : va_S A s.heap s.heap [] := va_S.rf
  have hP : va_P (dC, dI) vwCl [(h0, .inr (8, [.int s0_terms, .ref h0_1, .ref h0_2, .int s0_triples, .ref h0_3, .int s0_patterns, .ref h0_4, .ref h0_5, .int s0_found, .ref h0_6, .int s0_kept, .int s0_keptVariables, .ref h0_7, .int s0_thrown])), (h0_1, .inl (cI, 100, .inl s0_number)), (h0_2, .inl (cI, 40, .inl s0_term)), (h0_3, .inl (cI, 180, .inl s0_store)), (h0_4, .inl (cI, 9, .inl s0_query)), (h0_5, .inl (cI, 16, .inl s0_bound)), (h0_6, .inl (cI, 2000, .inl s0_work)), (h0_7, .inl (cI, 2000, .inl s0_answers))] s.heap := hP
  have hD : va_D (fun _ : Nat => True) [(h0, .inr (8, [.int s0_terms, .ref h0_1, .ref h0_2, .int s0_triples, .ref h0_3, .int s0_patterns, .ref h0_4, .ref h0_5, .int s0_found, .ref h0_6, .int s0_kept, .int s0_keptVariables, .ref h0_7, .int s0_thrown])), (h0_1, .inl (cI, 100, .inl s0_number)), (h0_2, .inl (cI, 40, .inl s0_term)), (h0_3, .inl (cI, 180, .inl s0_store)), (h0_4, .inl (cI, 9, .inl s0_query)), (h0_5, .inl (cI, 16, .inl s0_bound)), (h0_6, .inl (cI, 2000, .inl s0_work)), (h0_7, .inl (cI, 2000, .inl s0_answers))] := hD
  have hl := lv_entry ([.ref h0, .int v1, .int v2]) (n := 5) (Nat.le_of_ble_eq_true rfl)
  rw [lg_entry_eq]
  generalize (lg_sl ([.ref h0, .int v1, .int v2]) ++ List.replicate (5 - (lg_sl ([.ref h0, .int v1, .int v2])).length) Slot.unset).toArray = ls at hl ⊢
  have hl : lv_has ls 5 [(0, .ref h0), (1, .int v1), (2, .int v2)] := hl
  refine lv_iload_n hx hb dX8_bindingOf_0 rfl (lv_at hl 1 rfl) ?_
  refine lv_istore_n (lv' := [(3, .int v1), (0, .ref h0), (1, .int v1), (2, .int v2)]) hx hb dX8_bindingOf_1 rfl hl (by decide) rfl (fun ls hl => ?_)
  refine lv_iconst (v := (3 : Int32)) hx hb dX8_bindingOf_2 (by decide) ?_
  refine lv_istore (lv' := [(4, .int (3 : Int32)), (3, .int v1), (0, .ref h0), (1, .int v1), (2, .int v2)]) hx hb dX8_bindingOf_3 hl (by decide) rfl (fun ls hl => ?_)
  have hl : lv_has ls 5 [(2, .int v2), (3, .int v1), (4, .int (3 : Int32))] := lv_sub hl [4, 1, 0] rfl
  obtain ⟨I_1, hI_1, n_1, h⟩ := h
  have loop_1 : ∀ (n_1 : Nat) (v3_2 : Int32) (v4_3 : Int32) (h : I_1 n_1 (v3_2, v4_3)) (H : Heap) (locs : List Loc) (hP : va_P (dC, dI) vwCl [(h0, .inr (8, [.int s0_terms, .ref h0_1, .ref h0_2, .int s0_triples, .ref h0_3, .int s0_patterns, .ref h0_4, .ref h0_5, .int s0_found, .ref h0_6, .int s0_kept, .int s0_keptVariables, .ref h0_7, .int s0_thrown])), (h0_1, .inl (cI, 100, .inl s0_number)), (h0_2, .inl (cI, 40, .inl s0_term)), (h0_3, .inl (cI, 180, .inl s0_store)), (h0_4, .inl (cI, 9, .inl s0_query)), (h0_5, .inl (cI, 16, .inl s0_bound)), (h0_6, .inl (cI, 2000, .inl s0_work)), (h0_7, .inl (cI, 2000, .inl s0_answers))] H) (hD : va_D (fun _ : Nat => True) [(h0, .inr (8, [.int s0_terms, .ref h0_1, .ref h0_2, .int s0_triples, .ref h0_3, .int s0_patterns, .ref h0_4, .ref h0_5, .int s0_found, .ref h0_6, .int s0_kept, .int s0_keptVariables, .ref h0_7, .int s0_thrown])), (h0_1, .inl (cI, 100, .inl s0_number)), (h0_2, .inl (cI, 40, .inl s0_term)), (h0_3, .inl (cI, 180, .inl s0_store)), (h0_4, .inl (cI, 9, .inl s0_query)), (h0_5, .inl (cI, 16, .inl s0_bound)), (h0_6, .inl (cI, 2000, .inl s0_work)), (h0_7, .inl (cI, 2000, .inl s0_answers))]) (hS : va_S A s.heap H locs) (ls : Array Slot) (hl : lv_has ls 5 [(2, .int v2), (3, .int v3_2), (4, .int v4_3)]), W p l e rm_X8_bindingOf s m ([.ref h0, .int v1, .int v2] : List Value).toArray below meth c H locs 0 0 (MQ below (Q_X8_bindingOf dC dI cI h0 h0_1 h0_2 h0_3 h0_4 h0_5 h0_6 h0_7 (s0_terms, s0_number, s0_term, s0_triples, s0_store, s0_patterns, s0_query, s0_bound, s0_found, s0_work, s0_kept, s0_keptVariables, s0_answers, s0_thrown) A post) (([.ref h0, .int v1, .int v2] : List Value).toArray) s 0 0 A) (F0 m 5 ls []) := by
    intro n_1
    induction n_1 using Nat.strongRecOn with
    | ind n_1 ih_1 =>
      intro v3_2 v4_3 h H locs hP hD hS ls hl
      have h := hI_1 n_1 _ h
      refine lv_iload hx hb dX8_bindingOf_5 (lv_at hl 2 rfl) ?_
      refine lv_iload_n hx hb dX8_bindingOf_7 rfl (lv_at hl 0 rfl) ?_
      obtain ⟨ht_, hf_⟩ := h
      refine lv_icmp_le (tgt := 22) hx hb dX8_bindingOf_8 (by decide) (fun c_4 => ?_) (fun c_4 => ?_)
      · have h := ht_ c_4
        refine lv_iload_n hx hb dX8_bindingOf_22 rfl (lv_at hl 1 rfl) ?_
        refine lv_bipush (v := (41 : Int32)) hx hb dX8_bindingOf_23 (by decide) ?_
        refine lv_irem hx hb dX8_bindingOf_25 (by decide) ?_
        refine lv_iconst (v := (1 : Int32)) hx hb dX8_bindingOf_26 (by decide) ?_
        refine lv_isub hx hb dX8_bindingOf_27 ?_
        exact W.iret (v := ((v3_2 - v3_2 / (41 : Int32) * (41 : Int32)) - (1 : Int32))) hx hb hr (fun t ht hW => ⟨⟨((v3_2 - v3_2 / (41 : Int32) * (41 : Int32)) - (1 : Int32)), (), rfl, h, trivial⟩, hS.F ht⟩) hS.2.2 dX8_bindingOf_28
      · have h := hf_ c_4
        refine lv_iload_n hx hb dX8_bindingOf_11 rfl (lv_at hl 1 rfl) ?_
        refine lv_bipush (v := (41 : Int32)) hx hb dX8_bindingOf_12 (by decide) ?_
        refine lv_idiv hx hb dX8_bindingOf_14 (by decide) ?_
        refine lv_istore_n (lv' := [(3, .int (v3_2 / (41 : Int32))), (2, .int v2), (4, .int v4_3)]) hx hb dX8_bindingOf_15 rfl hl (by decide) rfl (fun ls hl => ?_)
        refine lv_iinc (v := (v4_3 + (-1 : Int32))) (lv' := [(4, .int (v4_3 + (-1 : Int32))), (3, .int (v3_2 / (41 : Int32))), (2, .int v2)]) hx hb dX8_bindingOf_16 hl (k := 2) rfl rfl (by decide) rfl (fun ls hl => ?_)
        refine lv_goto (tgt := 5) hx hb dX8_bindingOf_19 (by decide) ?_
        have hl : lv_has ls 5 [(2, .int v2), (3, .int (v3_2 / (41 : Int32))), (4, .int (v4_3 + (-1 : Int32)))] := lv_sub hl [2, 1, 0] rfl
        obtain ⟨k_5, hk_6, h⟩ := h
        exact ih_1 k_5 hk_6 (v3_2 / (41 : Int32)) (v4_3 + (-1 : Int32)) h _ _ hP hD hS _ hl
  exact loop_1 n_1 v1 (3 : Int32) h _ _ hP hD hS _ hl
abbrev Q_X8_answer (dC : Nat → ClassId) (dI : Nat → Nat → Nat) (cI : ClassId) (h0 h0_1 h0_2 h0_3 h0_4 h0_5 h0_6 h0_7 : Nat) (s0 : ModS) (A : Nat → Prop) (post : Int32 → ModS → Prop) : Array Value → State → Outcome → State → Prop := va_Qi post (fun (u : ModS) (t : State) => va_P (dC, dI) vwCl [(h0, .inr (8, [.int u.terms, .ref h0_1, .ref h0_2, .int u.triples, .ref h0_3, .int u.patterns, .ref h0_4, .ref h0_5, .int u.found, .ref h0_6, .int u.kept, .int u.keptVariables, .ref h0_7, .int u.thrown])), (h0_1, .inl (cI, 100, .inl u.number)), (h0_2, .inl (cI, 40, .inl u.term)), (h0_3, .inl (cI, 180, .inl u.store)), (h0_4, .inl (cI, 9, .inl u.query)), (h0_5, .inl (cI, 16, .inl u.bound)), (h0_6, .inl (cI, 2000, .inl u.work)), (h0_7, .inl (cI, 2000, .inl u.answers))] t.heap ∧ va_D A [(h0, .inr (8, [.int u.terms, .ref h0_1, .ref h0_2, .int u.triples, .ref h0_3, .int u.patterns, .ref h0_4, .ref h0_5, .int u.found, .ref h0_6, .int u.kept, .int u.keptVariables, .ref h0_7, .int u.thrown])), (h0_1, .inl (cI, 100, .inl u.number)), (h0_2, .inl (cI, 40, .inl u.term)), (h0_3, .inl (cI, 180, .inl u.store)), (h0_4, .inl (cI, 9, .inl u.query)), (h0_5, .inl (cI, 16, .inl u.bound)), (h0_6, .inl (cI, 2000, .inl u.work)), (h0_7, .inl (cI, 2000, .inl u.answers))]) A
abbrev rm_X8_answer : Room := { frames := 1, cells := 0, slots := 0, locals := 24 }
set_option maxHeartbeats 4000000 in
set_option maxRecDepth 100000 in
theorem c_X8_answer (l : Launch) (dC : Nat → ClassId) (dI : Nat → Nat → Nat) (cI : ClassId) (h0 h0_1 h0_2 h0_3 h0_4 h0_5 h0_6 h0_7 : Nat) (sz : Nat) (s0 : ModS) (v1 : Int32) (v2 : Int32) (post : Int32 → ModS → Prop) (h : P_X8_answer s0 v1 v2 post) : Met l yX8_answer wsX8_answer rm_X8_answer (va_Pc [.ref h0, .int v1, .int v2] (cpre (dC, dI) [(cI, .int)] [(h0, .inr (8, [.int s0.terms, .ref h0_1, .ref h0_2, .int s0.triples, .ref h0_3, .int s0.patterns, .ref h0_4, .ref h0_5, .int s0.found, .ref h0_6, .int s0.kept, .int s0.keptVariables, .ref h0_7, .int s0.thrown])), (h0_1, .inl (cI, 100, .inl s0.number)), (h0_2, .inl (cI, 40, .inl s0.term)), (h0_3, .inl (cI, 180, .inl s0.store)), (h0_4, .inl (cI, 9, .inl s0.query)), (h0_5, .inl (cI, 16, .inl s0.bound)), (h0_6, .inl (cI, 2000, .inl s0.work)), (h0_7, .inl (cI, 2000, .inl s0.answers))] sz)) (Q_X8_answer dC dI cI h0 h0_1 h0_2 h0_3 h0_4 h0_5 h0_6 h0_7 s0 (va_A [(h0, .inr (8, [.int s0.terms, .ref h0_1, .ref h0_2, .int s0.triples, .ref h0_3, .int s0.patterns, .ref h0_4, .ref h0_5, .int s0.found, .ref h0_6, .int s0.kept, .int s0.keptVariables, .ref h0_7, .int s0.thrown])), (h0_1, .inl (cI, 100, .inl s0.number)), (h0_2, .inl (cI, 40, .inl s0.term)), (h0_3, .inl (cI, 180, .inl s0.store)), (h0_4, .inl (cI, 9, .inl s0.query)), (h0_5, .inl (cI, 16, .inl s0.bound)), (h0_6, .inl (cI, 2000, .inl s0.work)), (h0_7, .inl (cI, 2000, .inl s0.answers))] sz) post) 0 0 (va_A [(h0, .inr (8, [.int s0.terms, .ref h0_1, .ref h0_2, .int s0.triples, .ref h0_3, .int s0.patterns, .ref h0_4, .ref h0_5, .int s0.found, .ref h0_6, .int s0.kept, .int s0.keptVariables, .ref h0_7, .int s0.thrown])), (h0_1, .inl (cI, 100, .inl s0.number)), (h0_2, .inl (cI, 40, .inl s0.term)), (h0_3, .inl (cI, 180, .inl s0.store)), (h0_4, .inl (cI, 9, .inl s0.query)), (h0_5, .inl (cI, 16, .inl s0.bound)), (h0_6, .inl (cI, 2000, .inl s0.work)), (h0_7, .inl (cI, 2000, .inl s0.answers))] sz) := by
  refine Met.ofW (cc := cX8_answer) (maxL := 4) (ret := (some .int)) (by decide) rfl ?_
  intro p e s m args below meth c s₁ B hml hv
  obtain ⟨rfl, hsz, hP, hK, hD0, hN⟩ := hv
  have hx := B.exec
  have hb := B.bytes
  have hr := B.returns
  have hts := atoms_spec (ws := wsX8_answer) B.pre
  have hown : s.vm.findClass RX8 = some m.cls := findClass_of_methodNamed B.named
  have hlocks := B.notSynchronized
  subst hsz
  have hD := hD0.self (sz := s.heap.size)
  generalize hAe : va_A [(h0, .inr (8, [.int s0.terms, .ref h0_1, .ref h0_2, .int s0.triples, .ref h0_3, .int s0.patterns, .ref h0_4, .ref h0_5, .int s0.found, .ref h0_6, .int s0.kept, .int s0.keptVariables, .ref h0_7, .int s0.thrown])), (h0_1, .inl (cI, 100, .inl s0.number)), (h0_2, .inl (cI, 40, .inl s0.term)), (h0_3, .inl (cI, 180, .inl s0.store)), (h0_4, .inl (cI, 9, .inl s0.query)), (h0_5, .inl (cI, 16, .inl s0.bound)), (h0_6, .inl (cI, 2000, .inl s0.work)), (h0_7, .inl (cI, 2000, .inl s0.answers))] s.heap.size = A at hD ⊢
  have hA : ∀ q : Nat, s.heap.size ≤ q → A q := fun q h => by rw [← hAe]; exact Or.inr h
  clear hAe hD0
  obtain ⟨s0_terms, s0_number, s0_term, s0_triples, s0_store, s0_patterns, s0_query, s0_bound, s0_found, s0_work, s0_kept, s0_keptVariables, s0_answers, s0_thrown⟩ := s0
  have hS : va_S A s.heap s.heap [] := va_S.rf
  have hP : va_P (dC, dI) vwCl [(h0, .inr (8, [.int s0_terms, .ref h0_1, .ref h0_2, .int s0_triples, .ref h0_3, .int s0_patterns, .ref h0_4, .ref h0_5, .int s0_found, .ref h0_6, .int s0_kept, .int s0_keptVariables, .ref h0_7, .int s0_thrown])), (h0_1, .inl (cI, 100, .inl s0_number)), (h0_2, .inl (cI, 40, .inl s0_term)), (h0_3, .inl (cI, 180, .inl s0_store)), (h0_4, .inl (cI, 9, .inl s0_query)), (h0_5, .inl (cI, 16, .inl s0_bound)), (h0_6, .inl (cI, 2000, .inl s0_work)), (h0_7, .inl (cI, 2000, .inl s0_answers))] s.heap := hP
  have hD : va_D A [(h0, .inr (8, [.int s0_terms, .ref h0_1, .ref h0_2, .int s0_triples, .ref h0_3, .int s0_patterns, .ref h0_4, .ref h0_5, .int s0_found, .ref h0_6, .int s0_kept, .int s0_keptVariables, .ref h0_7, .int s0_thrown])), (h0_1, .inl (cI, 100, .inl s0_number)), (h0_2, .inl (cI, 40, .inl s0_term)), (h0_3, .inl (cI, 180, .inl s0_store)), (h0_4, .inl (cI, 9, .inl s0_query)), (h0_5, .inl (cI, 16, .inl s0_bound)), (h0_6, .inl (cI, 2000, .inl s0_work)), (h0_7, .inl (cI, 2000, .inl s0_answers))] := hD
  have hl := lv_entry ([.ref h0, .int v1, .int v2]) (n := 4) (Nat.le_of_ble_eq_true rfl)
  rw [lg_entry_eq]
  generalize (lg_sl ([.ref h0, .int v1, .int v2]) ++ List.replicate (4 - (lg_sl ([.ref h0, .int v1, .int v2])).length) Slot.unset).toArray = ls at hl ⊢
  have hl : lv_has ls 4 [(0, .ref h0), (1, .int v1), (2, .int v2)] := hl
  have hinX8 : ∀ w ∈ u_ws RX8 TX8 14, w ∈ wsX8_answer := by decide +kernel
  have lab_55 : ∀ (s0_1_terms : Int32) (s0_1_number : Nat → Int32) (s0_1_term : Nat → Int32) (s0_1_triples : Int32) (s0_1_store : Nat → Int32) (s0_1_patterns : Int32) (s0_1_query : Nat → Int32) (s0_1_bound : Nat → Int32) (s0_1_found : Int32) (s0_1_work : Nat → Int32) (s0_1_kept : Int32) (s0_1_keptVariables : Int32) (s0_1_answers : Nat → Int32) (s0_1_thrown : Int32) (x0_2 : Int32) (h : P_X8_answer_j55 (s0_1_terms, s0_1_number, s0_1_term, s0_1_triples, s0_1_store, s0_1_patterns, s0_1_query, s0_1_bound, s0_1_found, s0_1_work, s0_1_kept, s0_1_keptVariables, s0_1_answers, s0_1_thrown) v1 v2 x0_2 post) (H : Heap) (locs : List Loc) (hP : va_P (dC, dI) vwCl [(h0, .inr (8, [.int s0_1_terms, .ref h0_1, .ref h0_2, .int s0_1_triples, .ref h0_3, .int s0_1_patterns, .ref h0_4, .ref h0_5, .int s0_1_found, .ref h0_6, .int s0_1_kept, .int s0_1_keptVariables, .ref h0_7, .int s0_1_thrown])), (h0_1, .inl (cI, 100, .inl s0_1_number)), (h0_2, .inl (cI, 40, .inl s0_1_term)), (h0_3, .inl (cI, 180, .inl s0_1_store)), (h0_4, .inl (cI, 9, .inl s0_1_query)), (h0_5, .inl (cI, 16, .inl s0_1_bound)), (h0_6, .inl (cI, 2000, .inl s0_1_work)), (h0_7, .inl (cI, 2000, .inl s0_1_answers))] H) (hD : va_D A [(h0, .inr (8, [.int s0_1_terms, .ref h0_1, .ref h0_2, .int s0_1_triples, .ref h0_3, .int s0_1_patterns, .ref h0_4, .ref h0_5, .int s0_1_found, .ref h0_6, .int s0_1_kept, .int s0_1_keptVariables, .ref h0_7, .int s0_1_thrown])), (h0_1, .inl (cI, 100, .inl s0_1_number)), (h0_2, .inl (cI, 40, .inl s0_1_term)), (h0_3, .inl (cI, 180, .inl s0_1_store)), (h0_4, .inl (cI, 9, .inl s0_1_query)), (h0_5, .inl (cI, 16, .inl s0_1_bound)), (h0_6, .inl (cI, 2000, .inl s0_1_work)), (h0_7, .inl (cI, 2000, .inl s0_1_answers))]) (hS : va_S A s.heap H locs) (ls : Array Slot) (hl : lv_has ls 4 [(0, .ref h0), (1, .int v1), (2, .int v2)]), W p l e rm_X8_answer s m ([.ref h0, .int v1, .int v2] : List Value).toArray below meth c H locs 0 0 (MQ below (Q_X8_answer dC dI cI h0 h0_1 h0_2 h0_3 h0_4 h0_5 h0_6 h0_7 (s0_terms, s0_number, s0_term, s0_triples, s0_store, s0_patterns, s0_query, s0_bound, s0_found, s0_work, s0_kept, s0_keptVariables, s0_answers, s0_thrown) A post) (([.ref h0, .int v1, .int v2] : List Value).toArray) s 0 0 A) (F0 m 55 ls [.int x0_2, .ref h0]) := by
    intro s0_1_terms s0_1_number s0_1_term s0_1_triples s0_1_store s0_1_patterns s0_1_query s0_1_bound s0_1_found s0_1_work s0_1_kept s0_1_keptVariables s0_1_answers s0_1_thrown x0_2 h H locs hP hD hS ls hl
    refine va_put (D := (dC, dI)) (ci := 8) (v := .int x0_2) (ty := .int) (C := RX8) (T := TX8) (N := 14) hx hb hts (hinX8) tyX8 tyX8_ok nmX8 hown hK hP hD hS 0 rfl rfl 13 (by decide) (hts (.fieldLink RX8 31 "TripleJoinsModel" "thrown" "I") (by decide +kernel)) (fun _ h9 => h9) rfl (by decide +kernel) rfl rfl (Nat.le_of_ble_eq_true rfl) dX8_answer_55 (fun H locs hP hD hS => ?_)
    have hP : va_P (dC, dI) vwCl [(h0, .inr (8, [.int s0_1_terms, .ref h0_1, .ref h0_2, .int s0_1_triples, .ref h0_3, .int s0_1_patterns, .ref h0_4, .ref h0_5, .int s0_1_found, .ref h0_6, .int s0_1_kept, .int s0_1_keptVariables, .ref h0_7, .int x0_2])), (h0_1, .inl (cI, 100, .inl s0_1_number)), (h0_2, .inl (cI, 40, .inl s0_1_term)), (h0_3, .inl (cI, 180, .inl s0_1_store)), (h0_4, .inl (cI, 9, .inl s0_1_query)), (h0_5, .inl (cI, 16, .inl s0_1_bound)), (h0_6, .inl (cI, 2000, .inl s0_1_work)), (h0_7, .inl (cI, 2000, .inl s0_1_answers))] _ := hP
    have hD : va_D A [(h0, .inr (8, [.int s0_1_terms, .ref h0_1, .ref h0_2, .int s0_1_triples, .ref h0_3, .int s0_1_patterns, .ref h0_4, .ref h0_5, .int s0_1_found, .ref h0_6, .int s0_1_kept, .int s0_1_keptVariables, .ref h0_7, .int x0_2])), (h0_1, .inl (cI, 100, .inl s0_1_number)), (h0_2, .inl (cI, 40, .inl s0_1_term)), (h0_3, .inl (cI, 180, .inl s0_1_store)), (h0_4, .inl (cI, 9, .inl s0_1_query)), (h0_5, .inl (cI, 16, .inl s0_1_bound)), (h0_6, .inl (cI, 2000, .inl s0_1_work)), (h0_7, .inl (cI, 2000, .inl s0_1_answers))] := hD
    refine lv_aload_n hx hb dX8_answer_58 rfl (lv_at hl 0 rfl) ?_
    refine va_get (D := (dC, dI)) (ci := 8) (v := .int x0_2) (C := RX8) (T := TX8) (N := 14) hx hb hts (hinX8) hown hK hP 0 rfl rfl 13 (by decide) (hts (.fieldLink RX8 31 "TripleJoinsModel" "thrown" "I") (by decide +kernel)) (fun _ h9 => h9) rfl dX8_answer_59 ?_
    obtain ⟨ht_, hf_⟩ := h
    refine lv_if_le (tgt := 69) hx hb dX8_answer_62 (by decide) (fun c_3 => ?_) (fun c_3 => ?_)
    · have h := ht_ c_3
      refine lv_aload_n hx hb dX8_answer_69 rfl (lv_at hl 0 rfl) ?_
      refine va_get (D := (dC, dI)) (ci := 8) (v := .ref h0_2) (C := RX8) (T := TX8) (N := 14) hx hb hts (hinX8) hown hK hP 0 rfl rfl 2 (by decide) (hts (.fieldLink RX8 13 "TripleJoinsModel" "term" "[I") (by decide +kernel)) (fun _ h9 => h9) rfl dX8_answer_70 ?_
      refine lv_aload_n hx hb dX8_answer_73 rfl (lv_at hl 0 rfl) ?_
      refine lv_aload_n hx hb dX8_answer_74 rfl (lv_at hl 0 rfl) ?_
      refine va_get (D := (dC, dI)) (ci := 8) (v := .ref h0_7) (C := RX8) (T := TX8) (N := 14) hx hb hts (hinX8) hown hK hP 0 rfl rfl 12 (by decide) (hts (.fieldLink RX8 28 "TripleJoinsModel" "answers" "[I") (by decide +kernel)) (fun _ h9 => h9) rfl dX8_answer_75 ?_
      refine lv_iload_n hx hb dX8_answer_78 rfl (lv_at hl 1 rfl) ?_
      obtain ⟨hin, h⟩ := h
      refine va_iald (n := 2000) hx hb hK hP 7 0 rfl rfl hin dX8_answer_79 ?_
      refine lv_iload_n hx hb dX8_answer_80 rfl (lv_at hl 2 rfl) ?_
      have hPc := hP.sub (ws' := [(h0, .inr (8, [.int s0_1_terms, .ref h0_1, .ref h0_2, .int s0_1_triples, .ref h0_3, .int s0_1_patterns, .ref h0_4, .ref h0_5, .int s0_1_found, .ref h0_6, .int s0_1_kept, .int s0_1_keptVariables, .ref h0_7, .int x0_2])), (h0_1, .inl (cI, 100, .inl s0_1_number)), (h0_2, .inl (cI, 40, .inl s0_1_term)), (h0_3, .inl (cI, 180, .inl s0_1_store)), (h0_4, .inl (cI, 9, .inl s0_1_query)), (h0_5, .inl (cI, 16, .inl s0_1_bound)), (h0_6, .inl (cI, 2000, .inl s0_1_work)), (h0_7, .inl (cI, 2000, .inl s0_1_answers))]) [0, 1, 2, 3, 4, 5, 6, 7] rfl
      have hDc := hD.sub (ws' := [(h0, .inr (8, [.int s0_1_terms, .ref h0_1, .ref h0_2, .int s0_1_triples, .ref h0_3, .int s0_1_patterns, .ref h0_4, .ref h0_5, .int s0_1_found, .ref h0_6, .int s0_1_kept, .int s0_1_keptVariables, .ref h0_7, .int x0_2])), (h0_1, .inl (cI, 100, .inl s0_1_number)), (h0_2, .inl (cI, 40, .inl s0_1_term)), (h0_3, .inl (cI, 180, .inl s0_1_store)), (h0_4, .inl (cI, 9, .inl s0_1_query)), (h0_5, .inl (cI, 16, .inl s0_1_bound)), (h0_6, .inl (cI, 2000, .inl s0_1_work)), (h0_7, .inl (cI, 2000, .inl s0_1_answers))]) [0, 1, 2, 3, 4, 5, 6, 7] (by decide) rfl
      have hFc := fr0 hA hS
      refine va_calli (va_runV (As := [.int (s0_1_answers (v1).toNatClampNeg), .int v2]) (rest := [.ref h0_2]) ⟨hx, hb, hml, hown, hts⟩ (c_X8_bindingOf l dC dI cI h0 h0_1 h0_2 h0_3 h0_4 h0_5 h0_6 h0_7 _ (s0_1_terms, s0_1_number, s0_1_term, s0_1_triples, s0_1_store, s0_1_patterns, s0_1_query, s0_1_bound, s0_1_found, s0_1_work, s0_1_kept, s0_1_keptVariables, s0_1_answers, x0_2) (s0_1_answers (v1).toNatClampNeg) v2 _ h) (cwV 2 hts gX8_answer_X8_bindingOf rfl rfl rfl (by decide +kernel) ⟨Nat.le_of_ble_eq_true rfl, Nat.le_of_ble_eq_true rfl⟩) (pb_V hPc hK hDc hN (ci := 8) (q0 := 0) rfl rfl) rfl rfl hl.1 rfl (lv_room (Nat.le_of_ble_eq_true rfl)) dX8_answer_81 ⟨Nat.zero_le _, Nat.zero_le _⟩) hS (fun q _ h => hFc q h) hFc (fun r_5 u_4 t H locs ht hvm h hB hz1 hk1 hS => ?_)
      have hP := vaPk hP hk1
      obtain ⟨hin, h⟩ := h
      refine va_iald (n := 40) hx hb hK hP 2 0 rfl rfl hin dX8_answer_84 ?_
      exact W.iret (v := (s0_1_term (r_5).toNatClampNeg)) hx hb hr (fun t ht hW => ⟨⟨(s0_1_term (r_5).toNatClampNeg), (s0_1_terms, s0_1_number, s0_1_term, s0_1_triples, s0_1_store, s0_1_patterns, s0_1_query, s0_1_bound, s0_1_found, s0_1_work, s0_1_kept, s0_1_keptVariables, s0_1_answers, x0_2), rfl, h, ⟨by rw [ht]; exact hP, hD⟩⟩, hS.F ht⟩) hS.2.2 dX8_answer_85
    · have h := hf_ c_3
      refine lv_iconst (v := (0 : Int32)) hx hb dX8_answer_65 (by decide) ?_
      refine lv_goto (tgt := 85) hx hb dX8_answer_66 (by decide) ?_
      exact W.iret (v := (0 : Int32)) hx hb hr (fun t ht hW => ⟨⟨(0 : Int32), (s0_1_terms, s0_1_number, s0_1_term, s0_1_triples, s0_1_store, s0_1_patterns, s0_1_query, s0_1_bound, s0_1_found, s0_1_work, s0_1_kept, s0_1_keptVariables, s0_1_answers, x0_2), rfl, h, ⟨by rw [ht]; exact hP, hD⟩⟩, hS.F ht⟩) hS.2.2 dX8_answer_85
  have lab_26 : ∀ (s0_6_terms : Int32) (s0_6_number : Nat → Int32) (s0_6_term : Nat → Int32) (s0_6_triples : Int32) (s0_6_store : Nat → Int32) (s0_6_patterns : Int32) (s0_6_query : Nat → Int32) (s0_6_bound : Nat → Int32) (s0_6_found : Int32) (s0_6_work : Nat → Int32) (s0_6_kept : Int32) (s0_6_keptVariables : Int32) (s0_6_answers : Nat → Int32) (s0_6_thrown : Int32) (x0_7 : Int32) (h : P_X8_answer_j26 (s0_6_terms, s0_6_number, s0_6_term, s0_6_triples, s0_6_store, s0_6_patterns, s0_6_query, s0_6_bound, s0_6_found, s0_6_work, s0_6_kept, s0_6_keptVariables, s0_6_answers, s0_6_thrown) v1 v2 x0_7 post) (H : Heap) (locs : List Loc) (hP : va_P (dC, dI) vwCl [(h0, .inr (8, [.int s0_6_terms, .ref h0_1, .ref h0_2, .int s0_6_triples, .ref h0_3, .int s0_6_patterns, .ref h0_4, .ref h0_5, .int s0_6_found, .ref h0_6, .int s0_6_kept, .int s0_6_keptVariables, .ref h0_7, .int s0_6_thrown])), (h0_1, .inl (cI, 100, .inl s0_6_number)), (h0_2, .inl (cI, 40, .inl s0_6_term)), (h0_3, .inl (cI, 180, .inl s0_6_store)), (h0_4, .inl (cI, 9, .inl s0_6_query)), (h0_5, .inl (cI, 16, .inl s0_6_bound)), (h0_6, .inl (cI, 2000, .inl s0_6_work)), (h0_7, .inl (cI, 2000, .inl s0_6_answers))] H) (hD : va_D A [(h0, .inr (8, [.int s0_6_terms, .ref h0_1, .ref h0_2, .int s0_6_triples, .ref h0_3, .int s0_6_patterns, .ref h0_4, .ref h0_5, .int s0_6_found, .ref h0_6, .int s0_6_kept, .int s0_6_keptVariables, .ref h0_7, .int s0_6_thrown])), (h0_1, .inl (cI, 100, .inl s0_6_number)), (h0_2, .inl (cI, 40, .inl s0_6_term)), (h0_3, .inl (cI, 180, .inl s0_6_store)), (h0_4, .inl (cI, 9, .inl s0_6_query)), (h0_5, .inl (cI, 16, .inl s0_6_bound)), (h0_6, .inl (cI, 2000, .inl s0_6_work)), (h0_7, .inl (cI, 2000, .inl s0_6_answers))]) (hS : va_S A s.heap H locs) (ls : Array Slot) (hl : lv_has ls 4 [(0, .ref h0), (1, .int v1), (2, .int v2)]), W p l e rm_X8_answer s m ([.ref h0, .int v1, .int v2] : List Value).toArray below meth c H locs 0 0 (MQ below (Q_X8_answer dC dI cI h0 h0_1 h0_2 h0_3 h0_4 h0_5 h0_6 h0_7 (s0_terms, s0_number, s0_term, s0_triples, s0_store, s0_patterns, s0_query, s0_bound, s0_found, s0_work, s0_kept, s0_keptVariables, s0_answers, s0_thrown) A post) (([.ref h0, .int v1, .int v2] : List Value).toArray) s 0 0 A) (F0 m 26 ls [.int x0_7]) := by
    intro s0_6_terms s0_6_number s0_6_term s0_6_triples s0_6_store s0_6_patterns s0_6_query s0_6_bound s0_6_found s0_6_work s0_6_kept s0_6_keptVariables s0_6_answers s0_6_thrown x0_7 h H locs hP hD hS ls hl
    refine lv_istore_n (lv' := [(3, .int x0_7), (0, .ref h0), (1, .int v1), (2, .int v2)]) hx hb dX8_answer_26 rfl hl (by decide) rfl (fun ls hl => ?_)
    refine lv_aload_n hx hb dX8_answer_27 rfl (lv_at hl 1 rfl) ?_
    refine lv_iload_n hx hb dX8_answer_28 rfl (lv_at hl 2 rfl) ?_
    refine lv_iconst (v := (0 : Int32)) hx hb dX8_answer_29 (by decide) ?_
    refine lv_aload_n hx hb dX8_answer_30 rfl (lv_at hl 1 rfl) ?_
    refine va_get (D := (dC, dI)) (ci := 8) (v := .int s0_6_kept) (C := RX8) (T := TX8) (N := 14) hx hb hts (hinX8) hown hK hP 0 rfl rfl 10 (by decide) (hts (.fieldLink RX8 96 "TripleJoinsModel" "kept" "I") (by decide +kernel)) (fun _ h9 => h9) rfl dX8_answer_31 ?_
    refine lv_iconst (v := (1 : Int32)) hx hb dX8_answer_34 (by decide) ?_
    refine lv_isub hx hb dX8_answer_35 ?_
    have hPc := hP.sub (ws' := []) [] rfl
    have hDc := hD.sub (ws' := []) [] (by decide) rfl
    have hFc := fr0 hA hS
    refine va_calli (va_runS (As := [.int v1, .int (0 : Int32), .int (s0_6_kept - (1 : Int32))]) (rest := [.ref h0]) ⟨hx, hb, hml, hown, hts⟩ (c_X8_isIn l dC dI cI  _ v1 (0 : Int32) (s0_6_kept - (1 : Int32)) _ h) (va_cwS 3 hts gX8_answer_X8_isIn rfl rfl rfl (by decide +kernel) ⟨Nat.le_of_ble_eq_true rfl, Nat.le_of_ble_eq_true rfl⟩) (pb_S hPc hK hDc hN) rfl rfl hl.1 rfl (lv_room (Nat.le_of_ble_eq_true rfl)) dX8_answer_36 ⟨Nat.zero_le _, Nat.zero_le _⟩) hS (fun q _ h => hFc q h) hFc (fun r_9 u_8 t H locs ht hvm h hB hz1 hk1 hS => ?_)
    have hP := vaPk hP hk1
    obtain ⟨ht_, hf_⟩ := h
    refine lv_if_ne (tgt := 46) hx hb dX8_answer_39 (by decide) (fun c_10 => ?_) (fun c_10 => ?_)
    · have h := ht_ c_10
      refine lv_iload_n hx hb dX8_answer_46 rfl (lv_at hl 0 rfl) ?_
      obtain ⟨ht_, hf_⟩ := h
      refine lv_if_eq (tgt := 54) hx hb dX8_answer_47 (by decide) (fun c_11 => ?_) (fun c_11 => ?_)
      · have h := ht_ c_11
        refine lv_iconst (v := (2 : Int32)) hx hb dX8_answer_54 (by decide) ?_
        have hl : lv_has ls 4 [(0, .ref h0), (1, .int v1), (2, .int v2)] := lv_sub hl [1, 2, 3] rfl
        exact lab_55 s0_6_terms s0_6_number s0_6_term s0_6_triples s0_6_store s0_6_patterns s0_6_query s0_6_bound s0_6_found s0_6_work s0_6_kept s0_6_keptVariables s0_6_answers s0_6_thrown (2 : Int32) h _ _ hP hD hS _ hl
      · have h := hf_ c_11
        refine lv_iconst (v := (0 : Int32)) hx hb dX8_answer_50 (by decide) ?_
        refine lv_goto (tgt := 55) hx hb dX8_answer_51 (by decide) ?_
        have hl : lv_has ls 4 [(0, .ref h0), (1, .int v1), (2, .int v2)] := lv_sub hl [1, 2, 3] rfl
        exact lab_55 s0_6_terms s0_6_number s0_6_term s0_6_triples s0_6_store s0_6_patterns s0_6_query s0_6_bound s0_6_found s0_6_work s0_6_kept s0_6_keptVariables s0_6_answers s0_6_thrown (0 : Int32) h _ _ hP hD hS _ hl
    · have h := hf_ c_10
      refine lv_iconst (v := (1 : Int32)) hx hb dX8_answer_42 (by decide) ?_
      refine lv_goto (tgt := 55) hx hb dX8_answer_43 (by decide) ?_
      have hl : lv_has ls 4 [(0, .ref h0), (1, .int v1), (2, .int v2)] := lv_sub hl [1, 2, 3] rfl
      exact lab_55 s0_6_terms s0_6_number s0_6_term s0_6_triples s0_6_store s0_6_patterns s0_6_query s0_6_bound s0_6_found s0_6_work s0_6_kept s0_6_keptVariables s0_6_answers s0_6_thrown (1 : Int32) h _ _ hP hD hS _ hl
  have lab_25 : ∀ (s0_12_terms : Int32) (s0_12_number : Nat → Int32) (s0_12_term : Nat → Int32) (s0_12_triples : Int32) (s0_12_store : Nat → Int32) (s0_12_patterns : Int32) (s0_12_query : Nat → Int32) (s0_12_bound : Nat → Int32) (s0_12_found : Int32) (s0_12_work : Nat → Int32) (s0_12_kept : Int32) (s0_12_keptVariables : Int32) (s0_12_answers : Nat → Int32) (s0_12_thrown : Int32) (h : P_X8_answer_j25 (s0_12_terms, s0_12_number, s0_12_term, s0_12_triples, s0_12_store, s0_12_patterns, s0_12_query, s0_12_bound, s0_12_found, s0_12_work, s0_12_kept, s0_12_keptVariables, s0_12_answers, s0_12_thrown) v1 v2 post) (H : Heap) (locs : List Loc) (hP : va_P (dC, dI) vwCl [(h0, .inr (8, [.int s0_12_terms, .ref h0_1, .ref h0_2, .int s0_12_triples, .ref h0_3, .int s0_12_patterns, .ref h0_4, .ref h0_5, .int s0_12_found, .ref h0_6, .int s0_12_kept, .int s0_12_keptVariables, .ref h0_7, .int s0_12_thrown])), (h0_1, .inl (cI, 100, .inl s0_12_number)), (h0_2, .inl (cI, 40, .inl s0_12_term)), (h0_3, .inl (cI, 180, .inl s0_12_store)), (h0_4, .inl (cI, 9, .inl s0_12_query)), (h0_5, .inl (cI, 16, .inl s0_12_bound)), (h0_6, .inl (cI, 2000, .inl s0_12_work)), (h0_7, .inl (cI, 2000, .inl s0_12_answers))] H) (hD : va_D A [(h0, .inr (8, [.int s0_12_terms, .ref h0_1, .ref h0_2, .int s0_12_triples, .ref h0_3, .int s0_12_patterns, .ref h0_4, .ref h0_5, .int s0_12_found, .ref h0_6, .int s0_12_kept, .int s0_12_keptVariables, .ref h0_7, .int s0_12_thrown])), (h0_1, .inl (cI, 100, .inl s0_12_number)), (h0_2, .inl (cI, 40, .inl s0_12_term)), (h0_3, .inl (cI, 180, .inl s0_12_store)), (h0_4, .inl (cI, 9, .inl s0_12_query)), (h0_5, .inl (cI, 16, .inl s0_12_bound)), (h0_6, .inl (cI, 2000, .inl s0_12_work)), (h0_7, .inl (cI, 2000, .inl s0_12_answers))]) (hS : va_S A s.heap H locs) (ls : Array Slot) (hl : lv_has ls 4 [(0, .ref h0), (1, .int v1), (2, .int v2)]), W p l e rm_X8_answer s m ([.ref h0, .int v1, .int v2] : List Value).toArray below meth c H locs 0 0 (MQ below (Q_X8_answer dC dI cI h0 h0_1 h0_2 h0_3 h0_4 h0_5 h0_6 h0_7 (s0_terms, s0_number, s0_term, s0_triples, s0_store, s0_patterns, s0_query, s0_bound, s0_found, s0_work, s0_kept, s0_keptVariables, s0_answers, s0_thrown) A post) (([.ref h0, .int v1, .int v2] : List Value).toArray) s 0 0 A) (F0 m 25 ls []) := by
    intro s0_12_terms s0_12_number s0_12_term s0_12_triples s0_12_store s0_12_patterns s0_12_query s0_12_bound s0_12_found s0_12_work s0_12_kept s0_12_keptVariables s0_12_answers s0_12_thrown h H locs hP hD hS ls hl
    refine lv_iconst (v := (0 : Int32)) hx hb dX8_answer_25 (by decide) ?_
    exact lab_26 s0_12_terms s0_12_number s0_12_term s0_12_triples s0_12_store s0_12_patterns s0_12_query s0_12_bound s0_12_found s0_12_work s0_12_kept s0_12_keptVariables s0_12_answers s0_12_thrown (0 : Int32) h _ _ hP hD hS _ hl
  refine lv_iload_n hx hb dX8_answer_0 rfl (lv_at hl 2 rfl) ?_
  refine lv_iconst (v := (0 : Int32)) hx hb dX8_answer_1 (by decide) ?_
  refine lv_iconst (v := (3 : Int32)) hx hb dX8_answer_2 (by decide) ?_
  have hPc := hP.sub (ws' := []) [] rfl
  have hDc := hD.sub (ws' := []) [] (by decide) rfl
  have hFc := fr0 hA hS
  refine va_calli (va_runS (As := [.int v2, .int (0 : Int32), .int (3 : Int32)]) (rest := []) ⟨hx, hb, hml, hown, hts⟩ (c_X8_isIn l dC dI cI  _ v2 (0 : Int32) (3 : Int32) _ h) (va_cwS 3 hts gX8_answer_X8_isIn rfl rfl rfl (by decide +kernel) ⟨Nat.le_of_ble_eq_true rfl, Nat.le_of_ble_eq_true rfl⟩) (pb_S hPc hK hDc hN) rfl rfl hl.1 rfl (lv_room (Nat.le_of_ble_eq_true rfl)) dX8_answer_3 ⟨Nat.zero_le _, Nat.zero_le _⟩) hS (fun q _ h => hFc q h) hFc (fun r_14 u_13 t H locs ht hvm h hB hz1 hk1 hS => ?_)
  have hP := vaPk hP hk1
  obtain ⟨ht_, hf_⟩ := h
  refine lv_if_eq (tgt := 25) hx hb dX8_answer_6 (by decide) (fun c_15 => ?_) (fun c_15 => ?_)
  · have h := ht_ c_15
    exact lab_25 s0_terms s0_number s0_term s0_triples s0_store s0_patterns s0_query s0_bound s0_found s0_work s0_kept s0_keptVariables s0_answers s0_thrown h _ _ hP hD hS _ hl
  · have h := hf_ c_15
    refine lv_aload_n hx hb dX8_answer_9 rfl (lv_at hl 0 rfl) ?_
    refine va_get (D := (dC, dI)) (ci := 8) (v := .int s0_keptVariables) (C := RX8) (T := TX8) (N := 14) hx hb hts (hinX8) hown hK hP 0 rfl rfl 11 (by decide) (hts (.fieldLink RX8 99 "TripleJoinsModel" "keptVariables" "I") (by decide +kernel)) (fun _ h9 => h9) rfl dX8_answer_10 ?_
    refine lv_iload_n hx hb dX8_answer_13 rfl (lv_at hl 2 rfl) ?_
    refine lv_ishr hx hb dX8_answer_14 ?_
    refine lv_iconst (v := (1 : Int32)) hx hb dX8_answer_15 (by decide) ?_
    refine lv_iand hx hb dX8_answer_16 ?_
    refine lv_iconst (v := (1 : Int32)) hx hb dX8_answer_17 (by decide) ?_
    obtain ⟨ht_, hf_⟩ := h
    refine lv_icmp_ne (tgt := 25) hx hb dX8_answer_18 (by decide) (fun c_16 => ?_) (fun c_16 => ?_)
    · have h := ht_ c_16
      exact lab_25 s0_terms s0_number s0_term s0_triples s0_store s0_patterns s0_query s0_bound s0_found s0_work s0_kept s0_keptVariables s0_answers s0_thrown h _ _ hP hD hS _ hl
    · have h := hf_ c_16
      refine lv_iconst (v := (1 : Int32)) hx hb dX8_answer_21 (by decide) ?_
      refine lv_goto (tgt := 26) hx hb dX8_answer_22 (by decide) ?_
      exact lab_26 s0_terms s0_number s0_term s0_triples s0_store s0_patterns s0_query s0_bound s0_found s0_work s0_kept s0_keptVariables s0_answers s0_thrown (1 : Int32) h _ _ hP hD hS _ hl
abbrev Q_X8_termsFor (dC : Nat → ClassId) (dI : Nat → Nat → Nat) (cI : ClassId) (h0 h0_1 h0_2 h0_3 h0_4 h0_5 h0_6 h0_7 : Nat) (s0 : ModS) (A : Nat → Prop) (post : Int32 → ModS → Prop) : Array Value → State → Outcome → State → Prop := va_Qi post (fun (u : ModS) (t : State) => va_P (dC, dI) vwCl [(h0, .inr (8, [.int u.terms, .ref h0_1, .ref h0_2, .int u.triples, .ref h0_3, .int u.patterns, .ref h0_4, .ref h0_5, .int u.found, .ref h0_6, .int u.kept, .int u.keptVariables, .ref h0_7, .int u.thrown])), (h0_1, .inl (cI, 100, .inl u.number)), (h0_2, .inl (cI, 40, .inl u.term)), (h0_3, .inl (cI, 180, .inl u.store)), (h0_4, .inl (cI, 9, .inl u.query)), (h0_5, .inl (cI, 16, .inl u.bound)), (h0_6, .inl (cI, 2000, .inl u.work)), (h0_7, .inl (cI, 2000, .inl u.answers))] t.heap ∧ va_D A [(h0, .inr (8, [.int u.terms, .ref h0_1, .ref h0_2, .int u.triples, .ref h0_3, .int u.patterns, .ref h0_4, .ref h0_5, .int u.found, .ref h0_6, .int u.kept, .int u.keptVariables, .ref h0_7, .int u.thrown])), (h0_1, .inl (cI, 100, .inl u.number)), (h0_2, .inl (cI, 40, .inl u.term)), (h0_3, .inl (cI, 180, .inl u.store)), (h0_4, .inl (cI, 9, .inl u.query)), (h0_5, .inl (cI, 16, .inl u.bound)), (h0_6, .inl (cI, 2000, .inl u.work)), (h0_7, .inl (cI, 2000, .inl u.answers))]) A
abbrev rm_X8_termsFor : Room := { frames := 1, cells := 0, slots := 0, locals := 24 }
set_option maxHeartbeats 4000000 in
set_option maxRecDepth 100000 in
theorem c_X8_termsFor (l : Launch) (dC : Nat → ClassId) (dI : Nat → Nat → Nat) (cI : ClassId) (h0 h0_1 h0_2 h0_3 h0_4 h0_5 h0_6 h0_7 : Nat) (sz : Nat) (s0 : ModS) (v1 : Int32) (post : Int32 → ModS → Prop) (h : P_X8_termsFor s0 v1 post) : Met l yX8_termsFor wsX8_termsFor rm_X8_termsFor (va_Pc [.ref h0, .int v1] (cpre (dC, dI) [(cI, .int)] [(h0, .inr (8, [.int s0.terms, .ref h0_1, .ref h0_2, .int s0.triples, .ref h0_3, .int s0.patterns, .ref h0_4, .ref h0_5, .int s0.found, .ref h0_6, .int s0.kept, .int s0.keptVariables, .ref h0_7, .int s0.thrown])), (h0_1, .inl (cI, 100, .inl s0.number)), (h0_2, .inl (cI, 40, .inl s0.term)), (h0_3, .inl (cI, 180, .inl s0.store)), (h0_4, .inl (cI, 9, .inl s0.query)), (h0_5, .inl (cI, 16, .inl s0.bound)), (h0_6, .inl (cI, 2000, .inl s0.work)), (h0_7, .inl (cI, 2000, .inl s0.answers))] sz)) (Q_X8_termsFor dC dI cI h0 h0_1 h0_2 h0_3 h0_4 h0_5 h0_6 h0_7 s0 (va_A [(h0, .inr (8, [.int s0.terms, .ref h0_1, .ref h0_2, .int s0.triples, .ref h0_3, .int s0.patterns, .ref h0_4, .ref h0_5, .int s0.found, .ref h0_6, .int s0.kept, .int s0.keptVariables, .ref h0_7, .int s0.thrown])), (h0_1, .inl (cI, 100, .inl s0.number)), (h0_2, .inl (cI, 40, .inl s0.term)), (h0_3, .inl (cI, 180, .inl s0.store)), (h0_4, .inl (cI, 9, .inl s0.query)), (h0_5, .inl (cI, 16, .inl s0.bound)), (h0_6, .inl (cI, 2000, .inl s0.work)), (h0_7, .inl (cI, 2000, .inl s0.answers))] sz) post) 0 0 (va_A [(h0, .inr (8, [.int s0.terms, .ref h0_1, .ref h0_2, .int s0.triples, .ref h0_3, .int s0.patterns, .ref h0_4, .ref h0_5, .int s0.found, .ref h0_6, .int s0.kept, .int s0.keptVariables, .ref h0_7, .int s0.thrown])), (h0_1, .inl (cI, 100, .inl s0.number)), (h0_2, .inl (cI, 40, .inl s0.term)), (h0_3, .inl (cI, 180, .inl s0.store)), (h0_4, .inl (cI, 9, .inl s0.query)), (h0_5, .inl (cI, 16, .inl s0.bound)), (h0_6, .inl (cI, 2000, .inl s0.work)), (h0_7, .inl (cI, 2000, .inl s0.answers))] sz) := by
  refine Met.ofW (cc := cX8_termsFor) (maxL := 6) (ret := (some .int)) (by decide) rfl ?_
  intro p e s m args below meth c s₁ B hml hv
  obtain ⟨rfl, hsz, hP, hK, hD0, hN⟩ := hv
  have hx := B.exec
  have hb := B.bytes
  have hr := B.returns
  have hts := atoms_spec (ws := wsX8_termsFor) B.pre
  have hown : s.vm.findClass RX8 = some m.cls := findClass_of_methodNamed B.named
  have hlocks := B.notSynchronized
  subst hsz
  have hD := hD0.self (sz := s.heap.size)
  generalize hAe : va_A [(h0, .inr (8, [.int s0.terms, .ref h0_1, .ref h0_2, .int s0.triples, .ref h0_3, .int s0.patterns, .ref h0_4, .ref h0_5, .int s0.found, .ref h0_6, .int s0.kept, .int s0.keptVariables, .ref h0_7, .int s0.thrown])), (h0_1, .inl (cI, 100, .inl s0.number)), (h0_2, .inl (cI, 40, .inl s0.term)), (h0_3, .inl (cI, 180, .inl s0.store)), (h0_4, .inl (cI, 9, .inl s0.query)), (h0_5, .inl (cI, 16, .inl s0.bound)), (h0_6, .inl (cI, 2000, .inl s0.work)), (h0_7, .inl (cI, 2000, .inl s0.answers))] s.heap.size = A at hD ⊢
  have hA : ∀ q : Nat, s.heap.size ≤ q → A q := fun q h => by rw [← hAe]; exact Or.inr h
  clear hAe hD0
  obtain ⟨s0_terms, s0_number, s0_term, s0_triples, s0_store, s0_patterns, s0_query, s0_bound, s0_found, s0_work, s0_kept, s0_keptVariables, s0_answers, s0_thrown⟩ := s0
  have hS : va_S A s.heap s.heap [] := va_S.rf
  have hP : va_P (dC, dI) vwCl [(h0, .inr (8, [.int s0_terms, .ref h0_1, .ref h0_2, .int s0_triples, .ref h0_3, .int s0_patterns, .ref h0_4, .ref h0_5, .int s0_found, .ref h0_6, .int s0_kept, .int s0_keptVariables, .ref h0_7, .int s0_thrown])), (h0_1, .inl (cI, 100, .inl s0_number)), (h0_2, .inl (cI, 40, .inl s0_term)), (h0_3, .inl (cI, 180, .inl s0_store)), (h0_4, .inl (cI, 9, .inl s0_query)), (h0_5, .inl (cI, 16, .inl s0_bound)), (h0_6, .inl (cI, 2000, .inl s0_work)), (h0_7, .inl (cI, 2000, .inl s0_answers))] s.heap := hP
  have hD : va_D A [(h0, .inr (8, [.int s0_terms, .ref h0_1, .ref h0_2, .int s0_triples, .ref h0_3, .int s0_patterns, .ref h0_4, .ref h0_5, .int s0_found, .ref h0_6, .int s0_kept, .int s0_keptVariables, .ref h0_7, .int s0_thrown])), (h0_1, .inl (cI, 100, .inl s0_number)), (h0_2, .inl (cI, 40, .inl s0_term)), (h0_3, .inl (cI, 180, .inl s0_store)), (h0_4, .inl (cI, 9, .inl s0_query)), (h0_5, .inl (cI, 16, .inl s0_bound)), (h0_6, .inl (cI, 2000, .inl s0_work)), (h0_7, .inl (cI, 2000, .inl s0_answers))] := hD
  have hl := lv_entry ([.ref h0, .int v1]) (n := 6) (Nat.le_of_ble_eq_true rfl)
  rw [lg_entry_eq]
  generalize (lg_sl ([.ref h0, .int v1]) ++ List.replicate (6 - (lg_sl ([.ref h0, .int v1])).length) Slot.unset).toArray = ls at hl ⊢
  have hl : lv_has ls 6 [(0, .ref h0), (1, .int v1)] := hl
  have hinX8 : ∀ w ∈ u_ws RX8 TX8 14, w ∈ wsX8_termsFor := by decide +kernel
  have lab_15 : ∀ (s0_1_terms : Int32) (s0_1_number : Nat → Int32) (s0_1_term : Nat → Int32) (s0_1_triples : Int32) (s0_1_store : Nat → Int32) (s0_1_patterns : Int32) (s0_1_query : Nat → Int32) (s0_1_bound : Nat → Int32) (s0_1_found : Int32) (s0_1_work : Nat → Int32) (s0_1_kept : Int32) (s0_1_keptVariables : Int32) (s0_1_answers : Nat → Int32) (s0_1_thrown : Int32) (x0_2 : Int32) (h : P_X8_termsFor_j15 (s0_1_terms, s0_1_number, s0_1_term, s0_1_triples, s0_1_store, s0_1_patterns, s0_1_query, s0_1_bound, s0_1_found, s0_1_work, s0_1_kept, s0_1_keptVariables, s0_1_answers, s0_1_thrown) v1 x0_2 post) (H : Heap) (locs : List Loc) (hP : va_P (dC, dI) vwCl [(h0, .inr (8, [.int s0_1_terms, .ref h0_1, .ref h0_2, .int s0_1_triples, .ref h0_3, .int s0_1_patterns, .ref h0_4, .ref h0_5, .int s0_1_found, .ref h0_6, .int s0_1_kept, .int s0_1_keptVariables, .ref h0_7, .int s0_1_thrown])), (h0_1, .inl (cI, 100, .inl s0_1_number)), (h0_2, .inl (cI, 40, .inl s0_1_term)), (h0_3, .inl (cI, 180, .inl s0_1_store)), (h0_4, .inl (cI, 9, .inl s0_1_query)), (h0_5, .inl (cI, 16, .inl s0_1_bound)), (h0_6, .inl (cI, 2000, .inl s0_1_work)), (h0_7, .inl (cI, 2000, .inl s0_1_answers))] H) (hD : va_D A [(h0, .inr (8, [.int s0_1_terms, .ref h0_1, .ref h0_2, .int s0_1_triples, .ref h0_3, .int s0_1_patterns, .ref h0_4, .ref h0_5, .int s0_1_found, .ref h0_6, .int s0_1_kept, .int s0_1_keptVariables, .ref h0_7, .int s0_1_thrown])), (h0_1, .inl (cI, 100, .inl s0_1_number)), (h0_2, .inl (cI, 40, .inl s0_1_term)), (h0_3, .inl (cI, 180, .inl s0_1_store)), (h0_4, .inl (cI, 9, .inl s0_1_query)), (h0_5, .inl (cI, 16, .inl s0_1_bound)), (h0_6, .inl (cI, 2000, .inl s0_1_work)), (h0_7, .inl (cI, 2000, .inl s0_1_answers))]) (hS : va_S A s.heap H locs) (ls : Array Slot) (hl : lv_has ls 6 [(0, .ref h0), (1, .int v1)]), W p l e rm_X8_termsFor s m ([.ref h0, .int v1] : List Value).toArray below meth c H locs 0 0 (MQ below (Q_X8_termsFor dC dI cI h0 h0_1 h0_2 h0_3 h0_4 h0_5 h0_6 h0_7 (s0_terms, s0_number, s0_term, s0_triples, s0_store, s0_patterns, s0_query, s0_bound, s0_found, s0_work, s0_kept, s0_keptVariables, s0_answers, s0_thrown) A post) (([.ref h0, .int v1] : List Value).toArray) s 0 0 A) (F0 m 15 ls [.int x0_2, .ref h0]) := by
    intro s0_1_terms s0_1_number s0_1_term s0_1_triples s0_1_store s0_1_patterns s0_1_query s0_1_bound s0_1_found s0_1_work s0_1_kept s0_1_keptVariables s0_1_answers s0_1_thrown x0_2 h H locs hP hD hS ls hl
    refine va_put (D := (dC, dI)) (ci := 8) (v := .int x0_2) (ty := .int) (C := RX8) (T := TX8) (N := 14) hx hb hts (hinX8) tyX8 tyX8_ok nmX8 hown hK hP hD hS 0 rfl rfl 13 (by decide) (hts (.fieldLink RX8 31 "TripleJoinsModel" "thrown" "I") (by decide +kernel)) (fun _ h9 => h9) rfl (by decide +kernel) rfl rfl (Nat.le_of_ble_eq_true rfl) dX8_termsFor_15 (fun H locs hP hD hS => ?_)
    have hP : va_P (dC, dI) vwCl [(h0, .inr (8, [.int s0_1_terms, .ref h0_1, .ref h0_2, .int s0_1_triples, .ref h0_3, .int s0_1_patterns, .ref h0_4, .ref h0_5, .int s0_1_found, .ref h0_6, .int s0_1_kept, .int s0_1_keptVariables, .ref h0_7, .int x0_2])), (h0_1, .inl (cI, 100, .inl s0_1_number)), (h0_2, .inl (cI, 40, .inl s0_1_term)), (h0_3, .inl (cI, 180, .inl s0_1_store)), (h0_4, .inl (cI, 9, .inl s0_1_query)), (h0_5, .inl (cI, 16, .inl s0_1_bound)), (h0_6, .inl (cI, 2000, .inl s0_1_work)), (h0_7, .inl (cI, 2000, .inl s0_1_answers))] _ := hP
    have hD : va_D A [(h0, .inr (8, [.int s0_1_terms, .ref h0_1, .ref h0_2, .int s0_1_triples, .ref h0_3, .int s0_1_patterns, .ref h0_4, .ref h0_5, .int s0_1_found, .ref h0_6, .int s0_1_kept, .int s0_1_keptVariables, .ref h0_7, .int x0_2])), (h0_1, .inl (cI, 100, .inl s0_1_number)), (h0_2, .inl (cI, 40, .inl s0_1_term)), (h0_3, .inl (cI, 180, .inl s0_1_store)), (h0_4, .inl (cI, 9, .inl s0_1_query)), (h0_5, .inl (cI, 16, .inl s0_1_bound)), (h0_6, .inl (cI, 2000, .inl s0_1_work)), (h0_7, .inl (cI, 2000, .inl s0_1_answers))] := hD
    refine lv_iconst (v := (0 : Int32)) hx hb dX8_termsFor_18 (by decide) ?_
    refine lv_istore_n (lv' := [(2, .int (0 : Int32)), (0, .ref h0), (1, .int v1)]) hx hb dX8_termsFor_19 rfl hl (by decide) rfl (fun ls hl => ?_)
    refine lv_iconst (v := (0 : Int32)) hx hb dX8_termsFor_20 (by decide) ?_
    refine lv_istore_n (lv' := [(3, .int (0 : Int32)), (2, .int (0 : Int32)), (0, .ref h0), (1, .int v1)]) hx hb dX8_termsFor_21 rfl hl (by decide) rfl (fun ls hl => ?_)
    have hl : lv_has ls 6 [(0, .ref h0), (1, .int v1), (2, .int (0 : Int32)), (3, .int (0 : Int32))] := lv_sub hl [2, 3, 1, 0] rfl
    obtain ⟨I_3, hI_3, n_3, h⟩ := h
    have loop_3 : ∀ (n_3 : Nat) (v2_4 : Int32) (v3_5 : Int32) (h : I_3 n_3 (v2_4, v3_5)) (H : Heap) (locs : List Loc) (hP : va_P (dC, dI) vwCl [(h0, .inr (8, [.int s0_1_terms, .ref h0_1, .ref h0_2, .int s0_1_triples, .ref h0_3, .int s0_1_patterns, .ref h0_4, .ref h0_5, .int s0_1_found, .ref h0_6, .int s0_1_kept, .int s0_1_keptVariables, .ref h0_7, .int x0_2])), (h0_1, .inl (cI, 100, .inl s0_1_number)), (h0_2, .inl (cI, 40, .inl s0_1_term)), (h0_3, .inl (cI, 180, .inl s0_1_store)), (h0_4, .inl (cI, 9, .inl s0_1_query)), (h0_5, .inl (cI, 16, .inl s0_1_bound)), (h0_6, .inl (cI, 2000, .inl s0_1_work)), (h0_7, .inl (cI, 2000, .inl s0_1_answers))] H) (hD : va_D A [(h0, .inr (8, [.int s0_1_terms, .ref h0_1, .ref h0_2, .int s0_1_triples, .ref h0_3, .int s0_1_patterns, .ref h0_4, .ref h0_5, .int s0_1_found, .ref h0_6, .int s0_1_kept, .int s0_1_keptVariables, .ref h0_7, .int x0_2])), (h0_1, .inl (cI, 100, .inl s0_1_number)), (h0_2, .inl (cI, 40, .inl s0_1_term)), (h0_3, .inl (cI, 180, .inl s0_1_store)), (h0_4, .inl (cI, 9, .inl s0_1_query)), (h0_5, .inl (cI, 16, .inl s0_1_bound)), (h0_6, .inl (cI, 2000, .inl s0_1_work)), (h0_7, .inl (cI, 2000, .inl s0_1_answers))]) (hS : va_S A s.heap H locs) (ls : Array Slot) (hl : lv_has ls 6 [(0, .ref h0), (1, .int v1), (2, .int v2_4), (3, .int v3_5)]), W p l e rm_X8_termsFor s m ([.ref h0, .int v1] : List Value).toArray below meth c H locs 0 0 (MQ below (Q_X8_termsFor dC dI cI h0 h0_1 h0_2 h0_3 h0_4 h0_5 h0_6 h0_7 (s0_terms, s0_number, s0_term, s0_triples, s0_store, s0_patterns, s0_query, s0_bound, s0_found, s0_work, s0_kept, s0_keptVariables, s0_answers, s0_thrown) A post) (([.ref h0, .int v1] : List Value).toArray) s 0 0 A) (F0 m 22 ls []) := by
      intro n_3
      induction n_3 using Nat.strongRecOn with
      | ind n_3 ih_3 =>
        intro v2_4 v3_5 h H locs hP hD hS ls hl
        have h := hI_3 n_3 _ h
        refine lv_iload_n hx hb dX8_termsFor_22 rfl (lv_at hl 3 rfl) ?_
        refine lv_aload_n hx hb dX8_termsFor_23 rfl (lv_at hl 0 rfl) ?_
        refine va_get (D := (dC, dI)) (ci := 8) (v := .int s0_1_terms) (C := RX8) (T := TX8) (N := 14) hx hb hts (hinX8) hown hK hP 0 rfl rfl 0 (by decide) (hts (.fieldLink RX8 42 "TripleJoinsModel" "terms" "I") (by decide +kernel)) (fun _ h9 => h9) rfl dX8_termsFor_24 ?_
        obtain ⟨ht_, hf_⟩ := h
        refine lv_icmp_ge (tgt := 103) hx hb dX8_termsFor_27 (by decide) (fun c_6 => ?_) (fun c_6 => ?_)
        · have h := ht_ c_6
          refine lv_iload_n hx hb dX8_termsFor_103 rfl (lv_at hl 2 rfl) ?_
          exact W.iret (v := v2_4) hx hb hr (fun t ht hW => ⟨⟨v2_4, (s0_1_terms, s0_1_number, s0_1_term, s0_1_triples, s0_1_store, s0_1_patterns, s0_1_query, s0_1_bound, s0_1_found, s0_1_work, s0_1_kept, s0_1_keptVariables, s0_1_answers, x0_2), rfl, h, ⟨by rw [ht]; exact hP, hD⟩⟩, hS.F ht⟩) hS.2.2 dX8_termsFor_104
        · have h := hf_ c_6
          refine lv_aload_n hx hb dX8_termsFor_30 rfl (lv_at hl 0 rfl) ?_
          refine va_get (D := (dC, dI)) (ci := 8) (v := .int x0_2) (C := RX8) (T := TX8) (N := 14) hx hb hts (hinX8) hown hK hP 0 rfl rfl 13 (by decide) (hts (.fieldLink RX8 31 "TripleJoinsModel" "thrown" "I") (by decide +kernel)) (fun _ h9 => h9) rfl dX8_termsFor_31 ?_
          obtain ⟨ht_, hf_⟩ := h
          refine lv_if_ne (tgt := 103) hx hb dX8_termsFor_34 (by decide) (fun c_7 => ?_) (fun c_7 => ?_)
          · have h := ht_ c_7
            refine lv_iload_n hx hb dX8_termsFor_103 rfl (lv_at hl 2 rfl) ?_
            exact W.iret (v := v2_4) hx hb hr (fun t ht hW => ⟨⟨v2_4, (s0_1_terms, s0_1_number, s0_1_term, s0_1_triples, s0_1_store, s0_1_patterns, s0_1_query, s0_1_bound, s0_1_found, s0_1_work, s0_1_kept, s0_1_keptVariables, s0_1_answers, x0_2), rfl, h, ⟨by rw [ht]; exact hP, hD⟩⟩, hS.F ht⟩) hS.2.2 dX8_termsFor_104
          · have h := hf_ c_7
            refine lv_iconst (v := (0 : Int32)) hx hb dX8_termsFor_37 (by decide) ?_
            refine lv_istore (lv' := [(4, .int (0 : Int32)), (0, .ref h0), (1, .int v1), (2, .int v2_4), (3, .int v3_5)]) hx hb dX8_termsFor_38 hl (by decide) rfl (fun ls hl => ?_)
            refine lv_iconst (v := (0 : Int32)) hx hb dX8_termsFor_40 (by decide) ?_
            refine lv_istore (lv' := [(5, .int (0 : Int32)), (4, .int (0 : Int32)), (0, .ref h0), (1, .int v1), (2, .int v2_4), (3, .int v3_5)]) hx hb dX8_termsFor_41 hl (by decide) rfl (fun ls hl => ?_)
            have hl : lv_has ls 6 [(0, .ref h0), (1, .int v1), (2, .int v2_4), (3, .int v3_5), (4, .int (0 : Int32)), (5, .int (0 : Int32))] := lv_sub hl [2, 3, 4, 5, 1, 0] rfl
            obtain ⟨I_8, hI_8, n_8, h⟩ := h
            have loop_8 : ∀ (n_8 : Nat) (v4_9 : Int32) (v5_10 : Int32) (h : I_8 n_8 (v4_9, v5_10)) (H : Heap) (locs : List Loc) (hP : va_P (dC, dI) vwCl [(h0, .inr (8, [.int s0_1_terms, .ref h0_1, .ref h0_2, .int s0_1_triples, .ref h0_3, .int s0_1_patterns, .ref h0_4, .ref h0_5, .int s0_1_found, .ref h0_6, .int s0_1_kept, .int s0_1_keptVariables, .ref h0_7, .int x0_2])), (h0_1, .inl (cI, 100, .inl s0_1_number)), (h0_2, .inl (cI, 40, .inl s0_1_term)), (h0_3, .inl (cI, 180, .inl s0_1_store)), (h0_4, .inl (cI, 9, .inl s0_1_query)), (h0_5, .inl (cI, 16, .inl s0_1_bound)), (h0_6, .inl (cI, 2000, .inl s0_1_work)), (h0_7, .inl (cI, 2000, .inl s0_1_answers))] H) (hD : va_D A [(h0, .inr (8, [.int s0_1_terms, .ref h0_1, .ref h0_2, .int s0_1_triples, .ref h0_3, .int s0_1_patterns, .ref h0_4, .ref h0_5, .int s0_1_found, .ref h0_6, .int s0_1_kept, .int s0_1_keptVariables, .ref h0_7, .int x0_2])), (h0_1, .inl (cI, 100, .inl s0_1_number)), (h0_2, .inl (cI, 40, .inl s0_1_term)), (h0_3, .inl (cI, 180, .inl s0_1_store)), (h0_4, .inl (cI, 9, .inl s0_1_query)), (h0_5, .inl (cI, 16, .inl s0_1_bound)), (h0_6, .inl (cI, 2000, .inl s0_1_work)), (h0_7, .inl (cI, 2000, .inl s0_1_answers))]) (hS : va_S A s.heap H locs) (ls : Array Slot) (hl : lv_has ls 6 [(0, .ref h0), (1, .int v1), (2, .int v2_4), (3, .int v3_5), (4, .int v4_9), (5, .int v5_10)]), W p l e rm_X8_termsFor s m ([.ref h0, .int v1] : List Value).toArray below meth c H locs 0 0 (MQ below (Q_X8_termsFor dC dI cI h0 h0_1 h0_2 h0_3 h0_4 h0_5 h0_6 h0_7 (s0_terms, s0_number, s0_term, s0_triples, s0_store, s0_patterns, s0_query, s0_bound, s0_found, s0_work, s0_kept, s0_keptVariables, s0_answers, s0_thrown) A post) (([.ref h0, .int v1] : List Value).toArray) s 0 0 A) (F0 m 43 ls []) := by
              intro n_8
              induction n_8 using Nat.strongRecOn with
              | ind n_8 ih_8 =>
                intro v4_9 v5_10 h H locs hP hD hS ls hl
                have h := hI_8 n_8 _ h
                refine lv_iload hx hb dX8_termsFor_43 (lv_at hl 5 rfl) ?_
                refine lv_aload_n hx hb dX8_termsFor_45 rfl (lv_at hl 0 rfl) ?_
                refine va_get (D := (dC, dI)) (ci := 8) (v := .int s0_1_kept) (C := RX8) (T := TX8) (N := 14) hx hb hts (hinX8) hown hK hP 0 rfl rfl 10 (by decide) (hts (.fieldLink RX8 96 "TripleJoinsModel" "kept" "I") (by decide +kernel)) (fun _ h9 => h9) rfl dX8_termsFor_46 ?_
                obtain ⟨ht_, hf_⟩ := h
                refine lv_icmp_ge (tgt := 84) hx hb dX8_termsFor_49 (by decide) (fun c_11 => ?_) (fun c_11 => ?_)
                · have h := ht_ c_11
                  refine lv_iload_n hx hb dX8_termsFor_84 rfl (lv_at hl 2 rfl) ?_
                  refine lv_iload hx hb dX8_termsFor_85 (lv_at hl 4 rfl) ?_
                  obtain ⟨ht_, hf_⟩ := h
                  refine lv_if_eq (tgt := 94) hx hb dX8_termsFor_87 (by decide) (fun c_12 => ?_) (fun c_12 => ?_)
                  · have h := ht_ c_12
                    refine lv_iconst (v := (0 : Int32)) hx hb dX8_termsFor_94 (by decide) ?_
                    refine lv_iadd hx hb dX8_termsFor_95 ?_
                    refine lv_istore_n (lv' := [(2, .int (v2_4 + (0 : Int32))), (0, .ref h0), (1, .int v1), (3, .int v3_5), (4, .int v4_9), (5, .int v5_10)]) hx hb dX8_termsFor_96 rfl hl (by decide) rfl (fun ls hl => ?_)
                    refine lv_iinc (v := (v3_5 + (1 : Int32))) (lv' := [(3, .int (v3_5 + (1 : Int32))), (2, .int (v2_4 + (0 : Int32))), (0, .ref h0), (1, .int v1), (4, .int v4_9), (5, .int v5_10)]) hx hb dX8_termsFor_97 hl (k := 3) rfl rfl (by decide) rfl (fun ls hl => ?_)
                    refine lv_goto (tgt := 22) hx hb dX8_termsFor_100 (by decide) ?_
                    have hl : lv_has ls 6 [(0, .ref h0), (1, .int v1), (2, .int (v2_4 + (0 : Int32))), (3, .int (v3_5 + (1 : Int32)))] := lv_sub hl [2, 3, 1, 0] rfl
                    obtain ⟨k_13, hk_14, h⟩ := h
                    exact ih_3 k_13 hk_14 (v2_4 + (0 : Int32)) (v3_5 + (1 : Int32)) h _ _ hP hD hS _ hl
                  · have h := hf_ c_12
                    refine lv_iconst (v := (1 : Int32)) hx hb dX8_termsFor_90 (by decide) ?_
                    refine lv_goto (tgt := 95) hx hb dX8_termsFor_91 (by decide) ?_
                    refine lv_iadd hx hb dX8_termsFor_95 ?_
                    refine lv_istore_n (lv' := [(2, .int (v2_4 + (1 : Int32))), (0, .ref h0), (1, .int v1), (3, .int v3_5), (4, .int v4_9), (5, .int v5_10)]) hx hb dX8_termsFor_96 rfl hl (by decide) rfl (fun ls hl => ?_)
                    refine lv_iinc (v := (v3_5 + (1 : Int32))) (lv' := [(3, .int (v3_5 + (1 : Int32))), (2, .int (v2_4 + (1 : Int32))), (0, .ref h0), (1, .int v1), (4, .int v4_9), (5, .int v5_10)]) hx hb dX8_termsFor_97 hl (k := 3) rfl rfl (by decide) rfl (fun ls hl => ?_)
                    refine lv_goto (tgt := 22) hx hb dX8_termsFor_100 (by decide) ?_
                    have hl : lv_has ls 6 [(0, .ref h0), (1, .int v1), (2, .int (v2_4 + (1 : Int32))), (3, .int (v3_5 + (1 : Int32)))] := lv_sub hl [2, 3, 1, 0] rfl
                    obtain ⟨k_15, hk_16, h⟩ := h
                    exact ih_3 k_15 hk_16 (v2_4 + (1 : Int32)) (v3_5 + (1 : Int32)) h _ _ hP hD hS _ hl
                · have h := hf_ c_11
                  refine lv_iload hx hb dX8_termsFor_52 (lv_at hl 4 rfl) ?_
                  refine lv_aload_n hx hb dX8_termsFor_54 rfl (lv_at hl 0 rfl) ?_
                  refine lv_aload_n hx hb dX8_termsFor_55 rfl (lv_at hl 0 rfl) ?_
                  refine va_get (D := (dC, dI)) (ci := 8) (v := .ref h0_7) (C := RX8) (T := TX8) (N := 14) hx hb hts (hinX8) hown hK hP 0 rfl rfl 12 (by decide) (hts (.fieldLink RX8 28 "TripleJoinsModel" "answers" "[I") (by decide +kernel)) (fun _ h9 => h9) rfl dX8_termsFor_56 ?_
                  refine lv_iload hx hb dX8_termsFor_59 (lv_at hl 5 rfl) ?_
                  obtain ⟨hin, h⟩ := h
                  refine va_iald (n := 2000) hx hb hK hP 7 0 rfl rfl hin dX8_termsFor_61 ?_
                  refine lv_iload_n hx hb dX8_termsFor_62 rfl (lv_at hl 1 rfl) ?_
                  have hPc := hP.sub (ws' := [(h0, .inr (8, [.int s0_1_terms, .ref h0_1, .ref h0_2, .int s0_1_triples, .ref h0_3, .int s0_1_patterns, .ref h0_4, .ref h0_5, .int s0_1_found, .ref h0_6, .int s0_1_kept, .int s0_1_keptVariables, .ref h0_7, .int x0_2])), (h0_1, .inl (cI, 100, .inl s0_1_number)), (h0_2, .inl (cI, 40, .inl s0_1_term)), (h0_3, .inl (cI, 180, .inl s0_1_store)), (h0_4, .inl (cI, 9, .inl s0_1_query)), (h0_5, .inl (cI, 16, .inl s0_1_bound)), (h0_6, .inl (cI, 2000, .inl s0_1_work)), (h0_7, .inl (cI, 2000, .inl s0_1_answers))]) [0, 1, 2, 3, 4, 5, 6, 7] rfl
                  have hDc := hD.sub (ws' := [(h0, .inr (8, [.int s0_1_terms, .ref h0_1, .ref h0_2, .int s0_1_triples, .ref h0_3, .int s0_1_patterns, .ref h0_4, .ref h0_5, .int s0_1_found, .ref h0_6, .int s0_1_kept, .int s0_1_keptVariables, .ref h0_7, .int x0_2])), (h0_1, .inl (cI, 100, .inl s0_1_number)), (h0_2, .inl (cI, 40, .inl s0_1_term)), (h0_3, .inl (cI, 180, .inl s0_1_store)), (h0_4, .inl (cI, 9, .inl s0_1_query)), (h0_5, .inl (cI, 16, .inl s0_1_bound)), (h0_6, .inl (cI, 2000, .inl s0_1_work)), (h0_7, .inl (cI, 2000, .inl s0_1_answers))]) [0, 1, 2, 3, 4, 5, 6, 7] (by decide) rfl
                  have hFc := fr0 hA hS
                  refine va_calli (va_runV (As := [.int (s0_1_answers (v5_10).toNatClampNeg), .int v1]) (rest := [.int v4_9]) ⟨hx, hb, hml, hown, hts⟩ (c_X8_bindingOf l dC dI cI h0 h0_1 h0_2 h0_3 h0_4 h0_5 h0_6 h0_7 _ (s0_1_terms, s0_1_number, s0_1_term, s0_1_triples, s0_1_store, s0_1_patterns, s0_1_query, s0_1_bound, s0_1_found, s0_1_work, s0_1_kept, s0_1_keptVariables, s0_1_answers, x0_2) (s0_1_answers (v5_10).toNatClampNeg) v1 _ h) (cwV 2 hts gX8_termsFor_X8_bindingOf rfl rfl rfl (by decide +kernel) ⟨Nat.le_of_ble_eq_true rfl, Nat.le_of_ble_eq_true rfl⟩) (pb_V hPc hK hDc hN (ci := 8) (q0 := 0) rfl rfl) rfl rfl hl.1 rfl (lv_room (Nat.le_of_ble_eq_true rfl)) dX8_termsFor_63 ⟨Nat.zero_le _, Nat.zero_le _⟩) hS (fun q _ h => hFc q h) hFc (fun r_18 u_17 t H locs ht hvm h hB hz1 hk1 hS => ?_)
                  have hP := vaPk hP hk1
                  refine lv_iload_n hx hb dX8_termsFor_66 rfl (lv_at hl 3 rfl) ?_
                  obtain ⟨ht_, hf_⟩ := h
                  refine lv_icmp_ne (tgt := 74) hx hb dX8_termsFor_67 (by decide) (fun c_19 => ?_) (fun c_19 => ?_)
                  · have h := ht_ c_19
                    refine lv_iconst (v := (0 : Int32)) hx hb dX8_termsFor_74 (by decide) ?_
                    refine lv_ior hx hb dX8_termsFor_75 ?_
                    refine lv_istore (lv' := [(4, .int (v4_9 ||| (0 : Int32))), (0, .ref h0), (1, .int v1), (2, .int v2_4), (3, .int v3_5), (5, .int v5_10)]) hx hb dX8_termsFor_76 hl (by decide) rfl (fun ls hl => ?_)
                    refine lv_iinc (v := (v5_10 + (1 : Int32))) (lv' := [(5, .int (v5_10 + (1 : Int32))), (4, .int (v4_9 ||| (0 : Int32))), (0, .ref h0), (1, .int v1), (2, .int v2_4), (3, .int v3_5)]) hx hb dX8_termsFor_78 hl (k := 5) rfl rfl (by decide) rfl (fun ls hl => ?_)
                    refine lv_goto (tgt := 43) hx hb dX8_termsFor_81 (by decide) ?_
                    have hl : lv_has ls 6 [(0, .ref h0), (1, .int v1), (2, .int v2_4), (3, .int v3_5), (4, .int (v4_9 ||| (0 : Int32))), (5, .int (v5_10 + (1 : Int32)))] := lv_sub hl [2, 3, 4, 5, 1, 0] rfl
                    obtain ⟨k_20, hk_21, h⟩ := h
                    exact ih_8 k_20 hk_21 (v4_9 ||| (0 : Int32)) (v5_10 + (1 : Int32)) h _ _ hP hD hS _ hl
                  · have h := hf_ c_19
                    refine lv_iconst (v := (1 : Int32)) hx hb dX8_termsFor_70 (by decide) ?_
                    refine lv_goto (tgt := 75) hx hb dX8_termsFor_71 (by decide) ?_
                    refine lv_ior hx hb dX8_termsFor_75 ?_
                    refine lv_istore (lv' := [(4, .int (v4_9 ||| (1 : Int32))), (0, .ref h0), (1, .int v1), (2, .int v2_4), (3, .int v3_5), (5, .int v5_10)]) hx hb dX8_termsFor_76 hl (by decide) rfl (fun ls hl => ?_)
                    refine lv_iinc (v := (v5_10 + (1 : Int32))) (lv' := [(5, .int (v5_10 + (1 : Int32))), (4, .int (v4_9 ||| (1 : Int32))), (0, .ref h0), (1, .int v1), (2, .int v2_4), (3, .int v3_5)]) hx hb dX8_termsFor_78 hl (k := 5) rfl rfl (by decide) rfl (fun ls hl => ?_)
                    refine lv_goto (tgt := 43) hx hb dX8_termsFor_81 (by decide) ?_
                    have hl : lv_has ls 6 [(0, .ref h0), (1, .int v1), (2, .int v2_4), (3, .int v3_5), (4, .int (v4_9 ||| (1 : Int32))), (5, .int (v5_10 + (1 : Int32)))] := lv_sub hl [2, 3, 4, 5, 1, 0] rfl
                    obtain ⟨k_22, hk_23, h⟩ := h
                    exact ih_8 k_22 hk_23 (v4_9 ||| (1 : Int32)) (v5_10 + (1 : Int32)) h _ _ hP hD hS _ hl
            exact loop_8 n_8 (0 : Int32) (0 : Int32) h _ _ hP hD hS _ hl
    exact loop_3 n_3 (0 : Int32) (0 : Int32) h _ _ hP hD hS _ hl
  refine lv_aload_n hx hb dX8_termsFor_0 rfl (lv_at hl 0 rfl) ?_
  refine lv_iload_n hx hb dX8_termsFor_1 rfl (lv_at hl 1 rfl) ?_
  refine lv_iconst (v := (0 : Int32)) hx hb dX8_termsFor_2 (by decide) ?_
  refine lv_iconst (v := (3 : Int32)) hx hb dX8_termsFor_3 (by decide) ?_
  have hPc := hP.sub (ws' := []) [] rfl
  have hDc := hD.sub (ws' := []) [] (by decide) rfl
  have hFc := fr0 hA hS
  refine va_calli (va_runS (As := [.int v1, .int (0 : Int32), .int (3 : Int32)]) (rest := [.ref h0]) ⟨hx, hb, hml, hown, hts⟩ (c_X8_isIn l dC dI cI  _ v1 (0 : Int32) (3 : Int32) _ h) (va_cwS 3 hts gX8_termsFor_X8_isIn rfl rfl rfl (by decide +kernel) ⟨Nat.le_of_ble_eq_true rfl, Nat.le_of_ble_eq_true rfl⟩) (pb_S hPc hK hDc hN) rfl rfl hl.1 rfl (lv_room (Nat.le_of_ble_eq_true rfl)) dX8_termsFor_4 ⟨Nat.zero_le _, Nat.zero_le _⟩) hS (fun q _ h => hFc q h) hFc (fun r_25 u_24 t H locs ht hvm h hB hz1 hk1 hS => ?_)
  have hP := vaPk hP hk1
  obtain ⟨ht_, hf_⟩ := h
  refine lv_if_eq (tgt := 14) hx hb dX8_termsFor_7 (by decide) (fun c_26 => ?_) (fun c_26 => ?_)
  · have h := ht_ c_26
    refine lv_iconst (v := (1 : Int32)) hx hb dX8_termsFor_14 (by decide) ?_
    exact lab_15 s0_terms s0_number s0_term s0_triples s0_store s0_patterns s0_query s0_bound s0_found s0_work s0_kept s0_keptVariables s0_answers s0_thrown (1 : Int32) h _ _ hP hD hS _ hl
  · have h := hf_ c_26
    refine lv_iconst (v := (0 : Int32)) hx hb dX8_termsFor_10 (by decide) ?_
    refine lv_goto (tgt := 15) hx hb dX8_termsFor_11 (by decide) ?_
    exact lab_15 s0_terms s0_number s0_term s0_triples s0_store s0_patterns s0_query s0_bound s0_found s0_work s0_kept s0_keptVariables s0_answers s0_thrown (0 : Int32) h _ _ hP hD hS _ hl
