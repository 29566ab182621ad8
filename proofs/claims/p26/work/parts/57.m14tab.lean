abbrev Q_X6_init (dC : Nat → ClassId) (dI : Nat → Nat → Nat) (cI : ClassId) (h0 : Nat) (n0 : Nat) (A : Nat → Prop) (post : TabS → Prop) : Array Value → State → Outcome → State → Prop := va_Qv post (fun (u : TabS) (t : State) => ∃ q_1 q_2 q_3 : Nat, va_P (dC, dI) vwCl [(h0, .inr (6, [.ref q_1, .ref q_2, .ref q_3, .int u.size, .int u.nextSize, .int u.over])), (q_1, .inl (cI, n0, .inl u.rows)), (q_2, .inl (cI, n0, .inl u.next_)), (q_3, .inl (cI, 64, .inl u.starts))] t.heap ∧ va_D A [(h0, .inr (6, [.ref q_1, .ref q_2, .ref q_3, .int u.size, .int u.nextSize, .int u.over])), (q_1, .inl (cI, n0, .inl u.rows)), (q_2, .inl (cI, n0, .inl u.next_)), (q_3, .inl (cI, 64, .inl u.starts))]) A
abbrev rm_X6_init (n0 : Nat) : Room := { frames := 1, cells := 3, slots := 64 + 2 * n0, locals := 13 }
set_option maxHeartbeats 4000000 in
set_option maxRecDepth 100000 in
theorem c_X6_init (l : Launch) (dC : Nat → ClassId) (dI : Nat → Nat → Nat) (cI : ClassId) (h0 : Nat) (sz : Nat) (n0 : Nat) (hn0 : n0 ≤ 4000) (post : TabS → Prop) (h : P_X6_init n0 post) : Met l yX6_init wsX6_init (rm_X6_init n0) (va_Pc [.ref h0, .int (Int32.ofNat n0)] (cpre (dC, dI) [(cI, .int)] [(h0, .inr (6, [.null, .null, .null, .int (0 : Int32), .int (0 : Int32), .int (0 : Int32)]))] sz)) (Q_X6_init dC dI cI h0 n0 (va_A [(h0, .inr (6, [.null, .null, .null, .int (0 : Int32), .int (0 : Int32), .int (0 : Int32)]))] sz) post) 3 (64 + 2 * n0) (va_A [(h0, .inr (6, [.null, .null, .null, .int (0 : Int32), .int (0 : Int32), .int (0 : Int32)]))] sz) := by
  refine Met.ofW (cc := cX6_init) (maxL := 3) (ret := none) (by decide) rfl ?_
  intro p e s m args below meth c s₁ B hml hv
  obtain ⟨rfl, hsz, hP, hK, hD0, hN⟩ := hv
  have hx := B.exec
  have hb := B.bytes
  have hr := B.returns
  have hts := atoms_spec (ws := wsX6_init) B.pre
  have hown : s.vm.findClass RX6 = some m.cls := findClass_of_methodNamed B.named
  have hlocks := B.notSynchronized
  have hmn : meth.name = "<init>" := (name_of_methodNamed B.named B.method).1
  subst hsz
  have hD := hD0.self (sz := s.heap.size)
  generalize hAe : va_A [(h0, .inr (6, [.null, .null, .null, .int (0 : Int32), .int (0 : Int32), .int (0 : Int32)]))] s.heap.size = A at hD ⊢
  have hA : ∀ q : Nat, s.heap.size ≤ q → A q := fun q h => by rw [← hAe]; exact Or.inr h
  clear hAe hD0
  have hn := cap1 hn0
  have hN9 := cap2 hn0
  have hS : va_S A s.heap s.heap [] := va_S.rf
  have hl := lv_entry ([.ref h0, .int (Int32.ofNat n0)]) (n := 3) (Nat.le_of_ble_eq_true rfl)
  rw [lg_entry_eq]
  generalize (lg_sl ([.ref h0, .int (Int32.ofNat n0)]) ++ List.replicate (3 - (lg_sl ([.ref h0, .int (Int32.ofNat n0)])).length) Slot.unset).toArray = ls at hl ⊢
  have hl : lv_has ls 3 [(0, .ref h0), (1, .int (Int32.ofNat n0))] := hl
  have hinX6 : ∀ w ∈ u_ws RX6 TX6 6, w ∈ wsX6_init := by decide +kernel
  refine lv_aload_n hx hb dX6_init_0 rfl (lv_at hl 0 rfl) ?_
  refine W.objInit hx hb hown (hts (.methodLink RX6 3 objectInit) (by decide +kernel)) (hts (.instanceMethod objectInit) (by decide +kernel)) (hts _ (List.mem_of_getElem? (i := 3) rfl)) rfl (by rw [hml]; exact hl.1) rfl dX6_init_1 (Nat.le_of_ble_eq_true rfl) (Nat.le_of_ble_eq_true rfl) ?_
  refine W.eq (g2 := F0 m 4 ls []) rfl ?_
  refine lv_aload_n hx hb dX6_init_4 rfl (lv_at hl 0 rfl) ?_
  refine lv_bipush (v := (64 : Int32)) hx hb dX6_init_5 (by decide) ?_
  refine va_newa (atype := .int) (ty := .int) (a0 := (64, .inl (fun _ => 0))) hx hb (hts (.arrayClass .int) (by decide +kernel)) rfl hK hP hD hS hA (fun _ => rfl) (by decide) (by decide +kernel) (by decide +kernel) (by show _ ≤ 3; decide) (by show 0 + 64 ≤ 64 + 2 * n0; omega) dX6_init_7 (fun q_1 cA H hK9 hP hD hS => ?_)
  obtain rfl := arr_eq hK9
  refine W.widen (k := 1) (n := 64) (by omega) (by omega) ?_
  have hP : va_P (dC, dI) vwCl [(h0, .inr (6, [.null, .null, .null, .int (0 : Int32), .int (0 : Int32), .int (0 : Int32)])), (q_1, .inl (cI, 64, .inl (fun _ => 0)))] _ := hP
  have hD : va_D A [(h0, .inr (6, [.null, .null, .null, .int (0 : Int32), .int (0 : Int32), .int (0 : Int32)])), (q_1, .inl (cI, 64, .inl (fun _ => 0)))] := hD
  refine va_putF (D := (dC, dI)) (ci := 6) (v := .ref q_1) (ty := .array .int) (C := RX6) (T := TX6) (N := 6) hx hb hts (hinX6) tyX6 tyX6_ok nmX6 hown hK hP hD hS 0 rfl rfl 2 (by decide) (hts (.fieldLink RX6 9 "TripleJoins$Table" "starts" "[I") (by decide +kernel)) (fun _ h9 => h9) rfl hmn rfl (by decide +kernel) rfl rfl (Nat.le_of_ble_eq_true rfl) dX6_init_9 (fun H locs hP hD hS => ?_)
  have hP : va_P (dC, dI) vwCl [(h0, .inr (6, [.null, .null, .ref q_1, .int (0 : Int32), .int (0 : Int32), .int (0 : Int32)])), (q_1, .inl (cI, 64, .inl (fun _ => 0)))] _ := hP
  have hD : va_D A [(h0, .inr (6, [.null, .null, .ref q_1, .int (0 : Int32), .int (0 : Int32), .int (0 : Int32)])), (q_1, .inl (cI, 64, .inl (fun _ => 0)))] := hD
  refine lv_aload_n hx hb dX6_init_12 rfl (lv_at hl 0 rfl) ?_
  refine lv_iconst (v := (0 : Int32)) hx hb dX6_init_13 (by decide) ?_
  refine va_put (D := (dC, dI)) (ci := 6) (v := .int (0 : Int32)) (ty := .int) (C := RX6) (T := TX6) (N := 6) hx hb hts (hinX6) tyX6 tyX6_ok nmX6 hown hK hP hD hS 0 rfl rfl 3 (by decide) (hts (.fieldLink RX6 15 "TripleJoins$Table" "size" "I") (by decide +kernel)) (fun _ h9 => h9) rfl (by decide +kernel) rfl rfl (Nat.le_of_ble_eq_true rfl) dX6_init_14 (fun H locs hP hD hS => ?_)
  have hP : va_P (dC, dI) vwCl [(h0, .inr (6, [.null, .null, .ref q_1, .int (0 : Int32), .int (0 : Int32), .int (0 : Int32)])), (q_1, .inl (cI, 64, .inl (fun _ => 0)))] _ := hP
  have hD : va_D A [(h0, .inr (6, [.null, .null, .ref q_1, .int (0 : Int32), .int (0 : Int32), .int (0 : Int32)])), (q_1, .inl (cI, 64, .inl (fun _ => 0)))] := hD
  refine lv_aload_n hx hb dX6_init_17 rfl (lv_at hl 0 rfl) ?_
  refine lv_iconst (v := (0 : Int32)) hx hb dX6_init_18 (by decide) ?_
  refine va_put (D := (dC, dI)) (ci := 6) (v := .int (0 : Int32)) (ty := .int) (C := RX6) (T := TX6) (N := 6) hx hb hts (hinX6) tyX6 tyX6_ok nmX6 hown hK hP hD hS 0 rfl rfl 4 (by decide) (hts (.fieldLink RX6 19 "TripleJoins$Table" "nextSize" "I") (by decide +kernel)) (fun _ h9 => h9) rfl (by decide +kernel) rfl rfl (Nat.le_of_ble_eq_true rfl) dX6_init_19 (fun H locs hP hD hS => ?_)
  have hP : va_P (dC, dI) vwCl [(h0, .inr (6, [.null, .null, .ref q_1, .int (0 : Int32), .int (0 : Int32), .int (0 : Int32)])), (q_1, .inl (cI, 64, .inl (fun _ => 0)))] _ := hP
  have hD : va_D A [(h0, .inr (6, [.null, .null, .ref q_1, .int (0 : Int32), .int (0 : Int32), .int (0 : Int32)])), (q_1, .inl (cI, 64, .inl (fun _ => 0)))] := hD
  refine lv_aload_n hx hb dX6_init_22 rfl (lv_at hl 0 rfl) ?_
  refine lv_iconst (v := (0 : Int32)) hx hb dX6_init_23 (by decide) ?_
  refine va_put (D := (dC, dI)) (ci := 6) (v := .int (0 : Int32)) (ty := .boolean) (C := RX6) (T := TX6) (N := 6) hx hb hts (hinX6) tyX6 tyX6_ok nmX6 hown hK hP hD hS 0 rfl rfl 5 (by decide) (hts (.fieldLink RX6 22 "TripleJoins$Table" "over" "Z") (by decide +kernel)) (fun _ h9 => h9) rfl (by decide +kernel) (by decide +kernel) (by decide +kernel) (Nat.le_of_ble_eq_true rfl) dX6_init_24 (fun H locs hP hD hS => ?_)
  have hP : va_P (dC, dI) vwCl [(h0, .inr (6, [.null, .null, .ref q_1, .int (0 : Int32), .int (0 : Int32), .int (0 : Int32)])), (q_1, .inl (cI, 64, .inl (fun _ => 0)))] _ := hP
  have hD : va_D A [(h0, .inr (6, [.null, .null, .ref q_1, .int (0 : Int32), .int (0 : Int32), .int (0 : Int32)])), (q_1, .inl (cI, 64, .inl (fun _ => 0)))] := hD
  refine lv_iload_n hx hb dX6_init_27 rfl (lv_at hl 1 rfl) ?_
  refine lv_iconst (v := (0 : Int32)) hx hb dX6_init_28 (by decide) ?_
  refine va_mmax (R := (rm_X6_init n0)) (rest := []) hx hb (hml.trans hl.1.symm) hown (hts (.methodLink RX6 26 Lib.Math.max.name) (by decide +kernel)) (hts (.static Lib.Math.max.name) (by decide +kernel)) (hts (.initialized "java/lang/Math") (by decide +kernel)) (hts (.code Lib.Math.max.name Lib.Math.max.code 2 (some .int)) (by decide +kernel)) (by exact Nat.le_of_ble_eq_true rfl) (by exact Nat.le_of_ble_eq_true rfl) (by show 1 ≤ 3; omega) (by show 64 ≤ 64 + 2 * n0; omega) dX6_init_29 ?_
  refine lv_istore_n (lv' := [(2, .int (if (Int32.ofNat n0) < (0 : Int32) then (0 : Int32) else (Int32.ofNat n0))), (0, .ref h0), (1, .int (Int32.ofNat n0))]) hx hb dX6_init_32 rfl hl (by decide) rfl (fun ls hl => ?_)
  refine lv_aload_n hx hb dX6_init_33 rfl (lv_at hl 1 rfl) ?_
  refine lv_iload_n hx hb dX6_init_34 rfl (lv_at hl 0 rfl) ?_
  refine va_newa (atype := .int) (ty := .int) (a0 := (n0, .inl (fun _ => 0))) hx hb (hts (.arrayClass .int) (by decide +kernel)) rfl hK hP hD hS hA (fun _ => rfl) hn hN9 (by show _ * 4 ≤ _; omega) (by show _ ≤ 3; decide) (by show 64 + n0 ≤ 64 + 2 * n0; omega) dX6_init_35 (fun q_2 cA H hK9 hP hD hS => ?_)
  obtain rfl := arr_eq hK9
  refine W.widen (k := 2) (n := (64 + n0)) (by omega) (by omega) ?_
  have hP : va_P (dC, dI) vwCl [(h0, .inr (6, [.null, .null, .ref q_1, .int (0 : Int32), .int (0 : Int32), .int (0 : Int32)])), (q_1, .inl (cI, 64, .inl (fun _ => 0))), (q_2, .inl (cI, n0, .inl (fun _ => 0)))] _ := hP
  have hD : va_D A [(h0, .inr (6, [.null, .null, .ref q_1, .int (0 : Int32), .int (0 : Int32), .int (0 : Int32)])), (q_1, .inl (cI, 64, .inl (fun _ => 0))), (q_2, .inl (cI, n0, .inl (fun _ => 0)))] := hD
  refine va_put (D := (dC, dI)) (ci := 6) (v := .ref q_2) (ty := .array .int) (C := RX6) (T := TX6) (N := 6) hx hb hts (hinX6) tyX6 tyX6_ok nmX6 hown hK hP hD hS 0 rfl rfl 0 (by decide) (hts (.fieldLink RX6 32 "TripleJoins$Table" "rows" "[I") (by decide +kernel)) (fun _ h9 => h9) rfl (by decide +kernel) rfl rfl (Nat.le_of_ble_eq_true rfl) dX6_init_37 (fun H locs hP hD hS => ?_)
  have hP : va_P (dC, dI) vwCl [(h0, .inr (6, [.ref q_2, .null, .ref q_1, .int (0 : Int32), .int (0 : Int32), .int (0 : Int32)])), (q_1, .inl (cI, 64, .inl (fun _ => 0))), (q_2, .inl (cI, n0, .inl (fun _ => 0)))] _ := hP
  have hD : va_D A [(h0, .inr (6, [.ref q_2, .null, .ref q_1, .int (0 : Int32), .int (0 : Int32), .int (0 : Int32)])), (q_1, .inl (cI, 64, .inl (fun _ => 0))), (q_2, .inl (cI, n0, .inl (fun _ => 0)))] := hD
  refine lv_aload_n hx hb dX6_init_40 rfl (lv_at hl 1 rfl) ?_
  refine lv_iload_n hx hb dX6_init_41 rfl (lv_at hl 0 rfl) ?_
  refine va_newa (atype := .int) (ty := .int) (a0 := (n0, .inl (fun _ => 0))) hx hb (hts (.arrayClass .int) (by decide +kernel)) rfl hK hP hD hS hA (fun _ => rfl) hn hN9 (by show _ * 4 ≤ _; omega) (by show _ ≤ 3; decide) (by show (64 + n0) + n0 ≤ 64 + 2 * n0; omega) dX6_init_42 (fun q_3 cA H hK9 hP hD hS => ?_)
  obtain rfl := arr_eq hK9
  refine W.widen (k := 3) (n := (64 + n0 + n0)) (by omega) (by omega) ?_
  have hP : va_P (dC, dI) vwCl [(h0, .inr (6, [.ref q_2, .null, .ref q_1, .int (0 : Int32), .int (0 : Int32), .int (0 : Int32)])), (q_1, .inl (cI, 64, .inl (fun _ => 0))), (q_2, .inl (cI, n0, .inl (fun _ => 0))), (q_3, .inl (cI, n0, .inl (fun _ => 0)))] _ := hP
  have hD : va_D A [(h0, .inr (6, [.ref q_2, .null, .ref q_1, .int (0 : Int32), .int (0 : Int32), .int (0 : Int32)])), (q_1, .inl (cI, 64, .inl (fun _ => 0))), (q_2, .inl (cI, n0, .inl (fun _ => 0))), (q_3, .inl (cI, n0, .inl (fun _ => 0)))] := hD
  refine va_put (D := (dC, dI)) (ci := 6) (v := .ref q_3) (ty := .array .int) (C := RX6) (T := TX6) (N := 6) hx hb hts (hinX6) tyX6 tyX6_ok nmX6 hown hK hP hD hS 0 rfl rfl 1 (by decide) (hts (.fieldLink RX6 35 "TripleJoins$Table" "next" "[I") (by decide +kernel)) (fun _ h9 => h9) rfl (by decide +kernel) rfl rfl (Nat.le_of_ble_eq_true rfl) dX6_init_44 (fun H locs hP hD hS => ?_)
  have hP : va_P (dC, dI) vwCl [(h0, .inr (6, [.ref q_2, .ref q_3, .ref q_1, .int (0 : Int32), .int (0 : Int32), .int (0 : Int32)])), (q_1, .inl (cI, 64, .inl (fun _ => 0))), (q_2, .inl (cI, n0, .inl (fun _ => 0))), (q_3, .inl (cI, n0, .inl (fun _ => 0)))] _ := hP
  have hD : va_D A [(h0, .inr (6, [.ref q_2, .ref q_3, .ref q_1, .int (0 : Int32), .int (0 : Int32), .int (0 : Int32)])), (q_1, .inl (cI, 64, .inl (fun _ => 0))), (q_2, .inl (cI, n0, .inl (fun _ => 0))), (q_3, .inl (cI, n0, .inl (fun _ => 0)))] := hD
  have hP := hP.sub (ws' := [(h0, .inr (6, [.ref q_2, .ref q_3, .ref q_1, .int (0 : Int32), .int (0 : Int32), .int (0 : Int32)])), (q_2, .inl (cI, n0, .inl (fun _ => 0))), (q_3, .inl (cI, n0, .inl (fun _ => 0))), (q_1, .inl (cI, 64, .inl (fun _ => 0)))]) [0, 2, 3, 1] rfl
  have hD := hD.sub (ws' := [(h0, .inr (6, [.ref q_2, .ref q_3, .ref q_1, .int (0 : Int32), .int (0 : Int32), .int (0 : Int32)])), (q_2, .inl (cI, n0, .inl (fun _ => 0))), (q_3, .inl (cI, n0, .inl (fun _ => 0))), (q_1, .inl (cI, 64, .inl (fun _ => 0)))]) [0, 2, 3, 1] (by decide) rfl
  refine W.widen (k := 3) (n := 64 + 2 * n0) (by omega) (by omega) ?_
  exact W.vret hx hb hr (fun t ht hW => ⟨⟨((fun _ => 0), (fun _ => 0), (fun _ => 0), (0 : Int32), (0 : Int32), (0 : Int32)), rfl, h, q_2, q_3, q_1, by rw [ht]; exact hP, hD⟩, hS.F ht⟩) hS.2.2 dX6_init_47
abbrev Q_X6_beginEmpty (dC : Nat → ClassId) (dI : Nat → Nat → Nat) (cI : ClassId) (h0 h0_1 h0_2 h0_3 : Nat) (n0 : Nat) (s0 : TabS) (A : Nat → Prop) (post : TabS → Prop) : Array Value → State → Outcome → State → Prop := va_Qv post (fun (u : TabS) (t : State) => ∃ h0_1_m h0_2_m : Nat, va_P (dC, dI) vwCl [(h0, .inr (6, [.ref h0_1_m, .ref h0_2_m, .ref h0_3, .int u.size, .int u.nextSize, .int u.over])), (h0_1_m, .inl (cI, n0, .inl u.rows)), (h0_2_m, .inl (cI, n0, .inl u.next_)), (h0_3, .inl (cI, 64, .inl u.starts))] t.heap ∧ va_D A [(h0, .inr (6, [.ref h0_1_m, .ref h0_2_m, .ref h0_3, .int u.size, .int u.nextSize, .int u.over])), (h0_1_m, .inl (cI, n0, .inl u.rows)), (h0_2_m, .inl (cI, n0, .inl u.next_)), (h0_3, .inl (cI, 64, .inl u.starts))]) A
abbrev rm_X6_beginEmpty : Room := { frames := 0, cells := 0, slots := 0, locals := 0 }
set_option maxHeartbeats 4000000 in
set_option maxRecDepth 100000 in
theorem c_X6_beginEmpty (l : Launch) (dC : Nat → ClassId) (dI : Nat → Nat → Nat) (cI : ClassId) (h0 h0_1 h0_2 h0_3 : Nat) (sz : Nat) (n0 : Nat) (s0 : TabS) (post : TabS → Prop) (h : P_X6_beginEmpty n0 s0 post) : Met l yX6_beginEmpty wsX6_beginEmpty rm_X6_beginEmpty (va_Pc [.ref h0] (cpre (dC, dI) [(cI, .int)] [(h0, .inr (6, [.ref h0_1, .ref h0_2, .ref h0_3, .int s0.size, .int s0.nextSize, .int s0.over])), (h0_1, .inl (cI, n0, .inl s0.rows)), (h0_2, .inl (cI, n0, .inl s0.next_)), (h0_3, .inl (cI, 64, .inl s0.starts))] sz)) (Q_X6_beginEmpty dC dI cI h0 h0_1 h0_2 h0_3 n0 s0 (va_A [(h0, .inr (6, [.ref h0_1, .ref h0_2, .ref h0_3, .int s0.size, .int s0.nextSize, .int s0.over])), (h0_1, .inl (cI, n0, .inl s0.rows)), (h0_2, .inl (cI, n0, .inl s0.next_)), (h0_3, .inl (cI, 64, .inl s0.starts))] sz) post) 0 0 (va_A [(h0, .inr (6, [.ref h0_1, .ref h0_2, .ref h0_3, .int s0.size, .int s0.nextSize, .int s0.over])), (h0_1, .inl (cI, n0, .inl s0.rows)), (h0_2, .inl (cI, n0, .inl s0.next_)), (h0_3, .inl (cI, 64, .inl s0.starts))] sz) := by
  refine Met.ofW (cc := cX6_beginEmpty) (maxL := 1) (ret := none) (by decide) rfl ?_
  intro p e s m args below meth c s₁ B hml hv
  obtain ⟨rfl, hsz, hP, hK, hD0, hN⟩ := hv
  have hx := B.exec
  have hb := B.bytes
  have hr := B.returns
  have hts := atoms_spec (ws := wsX6_beginEmpty) B.pre
  have hown : s.vm.findClass RX6 = some m.cls := findClass_of_methodNamed B.named
  have hlocks := B.notSynchronized
  subst hsz
  have hD := hD0.self (sz := s.heap.size)
  generalize hAe : va_A [(h0, .inr (6, [.ref h0_1, .ref h0_2, .ref h0_3, .int s0.size, .int s0.nextSize, .int s0.over])), (h0_1, .inl (cI, n0, .inl s0.rows)), (h0_2, .inl (cI, n0, .inl s0.next_)), (h0_3, .inl (cI, 64, .inl s0.starts))] s.heap.size = A at hD ⊢
  have hA : ∀ q : Nat, s.heap.size ≤ q → A q := fun q h => by rw [← hAe]; exact Or.inr h
  clear hAe hD0
  obtain ⟨s0_rows, s0_next, s0_starts, s0_size, s0_nextSize, s0_over⟩ := s0
  have hS : va_S A s.heap s.heap [] := va_S.rf
  have hP : va_P (dC, dI) vwCl [(h0, .inr (6, [.ref h0_1, .ref h0_2, .ref h0_3, .int s0_size, .int s0_nextSize, .int s0_over])), (h0_1, .inl (cI, n0, .inl s0_rows)), (h0_2, .inl (cI, n0, .inl s0_next)), (h0_3, .inl (cI, 64, .inl s0_starts))] s.heap := hP
  have hD : va_D A [(h0, .inr (6, [.ref h0_1, .ref h0_2, .ref h0_3, .int s0_size, .int s0_nextSize, .int s0_over])), (h0_1, .inl (cI, n0, .inl s0_rows)), (h0_2, .inl (cI, n0, .inl s0_next)), (h0_3, .inl (cI, 64, .inl s0_starts))] := hD
  have hl := lv_entry ([.ref h0]) (n := 1) (Nat.le_of_ble_eq_true rfl)
  rw [lg_entry_eq]
  generalize (lg_sl ([.ref h0]) ++ List.replicate (1 - (lg_sl ([.ref h0])).length) Slot.unset).toArray = ls at hl ⊢
  have hl : lv_has ls 1 [(0, .ref h0)] := hl
  have hinX6 : ∀ w ∈ u_ws RX6 TX6 6, w ∈ wsX6_beginEmpty := by decide +kernel
  refine lv_aload_n hx hb dX6_beginEmpty_0 rfl (lv_at hl 0 rfl) ?_
  refine lv_iconst (v := (0 : Int32)) hx hb dX6_beginEmpty_1 (by decide) ?_
  refine va_put (D := (dC, dI)) (ci := 6) (v := .int (0 : Int32)) (ty := .int) (C := RX6) (T := TX6) (N := 6) hx hb hts (hinX6) tyX6 tyX6_ok nmX6 hown hK hP hD hS 0 rfl rfl 3 (by decide) (hts (.fieldLink RX6 15 "TripleJoins$Table" "size" "I") (by decide +kernel)) (fun _ h9 => h9) rfl (by decide +kernel) rfl rfl (Nat.le_of_ble_eq_true rfl) dX6_beginEmpty_2 (fun H locs hP hD hS => ?_)
  have hP : va_P (dC, dI) vwCl [(h0, .inr (6, [.ref h0_1, .ref h0_2, .ref h0_3, .int (0 : Int32), .int s0_nextSize, .int s0_over])), (h0_1, .inl (cI, n0, .inl s0_rows)), (h0_2, .inl (cI, n0, .inl s0_next)), (h0_3, .inl (cI, 64, .inl s0_starts))] _ := hP
  have hD : va_D A [(h0, .inr (6, [.ref h0_1, .ref h0_2, .ref h0_3, .int (0 : Int32), .int s0_nextSize, .int s0_over])), (h0_1, .inl (cI, n0, .inl s0_rows)), (h0_2, .inl (cI, n0, .inl s0_next)), (h0_3, .inl (cI, 64, .inl s0_starts))] := hD
  refine lv_aload_n hx hb dX6_beginEmpty_5 rfl (lv_at hl 0 rfl) ?_
  refine lv_iconst (v := (0 : Int32)) hx hb dX6_beginEmpty_6 (by decide) ?_
  refine va_put (D := (dC, dI)) (ci := 6) (v := .int (0 : Int32)) (ty := .int) (C := RX6) (T := TX6) (N := 6) hx hb hts (hinX6) tyX6 tyX6_ok nmX6 hown hK hP hD hS 0 rfl rfl 4 (by decide) (hts (.fieldLink RX6 19 "TripleJoins$Table" "nextSize" "I") (by decide +kernel)) (fun _ h9 => h9) rfl (by decide +kernel) rfl rfl (Nat.le_of_ble_eq_true rfl) dX6_beginEmpty_7 (fun H locs hP hD hS => ?_)
  have hP : va_P (dC, dI) vwCl [(h0, .inr (6, [.ref h0_1, .ref h0_2, .ref h0_3, .int (0 : Int32), .int (0 : Int32), .int s0_over])), (h0_1, .inl (cI, n0, .inl s0_rows)), (h0_2, .inl (cI, n0, .inl s0_next)), (h0_3, .inl (cI, 64, .inl s0_starts))] _ := hP
  have hD : va_D A [(h0, .inr (6, [.ref h0_1, .ref h0_2, .ref h0_3, .int (0 : Int32), .int (0 : Int32), .int s0_over])), (h0_1, .inl (cI, n0, .inl s0_rows)), (h0_2, .inl (cI, n0, .inl s0_next)), (h0_3, .inl (cI, 64, .inl s0_starts))] := hD
  refine lv_aload_n hx hb dX6_beginEmpty_10 rfl (lv_at hl 0 rfl) ?_
  refine lv_iconst (v := (0 : Int32)) hx hb dX6_beginEmpty_11 (by decide) ?_
  refine va_put (D := (dC, dI)) (ci := 6) (v := .int (0 : Int32)) (ty := .boolean) (C := RX6) (T := TX6) (N := 6) hx hb hts (hinX6) tyX6 tyX6_ok nmX6 hown hK hP hD hS 0 rfl rfl 5 (by decide) (hts (.fieldLink RX6 22 "TripleJoins$Table" "over" "Z") (by decide +kernel)) (fun _ h9 => h9) rfl (by decide +kernel) (by decide +kernel) (by decide +kernel) (Nat.le_of_ble_eq_true rfl) dX6_beginEmpty_12 (fun H locs hP hD hS => ?_)
  have hP : va_P (dC, dI) vwCl [(h0, .inr (6, [.ref h0_1, .ref h0_2, .ref h0_3, .int (0 : Int32), .int (0 : Int32), .int (0 : Int32)])), (h0_1, .inl (cI, n0, .inl s0_rows)), (h0_2, .inl (cI, n0, .inl s0_next)), (h0_3, .inl (cI, 64, .inl s0_starts))] _ := hP
  have hD : va_D A [(h0, .inr (6, [.ref h0_1, .ref h0_2, .ref h0_3, .int (0 : Int32), .int (0 : Int32), .int (0 : Int32)])), (h0_1, .inl (cI, n0, .inl s0_rows)), (h0_2, .inl (cI, n0, .inl s0_next)), (h0_3, .inl (cI, 64, .inl s0_starts))] := hD
  exact W.vret hx hb hr (fun t ht hW => ⟨⟨(s0_rows, s0_next, s0_starts, (0 : Int32), (0 : Int32), (0 : Int32)), rfl, h, ⟨h0_1, h0_2, by rw [ht]; exact hP, hD⟩⟩, hS.F ht⟩) hS.2.2 dX6_beginEmpty_15
abbrev Q_X6_add (dC : Nat → ClassId) (dI : Nat → Nat → Nat) (cI : ClassId) (h0 h0_1 h0_2 h0_3 : Nat) (n0 : Nat) (s0 : TabS) (A : Nat → Prop) (post : TabS → Prop) : Array Value → State → Outcome → State → Prop := va_Qv post (fun (u : TabS) (t : State) => ∃ h0_1_m h0_2_m : Nat, va_P (dC, dI) vwCl [(h0, .inr (6, [.ref h0_1_m, .ref h0_2_m, .ref h0_3, .int u.size, .int u.nextSize, .int u.over])), (h0_1_m, .inl (cI, n0, .inl u.rows)), (h0_2_m, .inl (cI, n0, .inl u.next_)), (h0_3, .inl (cI, 64, .inl u.starts))] t.heap ∧ va_D A [(h0, .inr (6, [.ref h0_1_m, .ref h0_2_m, .ref h0_3, .int u.size, .int u.nextSize, .int u.over])), (h0_1_m, .inl (cI, n0, .inl u.rows)), (h0_2_m, .inl (cI, n0, .inl u.next_)), (h0_3, .inl (cI, 64, .inl u.starts))]) A
abbrev rm_X6_add : Room := { frames := 1, cells := 0, slots := 0, locals := 22 }
set_option maxHeartbeats 4000000 in
set_option maxRecDepth 100000 in
theorem c_X6_add (l : Launch) (dC : Nat → ClassId) (dI : Nat → Nat → Nat) (cI : ClassId) (h0 h0_1 h0_2 h0_3 : Nat) (sz : Nat) (n0 : Nat) (s0 : TabS) (v1 : Int32) (post : TabS → Prop) (h : P_X6_add n0 s0 v1 post) : Met l yX6_add wsX6_add rm_X6_add (va_Pc [.ref h0, .int v1] (cpre (dC, dI) [(cI, .int)] [(h0, .inr (6, [.ref h0_1, .ref h0_2, .ref h0_3, .int s0.size, .int s0.nextSize, .int s0.over])), (h0_1, .inl (cI, n0, .inl s0.rows)), (h0_2, .inl (cI, n0, .inl s0.next_)), (h0_3, .inl (cI, 64, .inl s0.starts))] sz)) (Q_X6_add dC dI cI h0 h0_1 h0_2 h0_3 n0 s0 (va_A [(h0, .inr (6, [.ref h0_1, .ref h0_2, .ref h0_3, .int s0.size, .int s0.nextSize, .int s0.over])), (h0_1, .inl (cI, n0, .inl s0.rows)), (h0_2, .inl (cI, n0, .inl s0.next_)), (h0_3, .inl (cI, 64, .inl s0.starts))] sz) post) 0 0 (va_A [(h0, .inr (6, [.ref h0_1, .ref h0_2, .ref h0_3, .int s0.size, .int s0.nextSize, .int s0.over])), (h0_1, .inl (cI, n0, .inl s0.rows)), (h0_2, .inl (cI, n0, .inl s0.next_)), (h0_3, .inl (cI, 64, .inl s0.starts))] sz) := by
  refine Met.ofW (cc := cX6_add) (maxL := 2) (ret := none) (by decide) rfl ?_
  intro p e s m args below meth c s₁ B hml hv
  obtain ⟨rfl, hsz, hP, hK, hD0, hN⟩ := hv
  have hx := B.exec
  have hb := B.bytes
  have hr := B.returns
  have hts := atoms_spec (ws := wsX6_add) B.pre
  have hown : s.vm.findClass RX6 = some m.cls := findClass_of_methodNamed B.named
  have hlocks := B.notSynchronized
  subst hsz
  have hD := hD0.self (sz := s.heap.size)
  generalize hAe : va_A [(h0, .inr (6, [.ref h0_1, .ref h0_2, .ref h0_3, .int s0.size, .int s0.nextSize, .int s0.over])), (h0_1, .inl (cI, n0, .inl s0.rows)), (h0_2, .inl (cI, n0, .inl s0.next_)), (h0_3, .inl (cI, 64, .inl s0.starts))] s.heap.size = A at hD ⊢
  have hA : ∀ q : Nat, s.heap.size ≤ q → A q := fun q h => by rw [← hAe]; exact Or.inr h
  clear hAe hD0
  obtain ⟨s0_rows, s0_next, s0_starts, s0_size, s0_nextSize, s0_over⟩ := s0
  have hS : va_S A s.heap s.heap [] := va_S.rf
  have hP : va_P (dC, dI) vwCl [(h0, .inr (6, [.ref h0_1, .ref h0_2, .ref h0_3, .int s0_size, .int s0_nextSize, .int s0_over])), (h0_1, .inl (cI, n0, .inl s0_rows)), (h0_2, .inl (cI, n0, .inl s0_next)), (h0_3, .inl (cI, 64, .inl s0_starts))] s.heap := hP
  have hD : va_D A [(h0, .inr (6, [.ref h0_1, .ref h0_2, .ref h0_3, .int s0_size, .int s0_nextSize, .int s0_over])), (h0_1, .inl (cI, n0, .inl s0_rows)), (h0_2, .inl (cI, n0, .inl s0_next)), (h0_3, .inl (cI, 64, .inl s0_starts))] := hD
  have hl := lv_entry ([.ref h0, .int v1]) (n := 2) (Nat.le_of_ble_eq_true rfl)
  rw [lg_entry_eq]
  generalize (lg_sl ([.ref h0, .int v1]) ++ List.replicate (2 - (lg_sl ([.ref h0, .int v1])).length) Slot.unset).toArray = ls at hl ⊢
  have hl : lv_has ls 2 [(0, .ref h0), (1, .int v1)] := hl
  have hinX6 : ∀ w ∈ u_ws RX6 TX6 6, w ∈ wsX6_add := by decide +kernel
  refine lv_aload_n hx hb dX6_add_0 rfl (lv_at hl 0 rfl) ?_
  refine va_get (D := (dC, dI)) (ci := 6) (v := .int s0_nextSize) (C := RX6) (T := TX6) (N := 6) hx hb hts (hinX6) hown hK hP 0 rfl rfl 4 (by decide) (hts (.fieldLink RX6 19 "TripleJoins$Table" "nextSize" "I") (by decide +kernel)) (fun _ h9 => h9) rfl dX6_add_1 ?_
  refine lv_aload_n hx hb dX6_add_4 rfl (lv_at hl 0 rfl) ?_
  refine va_get (D := (dC, dI)) (ci := 6) (v := .ref h0_2) (C := RX6) (T := TX6) (N := 6) hx hb hts (hinX6) hown hK hP 0 rfl rfl 1 (by decide) (hts (.fieldLink RX6 35 "TripleJoins$Table" "next" "[I") (by decide +kernel)) (fun _ h9 => h9) rfl dX6_add_5 ?_
  refine va_alen hx hb hK hP 2 0 rfl rfl (v := (Int32.ofNat n0)) rfl dX6_add_8 ?_
  obtain ⟨ht_, hf_⟩ := h
  refine lv_icmp_ge (tgt := 37) hx hb dX6_add_9 (by decide) (fun c_1 => ?_) (fun c_1 => ?_)
  · have h := ht_ c_1
    refine lv_aload_n hx hb dX6_add_37 rfl (lv_at hl 0 rfl) ?_
    refine lv_iconst (v := (1 : Int32)) hx hb dX6_add_38 (by decide) ?_
    refine va_put (D := (dC, dI)) (ci := 6) (v := .int (1 : Int32)) (ty := .boolean) (C := RX6) (T := TX6) (N := 6) hx hb hts (hinX6) tyX6 tyX6_ok nmX6 hown hK hP hD hS 0 rfl rfl 5 (by decide) (hts (.fieldLink RX6 22 "TripleJoins$Table" "over" "Z") (by decide +kernel)) (fun _ h9 => h9) rfl (by decide +kernel) (by decide +kernel) (by decide +kernel) (Nat.le_of_ble_eq_true rfl) dX6_add_39 (fun H locs hP hD hS => ?_)
    have hP : va_P (dC, dI) vwCl [(h0, .inr (6, [.ref h0_1, .ref h0_2, .ref h0_3, .int s0_size, .int s0_nextSize, .int (1 : Int32)])), (h0_1, .inl (cI, n0, .inl s0_rows)), (h0_2, .inl (cI, n0, .inl s0_next)), (h0_3, .inl (cI, 64, .inl s0_starts))] _ := hP
    have hD : va_D A [(h0, .inr (6, [.ref h0_1, .ref h0_2, .ref h0_3, .int s0_size, .int s0_nextSize, .int (1 : Int32)])), (h0_1, .inl (cI, n0, .inl s0_rows)), (h0_2, .inl (cI, n0, .inl s0_next)), (h0_3, .inl (cI, 64, .inl s0_starts))] := hD
    exact W.vret hx hb hr (fun t ht hW => ⟨⟨(s0_rows, s0_next, s0_starts, s0_size, s0_nextSize, (1 : Int32)), rfl, h, ⟨h0_1, h0_2, by rw [ht]; exact hP, hD⟩⟩, hS.F ht⟩) hS.2.2 dX6_add_42
  · have h := hf_ c_1
    refine lv_aload_n hx hb dX6_add_12 rfl (lv_at hl 0 rfl) ?_
    refine va_get (D := (dC, dI)) (ci := 6) (v := .ref h0_2) (C := RX6) (T := TX6) (N := 6) hx hb hts (hinX6) hown hK hP 0 rfl rfl 1 (by decide) (hts (.fieldLink RX6 35 "TripleJoins$Table" "next" "[I") (by decide +kernel)) (fun _ h9 => h9) rfl dX6_add_13 ?_
    refine lv_aload_n hx hb dX6_add_16 rfl (lv_at hl 0 rfl) ?_
    refine va_get (D := (dC, dI)) (ci := 6) (v := .int s0_nextSize) (C := RX6) (T := TX6) (N := 6) hx hb hts (hinX6) hown hK hP 0 rfl rfl 4 (by decide) (hts (.fieldLink RX6 19 "TripleJoins$Table" "nextSize" "I") (by decide +kernel)) (fun _ h9 => h9) rfl dX6_add_17 ?_
    refine lv_iload_n hx hb dX6_add_20 rfl (lv_at hl 1 rfl) ?_
    have hPc := hP.sub (ws' := [(h0_2, .inl (cI, n0, .inl s0_next))]) [2] rfl
    have hDc := hD.sub (ws' := [(h0_2, .inl (cI, n0, .inl s0_next))]) [2] (by decide) rfl
    have hFc := va_free (wc := [(h0_2, .inl (cI, n0, .inl s0_next))]) hD hS hA [2] rfl
    refine va_callv (va_runSN (As := [.ref h0_2, .int s0_nextSize, .int v1]) (rest := []) ⟨hx, hb, hml, hown, hts⟩ (c_X7_put l dC dI cI h0_2 _ n0 s0_next s0_nextSize v1 _ h) ⟨va_cnB 3 hts gX6_add_X7_put_n52 rfl rfl rfl (nk_get hN 22 rfl) (hts (.initialized RX7) (by decide +kernel)) (by decide +kernel) ⟨Nat.le_of_ble_eq_true rfl, Nat.le_of_ble_eq_true rfl⟩, (hts (.static yX7_put) (by decide +kernel)), trivial⟩ (pb_S hPc hK hDc hN) rfl rfl hl.1 rfl (lv_room (Nat.le_of_ble_eq_true rfl)) dX6_add_21 ⟨Nat.zero_le _, Nat.zero_le _⟩) hS (fun q _ h => hFc q h) hFc (fun u_2 t H locs ht hvm h hB hz1 hk1 hS => ?_)
    obtain ⟨hP1, hD1⟩ := hB
    rw [ht] at hP1
    obtain ⟨hP, hD⟩ := cl_join (wr := [(h0, .inr (6, [.ref h0_1, .ref h0_2, .ref h0_3, .int s0_size, .int s0_nextSize, .int s0_over])), (h0_1, .inl (cI, n0, .inl s0_rows)), (h0_3, .inl (cI, 64, .inl s0_starts))]) (w1 := [(h0_2, .inl (cI, n0, .inl u_2))]) (ws' := [(h0, .inr (6, [.ref h0_1, .ref h0_2, .ref h0_3, .int s0_size, .int s0_nextSize, .int s0_over])), (h0_1, .inl (cI, n0, .inl s0_rows)), (h0_2, .inl (cI, n0, .inl u_2)), (h0_3, .inl (cI, 64, .inl s0_starts))]) hP hD [2] [0, 1, 3] [0, 1, 3, 2] rfl rfl (by decide) (by decide) (by decide) rfl hk1 hFc hP1 hD1
    refine lv_aload_n hx hb dX6_add_24 rfl (lv_at hl 0 rfl) ?_
    refine lv_dup hx hb dX6_add_25 rfl ?_
    refine va_get (D := (dC, dI)) (ci := 6) (v := .int s0_nextSize) (C := RX6) (T := TX6) (N := 6) hx hb hts (hinX6) hown hK hP 0 rfl rfl 4 (by decide) (hts (.fieldLink RX6 19 "TripleJoins$Table" "nextSize" "I") (by decide +kernel)) (fun _ h9 => h9) rfl dX6_add_26 ?_
    refine lv_iconst (v := (1 : Int32)) hx hb dX6_add_29 (by decide) ?_
    refine lv_iadd hx hb dX6_add_30 ?_
    refine va_put (D := (dC, dI)) (ci := 6) (v := .int (s0_nextSize + (1 : Int32))) (ty := .int) (C := RX6) (T := TX6) (N := 6) hx hb hts (hinX6) tyX6 tyX6_ok nmX6 hown hK hP hD hS 0 rfl rfl 4 (by decide) (hts (.fieldLink RX6 19 "TripleJoins$Table" "nextSize" "I") (by decide +kernel)) (fun _ h9 => h9) rfl (by decide +kernel) rfl rfl (Nat.le_of_ble_eq_true rfl) dX6_add_31 (fun H locs hP hD hS => ?_)
    have hP : va_P (dC, dI) vwCl [(h0, .inr (6, [.ref h0_1, .ref h0_2, .ref h0_3, .int s0_size, .int (s0_nextSize + (1 : Int32)), .int s0_over])), (h0_1, .inl (cI, n0, .inl s0_rows)), (h0_2, .inl (cI, n0, .inl u_2)), (h0_3, .inl (cI, 64, .inl s0_starts))] _ := hP
    have hD : va_D A [(h0, .inr (6, [.ref h0_1, .ref h0_2, .ref h0_3, .int s0_size, .int (s0_nextSize + (1 : Int32)), .int s0_over])), (h0_1, .inl (cI, n0, .inl s0_rows)), (h0_2, .inl (cI, n0, .inl u_2)), (h0_3, .inl (cI, 64, .inl s0_starts))] := hD
    refine lv_goto (tgt := 42) hx hb dX6_add_34 (by decide) ?_
    exact W.vret hx hb hr (fun t ht hW => ⟨⟨(s0_rows, u_2, s0_starts, s0_size, (s0_nextSize + (1 : Int32)), s0_over), rfl, h, ⟨h0_1, h0_2, by rw [ht]; exact hP, hD⟩⟩, hS.F ht⟩) hS.2.2 dX6_add_42
abbrev Q_X6_turn (dC : Nat → ClassId) (dI : Nat → Nat → Nat) (cI : ClassId) (h0 h0_1 h0_2 h0_3 : Nat) (n0 : Nat) (s0 : TabS) (A : Nat → Prop) (post : TabS → Prop) : Array Value → State → Outcome → State → Prop := va_Qv post (fun (u : TabS) (t : State) => ∃ h0_1_m h0_2_m : Nat, va_P (dC, dI) vwCl [(h0, .inr (6, [.ref h0_1_m, .ref h0_2_m, .ref h0_3, .int u.size, .int u.nextSize, .int u.over])), (h0_1_m, .inl (cI, n0, .inl u.rows)), (h0_2_m, .inl (cI, n0, .inl u.next_)), (h0_3, .inl (cI, 64, .inl u.starts))] t.heap ∧ va_D A [(h0, .inr (6, [.ref h0_1_m, .ref h0_2_m, .ref h0_3, .int u.size, .int u.nextSize, .int u.over])), (h0_1_m, .inl (cI, n0, .inl u.rows)), (h0_2_m, .inl (cI, n0, .inl u.next_)), (h0_3, .inl (cI, 64, .inl u.starts))]) A
abbrev rm_X6_turn : Room := { frames := 0, cells := 0, slots := 0, locals := 0 }
set_option maxHeartbeats 4000000 in
set_option maxRecDepth 100000 in
theorem c_X6_turn (l : Launch) (dC : Nat → ClassId) (dI : Nat → Nat → Nat) (cI : ClassId) (h0 h0_1 h0_2 h0_3 : Nat) (sz : Nat) (n0 : Nat) (s0 : TabS) (post : TabS → Prop) (h : P_X6_turn n0 s0 post) : Met l yX6_turn wsX6_turn rm_X6_turn (va_Pc [.ref h0] (cpre (dC, dI) [(cI, .int)] [(h0, .inr (6, [.ref h0_1, .ref h0_2, .ref h0_3, .int s0.size, .int s0.nextSize, .int s0.over])), (h0_1, .inl (cI, n0, .inl s0.rows)), (h0_2, .inl (cI, n0, .inl s0.next_)), (h0_3, .inl (cI, 64, .inl s0.starts))] sz)) (Q_X6_turn dC dI cI h0 h0_1 h0_2 h0_3 n0 s0 (va_A [(h0, .inr (6, [.ref h0_1, .ref h0_2, .ref h0_3, .int s0.size, .int s0.nextSize, .int s0.over])), (h0_1, .inl (cI, n0, .inl s0.rows)), (h0_2, .inl (cI, n0, .inl s0.next_)), (h0_3, .inl (cI, 64, .inl s0.starts))] sz) post) 0 0 (va_A [(h0, .inr (6, [.ref h0_1, .ref h0_2, .ref h0_3, .int s0.size, .int s0.nextSize, .int s0.over])), (h0_1, .inl (cI, n0, .inl s0.rows)), (h0_2, .inl (cI, n0, .inl s0.next_)), (h0_3, .inl (cI, 64, .inl s0.starts))] sz) := by
  refine Met.ofW (cc := cX6_turn) (maxL := 2) (ret := none) (by decide) rfl ?_
  intro p e s m args below meth c s₁ B hml hv
  obtain ⟨rfl, hsz, hP, hK, hD0, hN⟩ := hv
  have hx := B.exec
  have hb := B.bytes
  have hr := B.returns
  have hts := atoms_spec (ws := wsX6_turn) B.pre
  have hown : s.vm.findClass RX6 = some m.cls := findClass_of_methodNamed B.named
  have hlocks := B.notSynchronized
  subst hsz
  have hD := hD0.self (sz := s.heap.size)
  generalize hAe : va_A [(h0, .inr (6, [.ref h0_1, .ref h0_2, .ref h0_3, .int s0.size, .int s0.nextSize, .int s0.over])), (h0_1, .inl (cI, n0, .inl s0.rows)), (h0_2, .inl (cI, n0, .inl s0.next_)), (h0_3, .inl (cI, 64, .inl s0.starts))] s.heap.size = A at hD ⊢
  have hA : ∀ q : Nat, s.heap.size ≤ q → A q := fun q h => by rw [← hAe]; exact Or.inr h
  clear hAe hD0
  obtain ⟨s0_rows, s0_next, s0_starts, s0_size, s0_nextSize, s0_over⟩ := s0
  have hS : va_S A s.heap s.heap [] := va_S.rf
  have hP : va_P (dC, dI) vwCl [(h0, .inr (6, [.ref h0_1, .ref h0_2, .ref h0_3, .int s0_size, .int s0_nextSize, .int s0_over])), (h0_1, .inl (cI, n0, .inl s0_rows)), (h0_2, .inl (cI, n0, .inl s0_next)), (h0_3, .inl (cI, 64, .inl s0_starts))] s.heap := hP
  have hD : va_D A [(h0, .inr (6, [.ref h0_1, .ref h0_2, .ref h0_3, .int s0_size, .int s0_nextSize, .int s0_over])), (h0_1, .inl (cI, n0, .inl s0_rows)), (h0_2, .inl (cI, n0, .inl s0_next)), (h0_3, .inl (cI, 64, .inl s0_starts))] := hD
  have hl := lv_entry ([.ref h0]) (n := 2) (Nat.le_of_ble_eq_true rfl)
  rw [lg_entry_eq]
  generalize (lg_sl ([.ref h0]) ++ List.replicate (2 - (lg_sl ([.ref h0])).length) Slot.unset).toArray = ls at hl ⊢
  have hl : lv_has ls 2 [(0, .ref h0)] := hl
  have hinX6 : ∀ w ∈ u_ws RX6 TX6 6, w ∈ wsX6_turn := by decide +kernel
  refine lv_aload_n hx hb dX6_turn_0 rfl (lv_at hl 0 rfl) ?_
  refine va_get (D := (dC, dI)) (ci := 6) (v := .ref h0_1) (C := RX6) (T := TX6) (N := 6) hx hb hts (hinX6) hown hK hP 0 rfl rfl 0 (by decide) (hts (.fieldLink RX6 32 "TripleJoins$Table" "rows" "[I") (by decide +kernel)) (fun _ h9 => h9) rfl dX6_turn_1 ?_
  refine lv_astore_n (lv' := [(1, .ref h0_1), (0, .ref h0)]) hx hb dX6_turn_4 rfl hl (by decide) rfl (fun ls hl => ?_)
  refine lv_aload_n hx hb dX6_turn_5 rfl (lv_at hl 1 rfl) ?_
  refine lv_aload_n hx hb dX6_turn_6 rfl (lv_at hl 1 rfl) ?_
  refine va_get (D := (dC, dI)) (ci := 6) (v := .ref h0_2) (C := RX6) (T := TX6) (N := 6) hx hb hts (hinX6) hown hK hP 0 rfl rfl 1 (by decide) (hts (.fieldLink RX6 35 "TripleJoins$Table" "next" "[I") (by decide +kernel)) (fun _ h9 => h9) rfl dX6_turn_7 ?_
  refine va_put (D := (dC, dI)) (ci := 6) (v := .ref h0_2) (ty := .array .int) (C := RX6) (T := TX6) (N := 6) hx hb hts (hinX6) tyX6 tyX6_ok nmX6 hown hK hP hD hS 0 rfl rfl 0 (by decide) (hts (.fieldLink RX6 32 "TripleJoins$Table" "rows" "[I") (by decide +kernel)) (fun _ h9 => h9) rfl (by decide +kernel) rfl rfl (Nat.le_of_ble_eq_true rfl) dX6_turn_10 (fun H locs hP hD hS => ?_)
  have hP : va_P (dC, dI) vwCl [(h0, .inr (6, [.ref h0_2, .ref h0_2, .ref h0_3, .int s0_size, .int s0_nextSize, .int s0_over])), (h0_1, .inl (cI, n0, .inl s0_rows)), (h0_2, .inl (cI, n0, .inl s0_next)), (h0_3, .inl (cI, 64, .inl s0_starts))] _ := hP
  have hD : va_D A [(h0, .inr (6, [.ref h0_2, .ref h0_2, .ref h0_3, .int s0_size, .int s0_nextSize, .int s0_over])), (h0_1, .inl (cI, n0, .inl s0_rows)), (h0_2, .inl (cI, n0, .inl s0_next)), (h0_3, .inl (cI, 64, .inl s0_starts))] := hD
  refine lv_aload_n hx hb dX6_turn_13 rfl (lv_at hl 1 rfl) ?_
  refine lv_aload_n hx hb dX6_turn_14 rfl (lv_at hl 0 rfl) ?_
  refine va_put (D := (dC, dI)) (ci := 6) (v := .ref h0_1) (ty := .array .int) (C := RX6) (T := TX6) (N := 6) hx hb hts (hinX6) tyX6 tyX6_ok nmX6 hown hK hP hD hS 0 rfl rfl 1 (by decide) (hts (.fieldLink RX6 35 "TripleJoins$Table" "next" "[I") (by decide +kernel)) (fun _ h9 => h9) rfl (by decide +kernel) rfl rfl (Nat.le_of_ble_eq_true rfl) dX6_turn_15 (fun H locs hP hD hS => ?_)
  have hP : va_P (dC, dI) vwCl [(h0, .inr (6, [.ref h0_2, .ref h0_1, .ref h0_3, .int s0_size, .int s0_nextSize, .int s0_over])), (h0_1, .inl (cI, n0, .inl s0_rows)), (h0_2, .inl (cI, n0, .inl s0_next)), (h0_3, .inl (cI, 64, .inl s0_starts))] _ := hP
  have hD : va_D A [(h0, .inr (6, [.ref h0_2, .ref h0_1, .ref h0_3, .int s0_size, .int s0_nextSize, .int s0_over])), (h0_1, .inl (cI, n0, .inl s0_rows)), (h0_2, .inl (cI, n0, .inl s0_next)), (h0_3, .inl (cI, 64, .inl s0_starts))] := hD
  refine lv_aload_n hx hb dX6_turn_18 rfl (lv_at hl 1 rfl) ?_
  refine lv_aload_n hx hb dX6_turn_19 rfl (lv_at hl 1 rfl) ?_
  refine va_get (D := (dC, dI)) (ci := 6) (v := .int s0_nextSize) (C := RX6) (T := TX6) (N := 6) hx hb hts (hinX6) hown hK hP 0 rfl rfl 4 (by decide) (hts (.fieldLink RX6 19 "TripleJoins$Table" "nextSize" "I") (by decide +kernel)) (fun _ h9 => h9) rfl dX6_turn_20 ?_
  refine va_put (D := (dC, dI)) (ci := 6) (v := .int s0_nextSize) (ty := .int) (C := RX6) (T := TX6) (N := 6) hx hb hts (hinX6) tyX6 tyX6_ok nmX6 hown hK hP hD hS 0 rfl rfl 3 (by decide) (hts (.fieldLink RX6 15 "TripleJoins$Table" "size" "I") (by decide +kernel)) (fun _ h9 => h9) rfl (by decide +kernel) rfl rfl (Nat.le_of_ble_eq_true rfl) dX6_turn_23 (fun H locs hP hD hS => ?_)
  have hP : va_P (dC, dI) vwCl [(h0, .inr (6, [.ref h0_2, .ref h0_1, .ref h0_3, .int s0_nextSize, .int s0_nextSize, .int s0_over])), (h0_1, .inl (cI, n0, .inl s0_rows)), (h0_2, .inl (cI, n0, .inl s0_next)), (h0_3, .inl (cI, 64, .inl s0_starts))] _ := hP
  have hD : va_D A [(h0, .inr (6, [.ref h0_2, .ref h0_1, .ref h0_3, .int s0_nextSize, .int s0_nextSize, .int s0_over])), (h0_1, .inl (cI, n0, .inl s0_rows)), (h0_2, .inl (cI, n0, .inl s0_next)), (h0_3, .inl (cI, 64, .inl s0_starts))] := hD
  refine lv_aload_n hx hb dX6_turn_26 rfl (lv_at hl 1 rfl) ?_
  refine lv_iconst (v := (0 : Int32)) hx hb dX6_turn_27 (by decide) ?_
  refine va_put (D := (dC, dI)) (ci := 6) (v := .int (0 : Int32)) (ty := .int) (C := RX6) (T := TX6) (N := 6) hx hb hts (hinX6) tyX6 tyX6_ok nmX6 hown hK hP hD hS 0 rfl rfl 4 (by decide) (hts (.fieldLink RX6 19 "TripleJoins$Table" "nextSize" "I") (by decide +kernel)) (fun _ h9 => h9) rfl (by decide +kernel) rfl rfl (Nat.le_of_ble_eq_true rfl) dX6_turn_28 (fun H locs hP hD hS => ?_)
  have hP : va_P (dC, dI) vwCl [(h0, .inr (6, [.ref h0_2, .ref h0_1, .ref h0_3, .int s0_nextSize, .int (0 : Int32), .int s0_over])), (h0_1, .inl (cI, n0, .inl s0_rows)), (h0_2, .inl (cI, n0, .inl s0_next)), (h0_3, .inl (cI, 64, .inl s0_starts))] _ := hP
  have hD : va_D A [(h0, .inr (6, [.ref h0_2, .ref h0_1, .ref h0_3, .int s0_nextSize, .int (0 : Int32), .int s0_over])), (h0_1, .inl (cI, n0, .inl s0_rows)), (h0_2, .inl (cI, n0, .inl s0_next)), (h0_3, .inl (cI, 64, .inl s0_starts))] := hD
  have hP := hP.sub (ws' := [(h0, .inr (6, [.ref h0_2, .ref h0_1, .ref h0_3, .int s0_nextSize, .int (0 : Int32), .int s0_over])), (h0_2, .inl (cI, n0, .inl s0_next)), (h0_1, .inl (cI, n0, .inl s0_rows)), (h0_3, .inl (cI, 64, .inl s0_starts))]) [0, 2, 1, 3] rfl
  have hD := hD.sub (ws' := [(h0, .inr (6, [.ref h0_2, .ref h0_1, .ref h0_3, .int s0_nextSize, .int (0 : Int32), .int s0_over])), (h0_2, .inl (cI, n0, .inl s0_next)), (h0_1, .inl (cI, n0, .inl s0_rows)), (h0_3, .inl (cI, 64, .inl s0_starts))]) [0, 2, 1, 3] (by decide) rfl
  exact W.vret hx hb hr (fun t ht hW => ⟨⟨(s0_next, s0_rows, s0_starts, s0_nextSize, (0 : Int32), s0_over), rfl, h, ⟨h0_2, h0_1, by rw [ht]; exact hP, hD⟩⟩, hS.F ht⟩) hS.2.2 dX6_turn_31
abbrev Q_X6_beginWithNothingBound (dC : Nat → ClassId) (dI : Nat → Nat → Nat) (cI : ClassId) (h0 h0_1 h0_2 h0_3 : Nat) (n0 : Nat) (s0 : TabS) (A : Nat → Prop) (post : TabS → Prop) : Array Value → State → Outcome → State → Prop := va_Qv post (fun (u : TabS) (t : State) => ∃ h0_1_m h0_2_m : Nat, va_P (dC, dI) vwCl [(h0, .inr (6, [.ref h0_1_m, .ref h0_2_m, .ref h0_3, .int u.size, .int u.nextSize, .int u.over])), (h0_1_m, .inl (cI, n0, .inl u.rows)), (h0_2_m, .inl (cI, n0, .inl u.next_)), (h0_3, .inl (cI, 64, .inl u.starts))] t.heap ∧ va_D A [(h0, .inr (6, [.ref h0_1_m, .ref h0_2_m, .ref h0_3, .int u.size, .int u.nextSize, .int u.over])), (h0_1_m, .inl (cI, n0, .inl u.rows)), (h0_2_m, .inl (cI, n0, .inl u.next_)), (h0_3, .inl (cI, 64, .inl u.starts))]) A
abbrev rm_X6_beginWithNothingBound : Room := { frames := 2, cells := 0, slots := 0, locals := 43 }
set_option maxHeartbeats 4000000 in
set_option maxRecDepth 100000 in
theorem c_X6_beginWithNothingBound (l : Launch) (dC : Nat → ClassId) (dI : Nat → Nat → Nat) (cI : ClassId) (h0 h0_1 h0_2 h0_3 : Nat) (sz : Nat) (n0 : Nat) (s0 : TabS) (post : TabS → Prop) (h : P_X6_beginWithNothingBound n0 s0 post) : Met l yX6_beginWithNothingBound wsX6_beginWithNothingBound rm_X6_beginWithNothingBound (va_Pc [.ref h0] (cpre (dC, dI) [(cI, .int)] [(h0, .inr (6, [.ref h0_1, .ref h0_2, .ref h0_3, .int s0.size, .int s0.nextSize, .int s0.over])), (h0_1, .inl (cI, n0, .inl s0.rows)), (h0_2, .inl (cI, n0, .inl s0.next_)), (h0_3, .inl (cI, 64, .inl s0.starts))] sz)) (Q_X6_beginWithNothingBound dC dI cI h0 h0_1 h0_2 h0_3 n0 s0 (va_A [(h0, .inr (6, [.ref h0_1, .ref h0_2, .ref h0_3, .int s0.size, .int s0.nextSize, .int s0.over])), (h0_1, .inl (cI, n0, .inl s0.rows)), (h0_2, .inl (cI, n0, .inl s0.next_)), (h0_3, .inl (cI, 64, .inl s0.starts))] sz) post) 0 0 (va_A [(h0, .inr (6, [.ref h0_1, .ref h0_2, .ref h0_3, .int s0.size, .int s0.nextSize, .int s0.over])), (h0_1, .inl (cI, n0, .inl s0.rows)), (h0_2, .inl (cI, n0, .inl s0.next_)), (h0_3, .inl (cI, 64, .inl s0.starts))] sz) := by
  refine Met.ofW (cc := cX6_beginWithNothingBound) (maxL := 1) (ret := none) (by decide) rfl ?_
  intro p e s m args below meth c s₁ B hml hv
  obtain ⟨rfl, hsz, hP, hK, hD0, hN⟩ := hv
  have hx := B.exec
  have hb := B.bytes
  have hr := B.returns
  have hts := atoms_spec (ws := wsX6_beginWithNothingBound) B.pre
  have hown : s.vm.findClass RX6 = some m.cls := findClass_of_methodNamed B.named
  have hlocks := B.notSynchronized
  subst hsz
  have hD := hD0.self (sz := s.heap.size)
  generalize hAe : va_A [(h0, .inr (6, [.ref h0_1, .ref h0_2, .ref h0_3, .int s0.size, .int s0.nextSize, .int s0.over])), (h0_1, .inl (cI, n0, .inl s0.rows)), (h0_2, .inl (cI, n0, .inl s0.next_)), (h0_3, .inl (cI, 64, .inl s0.starts))] s.heap.size = A at hD ⊢
  have hA : ∀ q : Nat, s.heap.size ≤ q → A q := fun q h => by rw [← hAe]; exact Or.inr h
  clear hAe hD0
  obtain ⟨s0_rows, s0_next, s0_starts, s0_size, s0_nextSize, s0_over⟩ := s0
  have hS : va_S A s.heap s.heap [] := va_S.rf
  have hP : va_P (dC, dI) vwCl [(h0, .inr (6, [.ref h0_1, .ref h0_2, .ref h0_3, .int s0_size, .int s0_nextSize, .int s0_over])), (h0_1, .inl (cI, n0, .inl s0_rows)), (h0_2, .inl (cI, n0, .inl s0_next)), (h0_3, .inl (cI, 64, .inl s0_starts))] s.heap := hP
  have hD : va_D A [(h0, .inr (6, [.ref h0_1, .ref h0_2, .ref h0_3, .int s0_size, .int s0_nextSize, .int s0_over])), (h0_1, .inl (cI, n0, .inl s0_rows)), (h0_2, .inl (cI, n0, .inl s0_next)), (h0_3, .inl (cI, 64, .inl s0_starts))] := hD
  have hl := lv_entry ([.ref h0]) (n := 1) (Nat.le_of_ble_eq_true rfl)
  rw [lg_entry_eq]
  generalize (lg_sl ([.ref h0]) ++ List.replicate (1 - (lg_sl ([.ref h0])).length) Slot.unset).toArray = ls at hl ⊢
  have hl : lv_has ls 1 [(0, .ref h0)] := hl
  refine lv_aload_n hx hb dX6_beginWithNothingBound_0 rfl (lv_at hl 0 rfl) ?_
  have hPc := hP.sub (ws' := [(h0, .inr (6, [.ref h0_1, .ref h0_2, .ref h0_3, .int s0_size, .int s0_nextSize, .int s0_over])), (h0_1, .inl (cI, n0, .inl s0_rows)), (h0_2, .inl (cI, n0, .inl s0_next)), (h0_3, .inl (cI, 64, .inl s0_starts))]) [0, 1, 2, 3] rfl
  have hDc := hD.sub (ws' := [(h0, .inr (6, [.ref h0_1, .ref h0_2, .ref h0_3, .int s0_size, .int s0_nextSize, .int s0_over])), (h0_1, .inl (cI, n0, .inl s0_rows)), (h0_2, .inl (cI, n0, .inl s0_next)), (h0_3, .inl (cI, 64, .inl s0_starts))]) [0, 1, 2, 3] (by decide) rfl
  have hFc := va_free (wc := [(h0, .inr (6, [.ref h0_1, .ref h0_2, .ref h0_3, .int s0_size, .int s0_nextSize, .int s0_over])), (h0_1, .inl (cI, n0, .inl s0_rows)), (h0_2, .inl (cI, n0, .inl s0_next)), (h0_3, .inl (cI, 64, .inl s0_starts))]) hD hS hA [0, 1, 2, 3] rfl
  refine va_callv (va_runV (As := []) (rest := []) ⟨hx, hb, hml, hown, hts⟩ (c_X6_beginEmpty l dC dI cI h0 h0_1 h0_2 h0_3 _ n0 (s0_rows, s0_next, s0_starts, s0_size, s0_nextSize, s0_over) _ h) (cwV 0 hts gX6_beginWithNothingBound_X6_beginEmpty rfl rfl rfl (by decide +kernel) ⟨Nat.le_of_ble_eq_true rfl, Nat.le_of_ble_eq_true rfl⟩) (pb_V hPc hK hDc hN (ci := 6) (q0 := 0) rfl rfl) rfl rfl hl.1 rfl (lv_room (Nat.le_of_ble_eq_true rfl)) dX6_beginWithNothingBound_1 ⟨Nat.zero_le _, Nat.zero_le _⟩) hS (fun q _ h => hFc q h) hFc (fun u_1 t H locs ht hvm h hB hz1 hk1 hS => ?_)
  obtain ⟨u_1_rows, u_1_next, u_1_starts, u_1_size, u_1_nextSize, u_1_over⟩ := u_1
  obtain ⟨h0_1_m_3, h0_2_m_4, hP1, hD1⟩ := hB
  rw [ht] at hP1
  obtain ⟨hP, hD⟩ := cl_join (wr := []) (w1 := [(h0, .inr (6, [.ref h0_1_m_3, .ref h0_2_m_4, .ref h0_3, .int u_1_size, .int u_1_nextSize, .int u_1_over])), (h0_1_m_3, .inl (cI, n0, .inl u_1_rows)), (h0_2_m_4, .inl (cI, n0, .inl u_1_next)), (h0_3, .inl (cI, 64, .inl u_1_starts))]) (ws' := [(h0, .inr (6, [.ref h0_1_m_3, .ref h0_2_m_4, .ref h0_3, .int u_1_size, .int u_1_nextSize, .int u_1_over])), (h0_1_m_3, .inl (cI, n0, .inl u_1_rows)), (h0_2_m_4, .inl (cI, n0, .inl u_1_next)), (h0_3, .inl (cI, 64, .inl u_1_starts))]) hP hD [0, 1, 2, 3] [] [0, 1, 2, 3] rfl rfl (by decide) (by decide) (by decide) rfl hk1 hFc hP1 hD1
  refine lv_aload_n hx hb dX6_beginWithNothingBound_4 rfl (lv_at hl 0 rfl) ?_
  refine lv_iconst (v := (0 : Int32)) hx hb dX6_beginWithNothingBound_5 (by decide) ?_
  have hPc := hP.sub (ws' := [(h0, .inr (6, [.ref h0_1_m_3, .ref h0_2_m_4, .ref h0_3, .int u_1_size, .int u_1_nextSize, .int u_1_over])), (h0_1_m_3, .inl (cI, n0, .inl u_1_rows)), (h0_2_m_4, .inl (cI, n0, .inl u_1_next)), (h0_3, .inl (cI, 64, .inl u_1_starts))]) [0, 1, 2, 3] rfl
  have hDc := hD.sub (ws' := [(h0, .inr (6, [.ref h0_1_m_3, .ref h0_2_m_4, .ref h0_3, .int u_1_size, .int u_1_nextSize, .int u_1_over])), (h0_1_m_3, .inl (cI, n0, .inl u_1_rows)), (h0_2_m_4, .inl (cI, n0, .inl u_1_next)), (h0_3, .inl (cI, 64, .inl u_1_starts))]) [0, 1, 2, 3] (by decide) rfl
  have hFc := va_free (wc := [(h0, .inr (6, [.ref h0_1_m_3, .ref h0_2_m_4, .ref h0_3, .int u_1_size, .int u_1_nextSize, .int u_1_over])), (h0_1_m_3, .inl (cI, n0, .inl u_1_rows)), (h0_2_m_4, .inl (cI, n0, .inl u_1_next)), (h0_3, .inl (cI, 64, .inl u_1_starts))]) hD hS hA [0, 1, 2, 3] rfl
  refine va_callv (va_runV (As := [.int (0 : Int32)]) (rest := []) ⟨hx, hb, hml, hown, hts⟩ (c_X6_add l dC dI cI h0 h0_1_m_3 h0_2_m_4 h0_3 _ n0 (u_1_rows, u_1_next, u_1_starts, u_1_size, u_1_nextSize, u_1_over) (0 : Int32) _ h) (cwV 1 hts gX6_beginWithNothingBound_X6_add rfl rfl rfl (by decide +kernel) ⟨Nat.le_of_ble_eq_true rfl, Nat.le_of_ble_eq_true rfl⟩) (pb_V hPc hK hDc hN (ci := 6) (q0 := 0) rfl rfl) rfl rfl hl.1 rfl (lv_room (Nat.le_of_ble_eq_true rfl)) dX6_beginWithNothingBound_6 ⟨Nat.zero_le _, Nat.zero_le _⟩) hS (fun q _ h => hFc q h) hFc (fun u_5 t H locs ht hvm h hB hz1 hk1 hS => ?_)
  obtain ⟨u_5_rows, u_5_next, u_5_starts, u_5_size, u_5_nextSize, u_5_over⟩ := u_5
  obtain ⟨h0_1_m_7, h0_2_m_8, hP1, hD1⟩ := hB
  rw [ht] at hP1
  obtain ⟨hP, hD⟩ := cl_join (wr := []) (w1 := [(h0, .inr (6, [.ref h0_1_m_7, .ref h0_2_m_8, .ref h0_3, .int u_5_size, .int u_5_nextSize, .int u_5_over])), (h0_1_m_7, .inl (cI, n0, .inl u_5_rows)), (h0_2_m_8, .inl (cI, n0, .inl u_5_next)), (h0_3, .inl (cI, 64, .inl u_5_starts))]) (ws' := [(h0, .inr (6, [.ref h0_1_m_7, .ref h0_2_m_8, .ref h0_3, .int u_5_size, .int u_5_nextSize, .int u_5_over])), (h0_1_m_7, .inl (cI, n0, .inl u_5_rows)), (h0_2_m_8, .inl (cI, n0, .inl u_5_next)), (h0_3, .inl (cI, 64, .inl u_5_starts))]) hP hD [0, 1, 2, 3] [] [0, 1, 2, 3] rfl rfl (by decide) (by decide) (by decide) rfl hk1 hFc hP1 hD1
  refine lv_aload_n hx hb dX6_beginWithNothingBound_9 rfl (lv_at hl 0 rfl) ?_
  have hPc := hP.sub (ws' := [(h0, .inr (6, [.ref h0_1_m_7, .ref h0_2_m_8, .ref h0_3, .int u_5_size, .int u_5_nextSize, .int u_5_over])), (h0_1_m_7, .inl (cI, n0, .inl u_5_rows)), (h0_2_m_8, .inl (cI, n0, .inl u_5_next)), (h0_3, .inl (cI, 64, .inl u_5_starts))]) [0, 1, 2, 3] rfl
  have hDc := hD.sub (ws' := [(h0, .inr (6, [.ref h0_1_m_7, .ref h0_2_m_8, .ref h0_3, .int u_5_size, .int u_5_nextSize, .int u_5_over])), (h0_1_m_7, .inl (cI, n0, .inl u_5_rows)), (h0_2_m_8, .inl (cI, n0, .inl u_5_next)), (h0_3, .inl (cI, 64, .inl u_5_starts))]) [0, 1, 2, 3] (by decide) rfl
  have hFc := va_free (wc := [(h0, .inr (6, [.ref h0_1_m_7, .ref h0_2_m_8, .ref h0_3, .int u_5_size, .int u_5_nextSize, .int u_5_over])), (h0_1_m_7, .inl (cI, n0, .inl u_5_rows)), (h0_2_m_8, .inl (cI, n0, .inl u_5_next)), (h0_3, .inl (cI, 64, .inl u_5_starts))]) hD hS hA [0, 1, 2, 3] rfl
  refine va_callv (va_runV (As := []) (rest := []) ⟨hx, hb, hml, hown, hts⟩ (c_X6_turn l dC dI cI h0 h0_1_m_7 h0_2_m_8 h0_3 _ n0 (u_5_rows, u_5_next, u_5_starts, u_5_size, u_5_nextSize, u_5_over) _ h) (cwV 0 hts gX6_beginWithNothingBound_X6_turn rfl rfl rfl (by decide +kernel) ⟨Nat.le_of_ble_eq_true rfl, Nat.le_of_ble_eq_true rfl⟩) (pb_V hPc hK hDc hN (ci := 6) (q0 := 0) rfl rfl) rfl rfl hl.1 rfl (lv_room (Nat.le_of_ble_eq_true rfl)) dX6_beginWithNothingBound_10 ⟨Nat.zero_le _, Nat.zero_le _⟩) hS (fun q _ h => hFc q h) hFc (fun u_9 t H locs ht hvm h hB hz1 hk1 hS => ?_)
  obtain ⟨u_9_rows, u_9_next, u_9_starts, u_9_size, u_9_nextSize, u_9_over⟩ := u_9
  obtain ⟨h0_1_m_11, h0_2_m_12, hP1, hD1⟩ := hB
  rw [ht] at hP1
  obtain ⟨hP, hD⟩ := cl_join (wr := []) (w1 := [(h0, .inr (6, [.ref h0_1_m_11, .ref h0_2_m_12, .ref h0_3, .int u_9_size, .int u_9_nextSize, .int u_9_over])), (h0_1_m_11, .inl (cI, n0, .inl u_9_rows)), (h0_2_m_12, .inl (cI, n0, .inl u_9_next)), (h0_3, .inl (cI, 64, .inl u_9_starts))]) (ws' := [(h0, .inr (6, [.ref h0_1_m_11, .ref h0_2_m_12, .ref h0_3, .int u_9_size, .int u_9_nextSize, .int u_9_over])), (h0_1_m_11, .inl (cI, n0, .inl u_9_rows)), (h0_2_m_12, .inl (cI, n0, .inl u_9_next)), (h0_3, .inl (cI, 64, .inl u_9_starts))]) hP hD [0, 1, 2, 3] [] [0, 1, 2, 3] rfl rfl (by decide) (by decide) (by decide) rfl hk1 hFc hP1 hD1
  exact W.vret hx hb hr (fun t ht hW => ⟨⟨(u_9_rows, u_9_next, u_9_starts, u_9_size, u_9_nextSize, u_9_over), rfl, h, ⟨h0_1_m_11, h0_2_m_12, by rw [ht]; exact hP, hD⟩⟩, hS.F ht⟩) hS.2.2 dX6_beginWithNothingBound_13
abbrev Q_X6_sortByOne (dC : Nat → ClassId) (dI : Nat → Nat → Nat) (cI : ClassId) (h0 h0_1 h0_2 h0_3 : Nat) (n0 : Nat) (s0 : TabS) (A : Nat → Prop) (post : TabS → Prop) : Array Value → State → Outcome → State → Prop := va_Qv post (fun (u : TabS) (t : State) => ∃ h0_1_m h0_2_m : Nat, va_P (dC, dI) vwCl [(h0, .inr (6, [.ref h0_1_m, .ref h0_2_m, .ref h0_3, .int u.size, .int u.nextSize, .int u.over])), (h0_1_m, .inl (cI, n0, .inl u.rows)), (h0_2_m, .inl (cI, n0, .inl u.next_)), (h0_3, .inl (cI, 64, .inl u.starts))] t.heap ∧ va_D A [(h0, .inr (6, [.ref h0_1_m, .ref h0_2_m, .ref h0_3, .int u.size, .int u.nextSize, .int u.over])), (h0_1_m, .inl (cI, n0, .inl u.rows)), (h0_2_m, .inl (cI, n0, .inl u.next_)), (h0_3, .inl (cI, 64, .inl u.starts))]) A
abbrev rm_X6_sortByOne : Room := { frames := 2, cells := 0, slots := 0, locals := 41 }
set_option maxHeartbeats 4000000 in
set_option maxRecDepth 100000 in
theorem c_X6_sortByOne (l : Launch) (dC : Nat → ClassId) (dI : Nat → Nat → Nat) (cI : ClassId) (h0 h0_1 h0_2 h0_3 : Nat) (sz : Nat) (n0 : Nat) (s0 : TabS) (v1 : Int32) (post : TabS → Prop) (h : P_X6_sortByOne n0 s0 v1 post) : Met l yX6_sortByOne wsX6_sortByOne rm_X6_sortByOne (va_Pc [.ref h0, .int v1] (cpre (dC, dI) [(cI, .int)] [(h0, .inr (6, [.ref h0_1, .ref h0_2, .ref h0_3, .int s0.size, .int s0.nextSize, .int s0.over])), (h0_1, .inl (cI, n0, .inl s0.rows)), (h0_2, .inl (cI, n0, .inl s0.next_)), (h0_3, .inl (cI, 64, .inl s0.starts))] sz)) (Q_X6_sortByOne dC dI cI h0 h0_1 h0_2 h0_3 n0 s0 (va_A [(h0, .inr (6, [.ref h0_1, .ref h0_2, .ref h0_3, .int s0.size, .int s0.nextSize, .int s0.over])), (h0_1, .inl (cI, n0, .inl s0.rows)), (h0_2, .inl (cI, n0, .inl s0.next_)), (h0_3, .inl (cI, 64, .inl s0.starts))] sz) post) 0 0 (va_A [(h0, .inr (6, [.ref h0_1, .ref h0_2, .ref h0_3, .int s0.size, .int s0.nextSize, .int s0.over])), (h0_1, .inl (cI, n0, .inl s0.rows)), (h0_2, .inl (cI, n0, .inl s0.next_)), (h0_3, .inl (cI, 64, .inl s0.starts))] sz) := by
  refine Met.ofW (cc := cX6_sortByOne) (maxL := 5) (ret := none) (by decide) rfl ?_
  intro p e s m args below meth c s₁ B hml hv
  obtain ⟨rfl, hsz, hP, hK, hD0, hN⟩ := hv
  have hx := B.exec
  have hb := B.bytes
  have hr := B.returns
  have hts := atoms_spec (ws := wsX6_sortByOne) B.pre
  have hown : s.vm.findClass RX6 = some m.cls := findClass_of_methodNamed B.named
  have hlocks := B.notSynchronized
  subst hsz
  have hD := hD0.self (sz := s.heap.size)
  generalize hAe : va_A [(h0, .inr (6, [.ref h0_1, .ref h0_2, .ref h0_3, .int s0.size, .int s0.nextSize, .int s0.over])), (h0_1, .inl (cI, n0, .inl s0.rows)), (h0_2, .inl (cI, n0, .inl s0.next_)), (h0_3, .inl (cI, 64, .inl s0.starts))] s.heap.size = A at hD ⊢
  have hA : ∀ q : Nat, s.heap.size ≤ q → A q := fun q h => by rw [← hAe]; exact Or.inr h
  clear hAe hD0
  obtain ⟨s0_rows, s0_next, s0_starts, s0_size, s0_nextSize, s0_over⟩ := s0
  have hS : va_S A s.heap s.heap [] := va_S.rf
  have hP : va_P (dC, dI) vwCl [(h0, .inr (6, [.ref h0_1, .ref h0_2, .ref h0_3, .int s0_size, .int s0_nextSize, .int s0_over])), (h0_1, .inl (cI, n0, .inl s0_rows)), (h0_2, .inl (cI, n0, .inl s0_next)), (h0_3, .inl (cI, 64, .inl s0_starts))] s.heap := hP
  have hD : va_D A [(h0, .inr (6, [.ref h0_1, .ref h0_2, .ref h0_3, .int s0_size, .int s0_nextSize, .int s0_over])), (h0_1, .inl (cI, n0, .inl s0_rows)), (h0_2, .inl (cI, n0, .inl s0_next)), (h0_3, .inl (cI, 64, .inl s0_starts))] := hD
  have hl := lv_entry ([.ref h0, .int v1]) (n := 5) (Nat.le_of_ble_eq_true rfl)
  rw [lg_entry_eq]
  generalize (lg_sl ([.ref h0, .int v1]) ++ List.replicate (5 - (lg_sl ([.ref h0, .int v1])).length) Slot.unset).toArray = ls at hl ⊢
  have hl : lv_has ls 5 [(0, .ref h0), (1, .int v1)] := hl
  have hinX6 : ∀ w ∈ u_ws RX6 TX6 6, w ∈ wsX6_sortByOne := by decide +kernel
  refine lv_iconst (v := (0 : Int32)) hx hb dX6_sortByOne_0 (by decide) ?_
  refine lv_istore_n (lv' := [(2, .int (0 : Int32)), (0, .ref h0), (1, .int v1)]) hx hb dX6_sortByOne_1 rfl hl (by decide) rfl (fun ls hl => ?_)
  have hl : lv_has ls 5 [(0, .ref h0), (1, .int v1), (2, .int (0 : Int32))] := lv_sub hl [1, 2, 0] rfl
  obtain ⟨I_1, hI_1, n_1, h⟩ := h
  have loop_1 : ∀ (n_1 : Nat) (v2_2 : Int32) (s0_3_rows : Nat → Int32) (s0_3_next : Nat → Int32) (s0_3_starts : Nat → Int32) (s0_3_size : Int32) (s0_3_nextSize : Int32) (s0_3_over : Int32) (h : I_1 n_1 (v2_2, (s0_3_rows, s0_3_next, s0_3_starts, s0_3_size, s0_3_nextSize, s0_3_over))) (h0_1_m_4 : Nat) (h0_2_m_5 : Nat) (H : Heap) (locs : List Loc) (hP : va_P (dC, dI) vwCl [(h0, .inr (6, [.ref h0_1_m_4, .ref h0_2_m_5, .ref h0_3, .int s0_3_size, .int s0_3_nextSize, .int s0_3_over])), (h0_1_m_4, .inl (cI, n0, .inl s0_3_rows)), (h0_2_m_5, .inl (cI, n0, .inl s0_3_next)), (h0_3, .inl (cI, 64, .inl s0_3_starts))] H) (hD : va_D A [(h0, .inr (6, [.ref h0_1_m_4, .ref h0_2_m_5, .ref h0_3, .int s0_3_size, .int s0_3_nextSize, .int s0_3_over])), (h0_1_m_4, .inl (cI, n0, .inl s0_3_rows)), (h0_2_m_5, .inl (cI, n0, .inl s0_3_next)), (h0_3, .inl (cI, 64, .inl s0_3_starts))]) (hS : va_S A s.heap H locs) (ls : Array Slot) (hl : lv_has ls 5 [(0, .ref h0), (1, .int v1), (2, .int v2_2)]), W p l e rm_X6_sortByOne s m ([.ref h0, .int v1] : List Value).toArray below meth c H locs 0 0 (MQ below (Q_X6_sortByOne dC dI cI h0 h0_1 h0_2 h0_3 n0 (s0_rows, s0_next, s0_starts, s0_size, s0_nextSize, s0_over) A post) (([.ref h0, .int v1] : List Value).toArray) s 0 0 A) (F0 m 2 ls []) := by
    intro n_1
    induction n_1 using Nat.strongRecOn with
    | ind n_1 ih_1 =>
      intro v2_2 s0_3_rows s0_3_next s0_3_starts s0_3_size s0_3_nextSize s0_3_over h h0_1_m_4 h0_2_m_5 H locs hP hD hS ls hl
      have h := hI_1 n_1 _ h
      refine lv_iload_n hx hb dX6_sortByOne_2 rfl (lv_at hl 2 rfl) ?_
      refine lv_bipush (v := (63 : Int32)) hx hb dX6_sortByOne_3 (by decide) ?_
      obtain ⟨ht_, hf_⟩ := h
      refine lv_icmp_gt (tgt := 23) hx hb dX6_sortByOne_5 (by decide) (fun c_6 => ?_) (fun c_6 => ?_)
      · have h := ht_ c_6
        refine lv_iconst (v := (0 : Int32)) hx hb dX6_sortByOne_23 (by decide) ?_
        refine lv_istore_n (lv' := [(2, .int (0 : Int32)), (0, .ref h0), (1, .int v1)]) hx hb dX6_sortByOne_24 rfl hl (by decide) rfl (fun ls hl => ?_)
        have hl : lv_has ls 5 [(0, .ref h0), (1, .int v1), (2, .int (0 : Int32))] := lv_sub hl [1, 2, 0] rfl
        obtain ⟨I_7, hI_7, n_7, h⟩ := h
        have loop_7 : ∀ (n_7 : Nat) (v2_8 : Int32) (s0_9_rows : Nat → Int32) (s0_9_next : Nat → Int32) (s0_9_starts : Nat → Int32) (s0_9_size : Int32) (s0_9_nextSize : Int32) (s0_9_over : Int32) (h : I_7 n_7 (v2_8, (s0_9_rows, s0_9_next, s0_9_starts, s0_9_size, s0_9_nextSize, s0_9_over))) (h0_1_m_10 : Nat) (h0_2_m_11 : Nat) (H : Heap) (locs : List Loc) (hP : va_P (dC, dI) vwCl [(h0, .inr (6, [.ref h0_1_m_10, .ref h0_2_m_11, .ref h0_3, .int s0_9_size, .int s0_9_nextSize, .int s0_9_over])), (h0_1_m_10, .inl (cI, n0, .inl s0_9_rows)), (h0_2_m_11, .inl (cI, n0, .inl s0_9_next)), (h0_3, .inl (cI, 64, .inl s0_9_starts))] H) (hD : va_D A [(h0, .inr (6, [.ref h0_1_m_10, .ref h0_2_m_11, .ref h0_3, .int s0_9_size, .int s0_9_nextSize, .int s0_9_over])), (h0_1_m_10, .inl (cI, n0, .inl s0_9_rows)), (h0_2_m_11, .inl (cI, n0, .inl s0_9_next)), (h0_3, .inl (cI, 64, .inl s0_9_starts))]) (hS : va_S A s.heap H locs) (ls : Array Slot) (hl : lv_has ls 5 [(0, .ref h0), (1, .int v1), (2, .int v2_8)]), W p l e rm_X6_sortByOne s m ([.ref h0, .int v1] : List Value).toArray below meth c H locs 0 0 (MQ below (Q_X6_sortByOne dC dI cI h0 h0_1 h0_2 h0_3 n0 (s0_rows, s0_next, s0_starts, s0_size, s0_nextSize, s0_over) A post) (([.ref h0, .int v1] : List Value).toArray) s 0 0 A) (F0 m 25 ls []) := by
          intro n_7
          induction n_7 using Nat.strongRecOn with
          | ind n_7 ih_7 =>
            intro v2_8 s0_9_rows s0_9_next s0_9_starts s0_9_size s0_9_nextSize s0_9_over h h0_1_m_10 h0_2_m_11 H locs hP hD hS ls hl
            have h := hI_7 n_7 _ h
            refine lv_iload_n hx hb dX6_sortByOne_25 rfl (lv_at hl 2 rfl) ?_
            refine lv_aload_n hx hb dX6_sortByOne_26 rfl (lv_at hl 0 rfl) ?_
            refine va_get (D := (dC, dI)) (ci := 6) (v := .int s0_9_size) (C := RX6) (T := TX6) (N := 6) hx hb hts (hinX6) hown hK hP 0 rfl rfl 3 (by decide) (hts (.fieldLink RX6 15 "TripleJoins$Table" "size" "I") (by decide +kernel)) (fun _ h9 => h9) rfl dX6_sortByOne_27 ?_
            obtain ⟨ht_, hf_⟩ := h
            refine lv_icmp_ge (tgt := 70) hx hb dX6_sortByOne_30 (by decide) (fun c_12 => ?_) (fun c_12 => ?_)
            · have h := ht_ c_12
              refine lv_iconst (v := (0 : Int32)) hx hb dX6_sortByOne_70 (by decide) ?_
              refine lv_istore_n (lv' := [(2, .int (0 : Int32)), (0, .ref h0), (1, .int v1)]) hx hb dX6_sortByOne_71 rfl hl (by decide) rfl (fun ls hl => ?_)
              refine lv_iconst (v := (0 : Int32)) hx hb dX6_sortByOne_72 (by decide) ?_
              refine lv_istore_n (lv' := [(3, .int (0 : Int32)), (2, .int (0 : Int32)), (0, .ref h0), (1, .int v1)]) hx hb dX6_sortByOne_73 rfl hl (by decide) rfl (fun ls hl => ?_)
              have hl : lv_has ls 5 [(0, .ref h0), (1, .int v1), (2, .int (0 : Int32)), (3, .int (0 : Int32))] := lv_sub hl [2, 3, 1, 0] rfl
              obtain ⟨I_13, hI_13, n_13, h⟩ := h
              have loop_13 : ∀ (n_13 : Nat) (v2_14 : Int32) (v3_15 : Int32) (s0_16_rows : Nat → Int32) (s0_16_next : Nat → Int32) (s0_16_starts : Nat → Int32) (s0_16_size : Int32) (s0_16_nextSize : Int32) (s0_16_over : Int32) (h : I_13 n_13 (v2_14, v3_15, (s0_16_rows, s0_16_next, s0_16_starts, s0_16_size, s0_16_nextSize, s0_16_over))) (h0_1_m_17 : Nat) (h0_2_m_18 : Nat) (H : Heap) (locs : List Loc) (hP : va_P (dC, dI) vwCl [(h0, .inr (6, [.ref h0_1_m_17, .ref h0_2_m_18, .ref h0_3, .int s0_16_size, .int s0_16_nextSize, .int s0_16_over])), (h0_1_m_17, .inl (cI, n0, .inl s0_16_rows)), (h0_2_m_18, .inl (cI, n0, .inl s0_16_next)), (h0_3, .inl (cI, 64, .inl s0_16_starts))] H) (hD : va_D A [(h0, .inr (6, [.ref h0_1_m_17, .ref h0_2_m_18, .ref h0_3, .int s0_16_size, .int s0_16_nextSize, .int s0_16_over])), (h0_1_m_17, .inl (cI, n0, .inl s0_16_rows)), (h0_2_m_18, .inl (cI, n0, .inl s0_16_next)), (h0_3, .inl (cI, 64, .inl s0_16_starts))]) (hS : va_S A s.heap H locs) (ls : Array Slot) (hl : lv_has ls 5 [(0, .ref h0), (1, .int v1), (2, .int v2_14), (3, .int v3_15)]), W p l e rm_X6_sortByOne s m ([.ref h0, .int v1] : List Value).toArray below meth c H locs 0 0 (MQ below (Q_X6_sortByOne dC dI cI h0 h0_1 h0_2 h0_3 n0 (s0_rows, s0_next, s0_starts, s0_size, s0_nextSize, s0_over) A post) (([.ref h0, .int v1] : List Value).toArray) s 0 0 A) (F0 m 74 ls []) := by
                intro n_13
                induction n_13 using Nat.strongRecOn with
                | ind n_13 ih_13 =>
                  intro v2_14 v3_15 s0_16_rows s0_16_next s0_16_starts s0_16_size s0_16_nextSize s0_16_over h h0_1_m_17 h0_2_m_18 H locs hP hD hS ls hl
                  have h := hI_13 n_13 _ h
                  refine lv_iload_n hx hb dX6_sortByOne_74 rfl (lv_at hl 3 rfl) ?_
                  refine lv_bipush (v := (63 : Int32)) hx hb dX6_sortByOne_75 (by decide) ?_
                  obtain ⟨ht_, hf_⟩ := h
                  refine lv_icmp_gt (tgt := 110) hx hb dX6_sortByOne_77 (by decide) (fun c_19 => ?_) (fun c_19 => ?_)
                  · have h := ht_ c_19
                    refine lv_iconst (v := (0 : Int32)) hx hb dX6_sortByOne_110 (by decide) ?_
                    refine lv_istore_n (lv' := [(3, .int (0 : Int32)), (0, .ref h0), (1, .int v1), (2, .int v2_14)]) hx hb dX6_sortByOne_111 rfl hl (by decide) rfl (fun ls hl => ?_)
                    have hl : lv_has ls 5 [(0, .ref h0), (1, .int v1), (3, .int (0 : Int32))] := lv_sub hl [1, 2, 0] rfl
                    obtain ⟨I_20, hI_20, n_20, h⟩ := h
                    have loop_20 : ∀ (n_20 : Nat) (v3_21 : Int32) (s0_22_rows : Nat → Int32) (s0_22_next : Nat → Int32) (s0_22_starts : Nat → Int32) (s0_22_size : Int32) (s0_22_nextSize : Int32) (s0_22_over : Int32) (h : I_20 n_20 (v3_21, (s0_22_rows, s0_22_next, s0_22_starts, s0_22_size, s0_22_nextSize, s0_22_over))) (h0_1_m_23 : Nat) (h0_2_m_24 : Nat) (H : Heap) (locs : List Loc) (hP : va_P (dC, dI) vwCl [(h0, .inr (6, [.ref h0_1_m_23, .ref h0_2_m_24, .ref h0_3, .int s0_22_size, .int s0_22_nextSize, .int s0_22_over])), (h0_1_m_23, .inl (cI, n0, .inl s0_22_rows)), (h0_2_m_24, .inl (cI, n0, .inl s0_22_next)), (h0_3, .inl (cI, 64, .inl s0_22_starts))] H) (hD : va_D A [(h0, .inr (6, [.ref h0_1_m_23, .ref h0_2_m_24, .ref h0_3, .int s0_22_size, .int s0_22_nextSize, .int s0_22_over])), (h0_1_m_23, .inl (cI, n0, .inl s0_22_rows)), (h0_2_m_24, .inl (cI, n0, .inl s0_22_next)), (h0_3, .inl (cI, 64, .inl s0_22_starts))]) (hS : va_S A s.heap H locs) (ls : Array Slot) (hl : lv_has ls 5 [(0, .ref h0), (1, .int v1), (3, .int v3_21)]), W p l e rm_X6_sortByOne s m ([.ref h0, .int v1] : List Value).toArray below meth c H locs 0 0 (MQ below (Q_X6_sortByOne dC dI cI h0 h0_1 h0_2 h0_3 n0 (s0_rows, s0_next, s0_starts, s0_size, s0_nextSize, s0_over) A post) (([.ref h0, .int v1] : List Value).toArray) s 0 0 A) (F0 m 112 ls []) := by
                      intro n_20
                      induction n_20 using Nat.strongRecOn with
                      | ind n_20 ih_20 =>
                        intro v3_21 s0_22_rows s0_22_next s0_22_starts s0_22_size s0_22_nextSize s0_22_over h h0_1_m_23 h0_2_m_24 H locs hP hD hS ls hl
                        have h := hI_20 n_20 _ h
                        refine lv_iload_n hx hb dX6_sortByOne_112 rfl (lv_at hl 2 rfl) ?_
                        refine lv_aload_n hx hb dX6_sortByOne_113 rfl (lv_at hl 0 rfl) ?_
                        refine va_get (D := (dC, dI)) (ci := 6) (v := .int s0_22_size) (C := RX6) (T := TX6) (N := 6) hx hb hts (hinX6) hown hK hP 0 rfl rfl 3 (by decide) (hts (.fieldLink RX6 15 "TripleJoins$Table" "size" "I") (by decide +kernel)) (fun _ h9 => h9) rfl dX6_sortByOne_114 ?_
                        obtain ⟨ht_, hf_⟩ := h
                        refine lv_icmp_ge (tgt := 184) hx hb dX6_sortByOne_117 (by decide) (fun c_25 => ?_) (fun c_25 => ?_)
                        · have h := ht_ c_25
                          refine lv_aload_n hx hb dX6_sortByOne_184 rfl (lv_at hl 0 rfl) ?_
                          refine lv_aload_n hx hb dX6_sortByOne_185 rfl (lv_at hl 0 rfl) ?_
                          refine va_get (D := (dC, dI)) (ci := 6) (v := .int s0_22_size) (C := RX6) (T := TX6) (N := 6) hx hb hts (hinX6) hown hK hP 0 rfl rfl 3 (by decide) (hts (.fieldLink RX6 15 "TripleJoins$Table" "size" "I") (by decide +kernel)) (fun _ h9 => h9) rfl dX6_sortByOne_186 ?_
                          refine va_put (D := (dC, dI)) (ci := 6) (v := .int s0_22_size) (ty := .int) (C := RX6) (T := TX6) (N := 6) hx hb hts (hinX6) tyX6 tyX6_ok nmX6 hown hK hP hD hS 0 rfl rfl 4 (by decide) (hts (.fieldLink RX6 19 "TripleJoins$Table" "nextSize" "I") (by decide +kernel)) (fun _ h9 => h9) rfl (by decide +kernel) rfl rfl (Nat.le_of_ble_eq_true rfl) dX6_sortByOne_189 (fun H locs hP hD hS => ?_)
                          have hP : va_P (dC, dI) vwCl [(h0, .inr (6, [.ref h0_1_m_23, .ref h0_2_m_24, .ref h0_3, .int s0_22_size, .int s0_22_size, .int s0_22_over])), (h0_1_m_23, .inl (cI, n0, .inl s0_22_rows)), (h0_2_m_24, .inl (cI, n0, .inl s0_22_next)), (h0_3, .inl (cI, 64, .inl s0_22_starts))] _ := hP
                          have hD : va_D A [(h0, .inr (6, [.ref h0_1_m_23, .ref h0_2_m_24, .ref h0_3, .int s0_22_size, .int s0_22_size, .int s0_22_over])), (h0_1_m_23, .inl (cI, n0, .inl s0_22_rows)), (h0_2_m_24, .inl (cI, n0, .inl s0_22_next)), (h0_3, .inl (cI, 64, .inl s0_22_starts))] := hD
                          refine lv_aload_n hx hb dX6_sortByOne_192 rfl (lv_at hl 0 rfl) ?_
                          have hPc := hP.sub (ws' := [(h0, .inr (6, [.ref h0_1_m_23, .ref h0_2_m_24, .ref h0_3, .int s0_22_size, .int s0_22_size, .int s0_22_over])), (h0_1_m_23, .inl (cI, n0, .inl s0_22_rows)), (h0_2_m_24, .inl (cI, n0, .inl s0_22_next)), (h0_3, .inl (cI, 64, .inl s0_22_starts))]) [0, 1, 2, 3] rfl
                          have hDc := hD.sub (ws' := [(h0, .inr (6, [.ref h0_1_m_23, .ref h0_2_m_24, .ref h0_3, .int s0_22_size, .int s0_22_size, .int s0_22_over])), (h0_1_m_23, .inl (cI, n0, .inl s0_22_rows)), (h0_2_m_24, .inl (cI, n0, .inl s0_22_next)), (h0_3, .inl (cI, 64, .inl s0_22_starts))]) [0, 1, 2, 3] (by decide) rfl
                          have hFc := va_free (wc := [(h0, .inr (6, [.ref h0_1_m_23, .ref h0_2_m_24, .ref h0_3, .int s0_22_size, .int s0_22_size, .int s0_22_over])), (h0_1_m_23, .inl (cI, n0, .inl s0_22_rows)), (h0_2_m_24, .inl (cI, n0, .inl s0_22_next)), (h0_3, .inl (cI, 64, .inl s0_22_starts))]) hD hS hA [0, 1, 2, 3] rfl
                          refine va_callv (va_runV (As := []) (rest := []) ⟨hx, hb, hml, hown, hts⟩ (c_X6_turn l dC dI cI h0 h0_1_m_23 h0_2_m_24 h0_3 _ n0 (s0_22_rows, s0_22_next, s0_22_starts, s0_22_size, s0_22_size, s0_22_over) _ h) (cwV 0 hts gX6_sortByOne_X6_turn rfl rfl rfl (by decide +kernel) ⟨Nat.le_of_ble_eq_true rfl, Nat.le_of_ble_eq_true rfl⟩) (pb_V hPc hK hDc hN (ci := 6) (q0 := 0) rfl rfl) rfl rfl hl.1 rfl (lv_room (Nat.le_of_ble_eq_true rfl)) dX6_sortByOne_193 ⟨Nat.zero_le _, Nat.zero_le _⟩) hS (fun q _ h => hFc q h) hFc (fun u_26 t H locs ht hvm h hB hz1 hk1 hS => ?_)
                          obtain ⟨u_26_rows, u_26_next, u_26_starts, u_26_size, u_26_nextSize, u_26_over⟩ := u_26
                          obtain ⟨h0_1_m_28, h0_2_m_29, hP1, hD1⟩ := hB
                          rw [ht] at hP1
                          obtain ⟨hP, hD⟩ := cl_join (wr := []) (w1 := [(h0, .inr (6, [.ref h0_1_m_28, .ref h0_2_m_29, .ref h0_3, .int u_26_size, .int u_26_nextSize, .int u_26_over])), (h0_1_m_28, .inl (cI, n0, .inl u_26_rows)), (h0_2_m_29, .inl (cI, n0, .inl u_26_next)), (h0_3, .inl (cI, 64, .inl u_26_starts))]) (ws' := [(h0, .inr (6, [.ref h0_1_m_28, .ref h0_2_m_29, .ref h0_3, .int u_26_size, .int u_26_nextSize, .int u_26_over])), (h0_1_m_28, .inl (cI, n0, .inl u_26_rows)), (h0_2_m_29, .inl (cI, n0, .inl u_26_next)), (h0_3, .inl (cI, 64, .inl u_26_starts))]) hP hD [0, 1, 2, 3] [] [0, 1, 2, 3] rfl rfl (by decide) (by decide) (by decide) rfl hk1 hFc hP1 hD1
                          exact W.vret hx hb hr (fun t ht hW => ⟨⟨(u_26_rows, u_26_next, u_26_starts, u_26_size, u_26_nextSize, u_26_over), rfl, h, ⟨h0_1_m_28, h0_2_m_29, by rw [ht]; exact hP, hD⟩⟩, hS.F ht⟩) hS.2.2 dX6_sortByOne_196
                        · have h := hf_ c_25
                          refine lv_aload_n hx hb dX6_sortByOne_120 rfl (lv_at hl 0 rfl) ?_
                          refine va_get (D := (dC, dI)) (ci := 6) (v := .ref h0_1_m_23) (C := RX6) (T := TX6) (N := 6) hx hb hts (hinX6) hown hK hP 0 rfl rfl 0 (by decide) (hts (.fieldLink RX6 32 "TripleJoins$Table" "rows" "[I") (by decide +kernel)) (fun _ h9 => h9) rfl dX6_sortByOne_121 ?_
                          refine lv_iload_n hx hb dX6_sortByOne_124 rfl (lv_at hl 2 rfl) ?_
                          have hPc := hP.sub (ws' := [(h0_1_m_23, .inl (cI, n0, .inl s0_22_rows))]) [1] rfl
                          have hDc := hD.sub (ws' := [(h0_1_m_23, .inl (cI, n0, .inl s0_22_rows))]) [1] (by decide) rfl
                          have hFc := fr0 hA hS
                          refine va_calli (va_runSN (As := [.ref h0_1_m_23, .int v3_21]) (rest := []) ⟨hx, hb, hml, hown, hts⟩ (c_X7_at l dC dI cI h0_1_m_23 _ n0 s0_22_rows v3_21 _ h) ⟨va_cnB 2 hts gX6_sortByOne_X7_at_n38 rfl rfl rfl (nk_get hN 24 rfl) (hts (.initialized RX7) (by decide +kernel)) (by decide +kernel) ⟨Nat.le_of_ble_eq_true rfl, Nat.le_of_ble_eq_true rfl⟩, (hts (.static yX7_at) (by decide +kernel)), trivial⟩ (pb_S hPc hK hDc hN) rfl rfl hl.1 rfl (lv_room (Nat.le_of_ble_eq_true rfl)) dX6_sortByOne_125 ⟨Nat.zero_le _, Nat.zero_le _⟩) hS (fun q _ h => hFc q h) hFc (fun r_31 u_30 t H locs ht hvm h hB hz1 hk1 hS => ?_)
                          have hP := vaPk hP hk1
                          refine lv_iload_n hx hb dX6_sortByOne_128 rfl (lv_at hl 1 rfl) ?_
                          have hPc := hP.sub (ws' := []) [] rfl
                          have hDc := hD.sub (ws' := []) [] (by decide) rfl
                          have hFc := fr0 hA hS
                          refine va_calli (va_runSN (As := [.int r_31, .int v1]) (rest := []) ⟨hx, hb, hml, hown, hts⟩ (c_X7_cellOf l dC dI cI  _ r_31 v1 _ h) ⟨va_cnB 2 hts gX6_sortByOne_X7_cellOf_n63 rfl rfl rfl (nk_get hN 25 rfl) (hts (.initialized RX7) (by decide +kernel)) (by decide +kernel) ⟨Nat.le_of_ble_eq_true rfl, Nat.le_of_ble_eq_true rfl⟩, (hts (.static yX7_cellOf) (by decide +kernel)), trivial⟩ (pb_S hPc hK hDc hN) rfl rfl hl.1 rfl (lv_room (Nat.le_of_ble_eq_true rfl)) dX6_sortByOne_129 ⟨Nat.zero_le _, Nat.zero_le _⟩) hS (fun q _ h => hFc q h) hFc (fun r_33 u_32 t H locs ht hvm h hB hz1 hk1 hS => ?_)
                          have hP := vaPk hP hk1
                          refine lv_istore (lv' := [(4, .int r_33), (0, .ref h0), (1, .int v1), (3, .int v3_21)]) hx hb dX6_sortByOne_132 hl (by decide) rfl (fun ls hl => ?_)
                          refine lv_aload_n hx hb dX6_sortByOne_134 rfl (lv_at hl 1 rfl) ?_
                          refine va_get (D := (dC, dI)) (ci := 6) (v := .ref h0_2_m_24) (C := RX6) (T := TX6) (N := 6) hx hb hts (hinX6) hown hK hP 0 rfl rfl 1 (by decide) (hts (.fieldLink RX6 35 "TripleJoins$Table" "next" "[I") (by decide +kernel)) (fun _ h9 => h9) rfl dX6_sortByOne_135 ?_
                          refine lv_aload_n hx hb dX6_sortByOne_138 rfl (lv_at hl 1 rfl) ?_
                          refine va_get (D := (dC, dI)) (ci := 6) (v := .ref h0_3) (C := RX6) (T := TX6) (N := 6) hx hb hts (hinX6) hown hK hP 0 rfl rfl 2 (by decide) (hts (.fieldLink RX6 9 "TripleJoins$Table" "starts" "[I") (by decide +kernel)) (fun _ h9 => h9) rfl dX6_sortByOne_139 ?_
                          refine lv_iload hx hb dX6_sortByOne_142 (lv_at hl 0 rfl) ?_
                          have hPc := hP.sub (ws' := [(h0_3, .inl (cI, 64, .inl s0_22_starts))]) [3] rfl
                          have hDc := hD.sub (ws' := [(h0_3, .inl (cI, 64, .inl s0_22_starts))]) [3] (by decide) rfl
                          have hFc := fr0 hA hS
                          refine va_calli (va_runSN (As := [.ref h0_3, .int r_33]) (rest := [.ref h0_2_m_24]) ⟨hx, hb, hml, hown, hts⟩ (c_X7_at l dC dI cI h0_3 _ 64 s0_22_starts r_33 _ h) ⟨va_cnB 2 hts gX6_sortByOne_X7_at_n38 rfl rfl rfl (nk_get hN 24 rfl) (hts (.initialized RX7) (by decide +kernel)) (by decide +kernel) ⟨Nat.le_of_ble_eq_true rfl, Nat.le_of_ble_eq_true rfl⟩, (hts (.static yX7_at) (by decide +kernel)), trivial⟩ (pb_S hPc hK hDc hN) rfl rfl hl.1 rfl (lv_room (Nat.le_of_ble_eq_true rfl)) dX6_sortByOne_144 ⟨Nat.zero_le _, Nat.zero_le _⟩) hS (fun q _ h => hFc q h) hFc (fun r_35 u_34 t H locs ht hvm h hB hz1 hk1 hS => ?_)
                          have hP := vaPk hP hk1
                          refine lv_aload_n hx hb dX6_sortByOne_147 rfl (lv_at hl 1 rfl) ?_
                          refine va_get (D := (dC, dI)) (ci := 6) (v := .ref h0_1_m_23) (C := RX6) (T := TX6) (N := 6) hx hb hts (hinX6) hown hK hP 0 rfl rfl 0 (by decide) (hts (.fieldLink RX6 32 "TripleJoins$Table" "rows" "[I") (by decide +kernel)) (fun _ h9 => h9) rfl dX6_sortByOne_148 ?_
                          refine lv_iload_n hx hb dX6_sortByOne_151 rfl (lv_at hl 3 rfl) ?_
                          have hPc := hP.sub (ws' := [(h0_1_m_23, .inl (cI, n0, .inl s0_22_rows))]) [1] rfl
                          have hDc := hD.sub (ws' := [(h0_1_m_23, .inl (cI, n0, .inl s0_22_rows))]) [1] (by decide) rfl
                          have hFc := fr0 hA hS
                          refine va_calli (va_runSN (As := [.ref h0_1_m_23, .int v3_21]) (rest := [.int r_35, .ref h0_2_m_24]) ⟨hx, hb, hml, hown, hts⟩ (c_X7_at l dC dI cI h0_1_m_23 _ n0 s0_22_rows v3_21 _ h) ⟨va_cnB 2 hts gX6_sortByOne_X7_at_n38 rfl rfl rfl (nk_get hN 24 rfl) (hts (.initialized RX7) (by decide +kernel)) (by decide +kernel) ⟨Nat.le_of_ble_eq_true rfl, Nat.le_of_ble_eq_true rfl⟩, (hts (.static yX7_at) (by decide +kernel)), trivial⟩ (pb_S hPc hK hDc hN) rfl rfl hl.1 rfl (lv_room (Nat.le_of_ble_eq_true rfl)) dX6_sortByOne_152 ⟨Nat.zero_le _, Nat.zero_le _⟩) hS (fun q _ h => hFc q h) hFc (fun r_37 u_36 t H locs ht hvm h hB hz1 hk1 hS => ?_)
                          have hP := vaPk hP hk1
                          have hPc := hP.sub (ws' := [(h0_2_m_24, .inl (cI, n0, .inl s0_22_next))]) [2] rfl
                          have hDc := hD.sub (ws' := [(h0_2_m_24, .inl (cI, n0, .inl s0_22_next))]) [2] (by decide) rfl
                          have hFc := va_free (wc := [(h0_2_m_24, .inl (cI, n0, .inl s0_22_next))]) hD hS hA [2] rfl
                          refine va_callv (va_runSN (As := [.ref h0_2_m_24, .int r_35, .int r_37]) (rest := []) ⟨hx, hb, hml, hown, hts⟩ (c_X7_put l dC dI cI h0_2_m_24 _ n0 s0_22_next r_35 r_37 _ h) ⟨va_cnB 3 hts gX6_sortByOne_X7_put_n52 rfl rfl rfl (nk_get hN 22 rfl) (hts (.initialized RX7) (by decide +kernel)) (by decide +kernel) ⟨Nat.le_of_ble_eq_true rfl, Nat.le_of_ble_eq_true rfl⟩, (hts (.static yX7_put) (by decide +kernel)), trivial⟩ (pb_S hPc hK hDc hN) rfl rfl hl.1 rfl (lv_room (Nat.le_of_ble_eq_true rfl)) dX6_sortByOne_155 ⟨Nat.zero_le _, Nat.zero_le _⟩) hS (fun q _ h => hFc q h) hFc (fun u_38 t H locs ht hvm h hB hz1 hk1 hS => ?_)
                          obtain ⟨hP1, hD1⟩ := hB
                          rw [ht] at hP1
                          obtain ⟨hP, hD⟩ := cl_join (wr := [(h0, .inr (6, [.ref h0_1_m_23, .ref h0_2_m_24, .ref h0_3, .int s0_22_size, .int s0_22_nextSize, .int s0_22_over])), (h0_1_m_23, .inl (cI, n0, .inl s0_22_rows)), (h0_3, .inl (cI, 64, .inl s0_22_starts))]) (w1 := [(h0_2_m_24, .inl (cI, n0, .inl u_38))]) (ws' := [(h0, .inr (6, [.ref h0_1_m_23, .ref h0_2_m_24, .ref h0_3, .int s0_22_size, .int s0_22_nextSize, .int s0_22_over])), (h0_1_m_23, .inl (cI, n0, .inl s0_22_rows)), (h0_2_m_24, .inl (cI, n0, .inl u_38)), (h0_3, .inl (cI, 64, .inl s0_22_starts))]) hP hD [2] [0, 1, 3] [0, 1, 3, 2] rfl rfl (by decide) (by decide) (by decide) rfl hk1 hFc hP1 hD1
                          refine lv_aload_n hx hb dX6_sortByOne_158 rfl (lv_at hl 1 rfl) ?_
                          refine va_get (D := (dC, dI)) (ci := 6) (v := .ref h0_3) (C := RX6) (T := TX6) (N := 6) hx hb hts (hinX6) hown hK hP 0 rfl rfl 2 (by decide) (hts (.fieldLink RX6 9 "TripleJoins$Table" "starts" "[I") (by decide +kernel)) (fun _ h9 => h9) rfl dX6_sortByOne_159 ?_
                          refine lv_iload hx hb dX6_sortByOne_162 (lv_at hl 0 rfl) ?_
                          refine lv_aload_n hx hb dX6_sortByOne_164 rfl (lv_at hl 1 rfl) ?_
                          refine va_get (D := (dC, dI)) (ci := 6) (v := .ref h0_3) (C := RX6) (T := TX6) (N := 6) hx hb hts (hinX6) hown hK hP 0 rfl rfl 2 (by decide) (hts (.fieldLink RX6 9 "TripleJoins$Table" "starts" "[I") (by decide +kernel)) (fun _ h9 => h9) rfl dX6_sortByOne_165 ?_
                          refine lv_iload hx hb dX6_sortByOne_168 (lv_at hl 0 rfl) ?_
                          have hPc := hP.sub (ws' := [(h0_3, .inl (cI, 64, .inl s0_22_starts))]) [3] rfl
                          have hDc := hD.sub (ws' := [(h0_3, .inl (cI, 64, .inl s0_22_starts))]) [3] (by decide) rfl
                          have hFc := fr0 hA hS
                          refine va_calli (va_runSN (As := [.ref h0_3, .int r_33]) (rest := [.int r_33, .ref h0_3]) ⟨hx, hb, hml, hown, hts⟩ (c_X7_at l dC dI cI h0_3 _ 64 s0_22_starts r_33 _ h) ⟨va_cnB 2 hts gX6_sortByOne_X7_at_n38 rfl rfl rfl (nk_get hN 24 rfl) (hts (.initialized RX7) (by decide +kernel)) (by decide +kernel) ⟨Nat.le_of_ble_eq_true rfl, Nat.le_of_ble_eq_true rfl⟩, (hts (.static yX7_at) (by decide +kernel)), trivial⟩ (pb_S hPc hK hDc hN) rfl rfl hl.1 rfl (lv_room (Nat.le_of_ble_eq_true rfl)) dX6_sortByOne_170 ⟨Nat.zero_le _, Nat.zero_le _⟩) hS (fun q _ h => hFc q h) hFc (fun r_41 u_40 t H locs ht hvm h hB hz1 hk1 hS => ?_)
                          have hP := vaPk hP hk1
                          refine lv_iconst (v := (1 : Int32)) hx hb dX6_sortByOne_173 (by decide) ?_
                          refine lv_iadd hx hb dX6_sortByOne_174 ?_
                          have hPc := hP.sub (ws' := [(h0_3, .inl (cI, 64, .inl s0_22_starts))]) [3] rfl
                          have hDc := hD.sub (ws' := [(h0_3, .inl (cI, 64, .inl s0_22_starts))]) [3] (by decide) rfl
                          have hFc := va_free (wc := [(h0_3, .inl (cI, 64, .inl s0_22_starts))]) hD hS hA [3] rfl
                          refine va_callv (va_runSN (As := [.ref h0_3, .int r_33, .int (r_41 + (1 : Int32))]) (rest := []) ⟨hx, hb, hml, hown, hts⟩ (c_X7_put l dC dI cI h0_3 _ 64 s0_22_starts r_33 (r_41 + (1 : Int32)) _ h) ⟨va_cnB 3 hts gX6_sortByOne_X7_put_n52 rfl rfl rfl (nk_get hN 22 rfl) (hts (.initialized RX7) (by decide +kernel)) (by decide +kernel) ⟨Nat.le_of_ble_eq_true rfl, Nat.le_of_ble_eq_true rfl⟩, (hts (.static yX7_put) (by decide +kernel)), trivial⟩ (pb_S hPc hK hDc hN) rfl rfl hl.1 rfl (lv_room (Nat.le_of_ble_eq_true rfl)) dX6_sortByOne_175 ⟨Nat.zero_le _, Nat.zero_le _⟩) hS (fun q _ h => hFc q h) hFc (fun u_42 t H locs ht hvm h hB hz1 hk1 hS => ?_)
                          obtain ⟨hP1, hD1⟩ := hB
                          rw [ht] at hP1
                          obtain ⟨hP, hD⟩ := cl_join (wr := [(h0, .inr (6, [.ref h0_1_m_23, .ref h0_2_m_24, .ref h0_3, .int s0_22_size, .int s0_22_nextSize, .int s0_22_over])), (h0_1_m_23, .inl (cI, n0, .inl s0_22_rows)), (h0_2_m_24, .inl (cI, n0, .inl u_38))]) (w1 := [(h0_3, .inl (cI, 64, .inl u_42))]) (ws' := [(h0, .inr (6, [.ref h0_1_m_23, .ref h0_2_m_24, .ref h0_3, .int s0_22_size, .int s0_22_nextSize, .int s0_22_over])), (h0_1_m_23, .inl (cI, n0, .inl s0_22_rows)), (h0_2_m_24, .inl (cI, n0, .inl u_38)), (h0_3, .inl (cI, 64, .inl u_42))]) hP hD [3] [0, 1, 2] [0, 1, 2, 3] rfl rfl (by decide) (by decide) (by decide) rfl hk1 hFc hP1 hD1
                          refine lv_iinc (v := (v3_21 + (1 : Int32))) (lv' := [(3, .int (v3_21 + (1 : Int32))), (4, .int r_33), (0, .ref h0), (1, .int v1)]) hx hb dX6_sortByOne_178 hl (k := 3) rfl rfl (by decide) rfl (fun ls hl => ?_)
                          refine lv_goto (tgt := 112) hx hb dX6_sortByOne_181 (by decide) ?_
                          have hl : lv_has ls 5 [(0, .ref h0), (1, .int v1), (3, .int (v3_21 + (1 : Int32)))] := lv_sub hl [2, 3, 0] rfl
                          obtain ⟨k_44, hk_45, h⟩ := h
                          exact ih_20 k_44 hk_45 (v3_21 + (1 : Int32)) s0_22_rows u_38 u_42 s0_22_size s0_22_nextSize s0_22_over h h0_1_m_23 h0_2_m_24 _ _ hP hD hS _ hl
                    exact loop_20 n_20 (0 : Int32) s0_16_rows s0_16_next s0_16_starts s0_16_size s0_16_nextSize s0_16_over h h0_1_m_17 h0_2_m_18 _ _ hP hD hS _ hl
                  · have h := hf_ c_19
                    refine lv_aload_n hx hb dX6_sortByOne_80 rfl (lv_at hl 0 rfl) ?_
                    refine va_get (D := (dC, dI)) (ci := 6) (v := .ref h0_3) (C := RX6) (T := TX6) (N := 6) hx hb hts (hinX6) hown hK hP 0 rfl rfl 2 (by decide) (hts (.fieldLink RX6 9 "TripleJoins$Table" "starts" "[I") (by decide +kernel)) (fun _ h9 => h9) rfl dX6_sortByOne_81 ?_
                    refine lv_iload_n hx hb dX6_sortByOne_84 rfl (lv_at hl 3 rfl) ?_
                    have hPc := hP.sub (ws' := [(h0_3, .inl (cI, 64, .inl s0_16_starts))]) [3] rfl
                    have hDc := hD.sub (ws' := [(h0_3, .inl (cI, 64, .inl s0_16_starts))]) [3] (by decide) rfl
                    have hFc := fr0 hA hS
                    refine va_calli (va_runSN (As := [.ref h0_3, .int v3_15]) (rest := []) ⟨hx, hb, hml, hown, hts⟩ (c_X7_at l dC dI cI h0_3 _ 64 s0_16_starts v3_15 _ h) ⟨va_cnB 2 hts gX6_sortByOne_X7_at_n38 rfl rfl rfl (nk_get hN 24 rfl) (hts (.initialized RX7) (by decide +kernel)) (by decide +kernel) ⟨Nat.le_of_ble_eq_true rfl, Nat.le_of_ble_eq_true rfl⟩, (hts (.static yX7_at) (by decide +kernel)), trivial⟩ (pb_S hPc hK hDc hN) rfl rfl hl.1 rfl (lv_room (Nat.le_of_ble_eq_true rfl)) dX6_sortByOne_85 ⟨Nat.zero_le _, Nat.zero_le _⟩) hS (fun q _ h => hFc q h) hFc (fun r_47 u_46 t H locs ht hvm h hB hz1 hk1 hS => ?_)
                    have hP := vaPk hP hk1
                    refine lv_istore (lv' := [(4, .int r_47), (0, .ref h0), (1, .int v1), (2, .int v2_14), (3, .int v3_15)]) hx hb dX6_sortByOne_88 hl (by decide) rfl (fun ls hl => ?_)
                    refine lv_aload_n hx hb dX6_sortByOne_90 rfl (lv_at hl 1 rfl) ?_
                    refine va_get (D := (dC, dI)) (ci := 6) (v := .ref h0_3) (C := RX6) (T := TX6) (N := 6) hx hb hts (hinX6) hown hK hP 0 rfl rfl 2 (by decide) (hts (.fieldLink RX6 9 "TripleJoins$Table" "starts" "[I") (by decide +kernel)) (fun _ h9 => h9) rfl dX6_sortByOne_91 ?_
                    refine lv_iload_n hx hb dX6_sortByOne_94 rfl (lv_at hl 4 rfl) ?_
                    refine lv_iload_n hx hb dX6_sortByOne_95 rfl (lv_at hl 3 rfl) ?_
                    have hPc := hP.sub (ws' := [(h0_3, .inl (cI, 64, .inl s0_16_starts))]) [3] rfl
                    have hDc := hD.sub (ws' := [(h0_3, .inl (cI, 64, .inl s0_16_starts))]) [3] (by decide) rfl
                    have hFc := va_free (wc := [(h0_3, .inl (cI, 64, .inl s0_16_starts))]) hD hS hA [3] rfl
                    refine va_callv (va_runSN (As := [.ref h0_3, .int v3_15, .int v2_14]) (rest := []) ⟨hx, hb, hml, hown, hts⟩ (c_X7_put l dC dI cI h0_3 _ 64 s0_16_starts v3_15 v2_14 _ h) ⟨va_cnB 3 hts gX6_sortByOne_X7_put_n52 rfl rfl rfl (nk_get hN 22 rfl) (hts (.initialized RX7) (by decide +kernel)) (by decide +kernel) ⟨Nat.le_of_ble_eq_true rfl, Nat.le_of_ble_eq_true rfl⟩, (hts (.static yX7_put) (by decide +kernel)), trivial⟩ (pb_S hPc hK hDc hN) rfl rfl hl.1 rfl (lv_room (Nat.le_of_ble_eq_true rfl)) dX6_sortByOne_96 ⟨Nat.zero_le _, Nat.zero_le _⟩) hS (fun q _ h => hFc q h) hFc (fun u_48 t H locs ht hvm h hB hz1 hk1 hS => ?_)
                    obtain ⟨hP1, hD1⟩ := hB
                    rw [ht] at hP1
                    obtain ⟨hP, hD⟩ := cl_join (wr := [(h0, .inr (6, [.ref h0_1_m_17, .ref h0_2_m_18, .ref h0_3, .int s0_16_size, .int s0_16_nextSize, .int s0_16_over])), (h0_1_m_17, .inl (cI, n0, .inl s0_16_rows)), (h0_2_m_18, .inl (cI, n0, .inl s0_16_next))]) (w1 := [(h0_3, .inl (cI, 64, .inl u_48))]) (ws' := [(h0, .inr (6, [.ref h0_1_m_17, .ref h0_2_m_18, .ref h0_3, .int s0_16_size, .int s0_16_nextSize, .int s0_16_over])), (h0_1_m_17, .inl (cI, n0, .inl s0_16_rows)), (h0_2_m_18, .inl (cI, n0, .inl s0_16_next)), (h0_3, .inl (cI, 64, .inl u_48))]) hP hD [3] [0, 1, 2] [0, 1, 2, 3] rfl rfl (by decide) (by decide) (by decide) rfl hk1 hFc hP1 hD1
                    refine lv_iload_n hx hb dX6_sortByOne_99 rfl (lv_at hl 3 rfl) ?_
                    refine lv_iload hx hb dX6_sortByOne_100 (lv_at hl 0 rfl) ?_
                    refine lv_iadd hx hb dX6_sortByOne_102 ?_
                    refine lv_istore_n (lv' := [(2, .int (v2_14 + r_47)), (4, .int r_47), (0, .ref h0), (1, .int v1), (3, .int v3_15)]) hx hb dX6_sortByOne_103 rfl hl (by decide) rfl (fun ls hl => ?_)
                    refine lv_iinc (v := (v3_15 + (1 : Int32))) (lv' := [(3, .int (v3_15 + (1 : Int32))), (2, .int (v2_14 + r_47)), (4, .int r_47), (0, .ref h0), (1, .int v1)]) hx hb dX6_sortByOne_104 hl (k := 4) rfl rfl (by decide) rfl (fun ls hl => ?_)
                    refine lv_goto (tgt := 74) hx hb dX6_sortByOne_107 (by decide) ?_
                    have hl : lv_has ls 5 [(0, .ref h0), (1, .int v1), (2, .int (v2_14 + r_47)), (3, .int (v3_15 + (1 : Int32)))] := lv_sub hl [3, 4, 1, 0] rfl
                    obtain ⟨k_50, hk_51, h⟩ := h
                    exact ih_13 k_50 hk_51 (v2_14 + r_47) (v3_15 + (1 : Int32)) s0_16_rows s0_16_next u_48 s0_16_size s0_16_nextSize s0_16_over h h0_1_m_17 h0_2_m_18 _ _ hP hD hS _ hl
              exact loop_13 n_13 (0 : Int32) (0 : Int32) s0_9_rows s0_9_next s0_9_starts s0_9_size s0_9_nextSize s0_9_over h h0_1_m_10 h0_2_m_11 _ _ hP hD hS _ hl
            · have h := hf_ c_12
              refine lv_aload_n hx hb dX6_sortByOne_33 rfl (lv_at hl 0 rfl) ?_
              refine va_get (D := (dC, dI)) (ci := 6) (v := .ref h0_1_m_10) (C := RX6) (T := TX6) (N := 6) hx hb hts (hinX6) hown hK hP 0 rfl rfl 0 (by decide) (hts (.fieldLink RX6 32 "TripleJoins$Table" "rows" "[I") (by decide +kernel)) (fun _ h9 => h9) rfl dX6_sortByOne_34 ?_
              refine lv_iload_n hx hb dX6_sortByOne_37 rfl (lv_at hl 2 rfl) ?_
              have hPc := hP.sub (ws' := [(h0_1_m_10, .inl (cI, n0, .inl s0_9_rows))]) [1] rfl
              have hDc := hD.sub (ws' := [(h0_1_m_10, .inl (cI, n0, .inl s0_9_rows))]) [1] (by decide) rfl
              have hFc := fr0 hA hS
              refine va_calli (va_runSN (As := [.ref h0_1_m_10, .int v2_8]) (rest := []) ⟨hx, hb, hml, hown, hts⟩ (c_X7_at l dC dI cI h0_1_m_10 _ n0 s0_9_rows v2_8 _ h) ⟨va_cnB 2 hts gX6_sortByOne_X7_at_n38 rfl rfl rfl (nk_get hN 24 rfl) (hts (.initialized RX7) (by decide +kernel)) (by decide +kernel) ⟨Nat.le_of_ble_eq_true rfl, Nat.le_of_ble_eq_true rfl⟩, (hts (.static yX7_at) (by decide +kernel)), trivial⟩ (pb_S hPc hK hDc hN) rfl rfl hl.1 rfl (lv_room (Nat.le_of_ble_eq_true rfl)) dX6_sortByOne_38 ⟨Nat.zero_le _, Nat.zero_le _⟩) hS (fun q _ h => hFc q h) hFc (fun r_53 u_52 t H locs ht hvm h hB hz1 hk1 hS => ?_)
              have hP := vaPk hP hk1
              refine lv_iload_n hx hb dX6_sortByOne_41 rfl (lv_at hl 1 rfl) ?_
              have hPc := hP.sub (ws' := []) [] rfl
              have hDc := hD.sub (ws' := []) [] (by decide) rfl
              have hFc := fr0 hA hS
              refine va_calli (va_runSN (As := [.int r_53, .int v1]) (rest := []) ⟨hx, hb, hml, hown, hts⟩ (c_X7_cellOf l dC dI cI  _ r_53 v1 _ h) ⟨va_cnB 2 hts gX6_sortByOne_X7_cellOf_n63 rfl rfl rfl (nk_get hN 25 rfl) (hts (.initialized RX7) (by decide +kernel)) (by decide +kernel) ⟨Nat.le_of_ble_eq_true rfl, Nat.le_of_ble_eq_true rfl⟩, (hts (.static yX7_cellOf) (by decide +kernel)), trivial⟩ (pb_S hPc hK hDc hN) rfl rfl hl.1 rfl (lv_room (Nat.le_of_ble_eq_true rfl)) dX6_sortByOne_42 ⟨Nat.zero_le _, Nat.zero_le _⟩) hS (fun q _ h => hFc q h) hFc (fun r_55 u_54 t H locs ht hvm h hB hz1 hk1 hS => ?_)
              have hP := vaPk hP hk1
              refine lv_istore_n (lv' := [(3, .int r_55), (0, .ref h0), (1, .int v1), (2, .int v2_8)]) hx hb dX6_sortByOne_45 rfl hl (by decide) rfl (fun ls hl => ?_)
              refine lv_aload_n hx hb dX6_sortByOne_46 rfl (lv_at hl 1 rfl) ?_
              refine va_get (D := (dC, dI)) (ci := 6) (v := .ref h0_3) (C := RX6) (T := TX6) (N := 6) hx hb hts (hinX6) hown hK hP 0 rfl rfl 2 (by decide) (hts (.fieldLink RX6 9 "TripleJoins$Table" "starts" "[I") (by decide +kernel)) (fun _ h9 => h9) rfl dX6_sortByOne_47 ?_
              refine lv_iload_n hx hb dX6_sortByOne_50 rfl (lv_at hl 0 rfl) ?_
              refine lv_aload_n hx hb dX6_sortByOne_51 rfl (lv_at hl 1 rfl) ?_
              refine va_get (D := (dC, dI)) (ci := 6) (v := .ref h0_3) (C := RX6) (T := TX6) (N := 6) hx hb hts (hinX6) hown hK hP 0 rfl rfl 2 (by decide) (hts (.fieldLink RX6 9 "TripleJoins$Table" "starts" "[I") (by decide +kernel)) (fun _ h9 => h9) rfl dX6_sortByOne_52 ?_
              refine lv_iload_n hx hb dX6_sortByOne_55 rfl (lv_at hl 0 rfl) ?_
              have hPc := hP.sub (ws' := [(h0_3, .inl (cI, 64, .inl s0_9_starts))]) [3] rfl
              have hDc := hD.sub (ws' := [(h0_3, .inl (cI, 64, .inl s0_9_starts))]) [3] (by decide) rfl
              have hFc := fr0 hA hS
              refine va_calli (va_runSN (As := [.ref h0_3, .int r_55]) (rest := [.int r_55, .ref h0_3]) ⟨hx, hb, hml, hown, hts⟩ (c_X7_at l dC dI cI h0_3 _ 64 s0_9_starts r_55 _ h) ⟨va_cnB 2 hts gX6_sortByOne_X7_at_n38 rfl rfl rfl (nk_get hN 24 rfl) (hts (.initialized RX7) (by decide +kernel)) (by decide +kernel) ⟨Nat.le_of_ble_eq_true rfl, Nat.le_of_ble_eq_true rfl⟩, (hts (.static yX7_at) (by decide +kernel)), trivial⟩ (pb_S hPc hK hDc hN) rfl rfl hl.1 rfl (lv_room (Nat.le_of_ble_eq_true rfl)) dX6_sortByOne_56 ⟨Nat.zero_le _, Nat.zero_le _⟩) hS (fun q _ h => hFc q h) hFc (fun r_57 u_56 t H locs ht hvm h hB hz1 hk1 hS => ?_)
              have hP := vaPk hP hk1
              refine lv_iconst (v := (1 : Int32)) hx hb dX6_sortByOne_59 (by decide) ?_
              refine lv_iadd hx hb dX6_sortByOne_60 ?_
              have hPc := hP.sub (ws' := [(h0_3, .inl (cI, 64, .inl s0_9_starts))]) [3] rfl
              have hDc := hD.sub (ws' := [(h0_3, .inl (cI, 64, .inl s0_9_starts))]) [3] (by decide) rfl
              have hFc := va_free (wc := [(h0_3, .inl (cI, 64, .inl s0_9_starts))]) hD hS hA [3] rfl
              refine va_callv (va_runSN (As := [.ref h0_3, .int r_55, .int (r_57 + (1 : Int32))]) (rest := []) ⟨hx, hb, hml, hown, hts⟩ (c_X7_put l dC dI cI h0_3 _ 64 s0_9_starts r_55 (r_57 + (1 : Int32)) _ h) ⟨va_cnB 3 hts gX6_sortByOne_X7_put_n52 rfl rfl rfl (nk_get hN 22 rfl) (hts (.initialized RX7) (by decide +kernel)) (by decide +kernel) ⟨Nat.le_of_ble_eq_true rfl, Nat.le_of_ble_eq_true rfl⟩, (hts (.static yX7_put) (by decide +kernel)), trivial⟩ (pb_S hPc hK hDc hN) rfl rfl hl.1 rfl (lv_room (Nat.le_of_ble_eq_true rfl)) dX6_sortByOne_61 ⟨Nat.zero_le _, Nat.zero_le _⟩) hS (fun q _ h => hFc q h) hFc (fun u_58 t H locs ht hvm h hB hz1 hk1 hS => ?_)
              obtain ⟨hP1, hD1⟩ := hB
              rw [ht] at hP1
              obtain ⟨hP, hD⟩ := cl_join (wr := [(h0, .inr (6, [.ref h0_1_m_10, .ref h0_2_m_11, .ref h0_3, .int s0_9_size, .int s0_9_nextSize, .int s0_9_over])), (h0_1_m_10, .inl (cI, n0, .inl s0_9_rows)), (h0_2_m_11, .inl (cI, n0, .inl s0_9_next))]) (w1 := [(h0_3, .inl (cI, 64, .inl u_58))]) (ws' := [(h0, .inr (6, [.ref h0_1_m_10, .ref h0_2_m_11, .ref h0_3, .int s0_9_size, .int s0_9_nextSize, .int s0_9_over])), (h0_1_m_10, .inl (cI, n0, .inl s0_9_rows)), (h0_2_m_11, .inl (cI, n0, .inl s0_9_next)), (h0_3, .inl (cI, 64, .inl u_58))]) hP hD [3] [0, 1, 2] [0, 1, 2, 3] rfl rfl (by decide) (by decide) (by decide) rfl hk1 hFc hP1 hD1
              refine lv_iinc (v := (v2_8 + (1 : Int32))) (lv' := [(2, .int (v2_8 + (1 : Int32))), (3, .int r_55), (0, .ref h0), (1, .int v1)]) hx hb dX6_sortByOne_64 hl (k := 3) rfl rfl (by decide) rfl (fun ls hl => ?_)
              refine lv_goto (tgt := 25) hx hb dX6_sortByOne_67 (by decide) ?_
              have hl : lv_has ls 5 [(0, .ref h0), (1, .int v1), (2, .int (v2_8 + (1 : Int32)))] := lv_sub hl [2, 3, 0] rfl
              obtain ⟨k_60, hk_61, h⟩ := h
              exact ih_7 k_60 hk_61 (v2_8 + (1 : Int32)) s0_9_rows s0_9_next u_58 s0_9_size s0_9_nextSize s0_9_over h h0_1_m_10 h0_2_m_11 _ _ hP hD hS _ hl
        exact loop_7 n_7 (0 : Int32) s0_3_rows s0_3_next s0_3_starts s0_3_size s0_3_nextSize s0_3_over h h0_1_m_4 h0_2_m_5 _ _ hP hD hS _ hl
      · have h := hf_ c_6
        refine lv_aload_n hx hb dX6_sortByOne_8 rfl (lv_at hl 0 rfl) ?_
        refine va_get (D := (dC, dI)) (ci := 6) (v := .ref h0_3) (C := RX6) (T := TX6) (N := 6) hx hb hts (hinX6) hown hK hP 0 rfl rfl 2 (by decide) (hts (.fieldLink RX6 9 "TripleJoins$Table" "starts" "[I") (by decide +kernel)) (fun _ h9 => h9) rfl dX6_sortByOne_9 ?_
        refine lv_iload_n hx hb dX6_sortByOne_12 rfl (lv_at hl 2 rfl) ?_
        refine lv_iconst (v := (0 : Int32)) hx hb dX6_sortByOne_13 (by decide) ?_
        have hPc := hP.sub (ws' := [(h0_3, .inl (cI, 64, .inl s0_3_starts))]) [3] rfl
        have hDc := hD.sub (ws' := [(h0_3, .inl (cI, 64, .inl s0_3_starts))]) [3] (by decide) rfl
        have hFc := va_free (wc := [(h0_3, .inl (cI, 64, .inl s0_3_starts))]) hD hS hA [3] rfl
        refine va_callv (va_runSN (As := [.ref h0_3, .int v2_2, .int (0 : Int32)]) (rest := []) ⟨hx, hb, hml, hown, hts⟩ (c_X7_put l dC dI cI h0_3 _ 64 s0_3_starts v2_2 (0 : Int32) _ h) ⟨va_cnB 3 hts gX6_sortByOne_X7_put_n52 rfl rfl rfl (nk_get hN 22 rfl) (hts (.initialized RX7) (by decide +kernel)) (by decide +kernel) ⟨Nat.le_of_ble_eq_true rfl, Nat.le_of_ble_eq_true rfl⟩, (hts (.static yX7_put) (by decide +kernel)), trivial⟩ (pb_S hPc hK hDc hN) rfl rfl hl.1 rfl (lv_room (Nat.le_of_ble_eq_true rfl)) dX6_sortByOne_14 ⟨Nat.zero_le _, Nat.zero_le _⟩) hS (fun q _ h => hFc q h) hFc (fun u_62 t H locs ht hvm h hB hz1 hk1 hS => ?_)
        obtain ⟨hP1, hD1⟩ := hB
        rw [ht] at hP1
        obtain ⟨hP, hD⟩ := cl_join (wr := [(h0, .inr (6, [.ref h0_1_m_4, .ref h0_2_m_5, .ref h0_3, .int s0_3_size, .int s0_3_nextSize, .int s0_3_over])), (h0_1_m_4, .inl (cI, n0, .inl s0_3_rows)), (h0_2_m_5, .inl (cI, n0, .inl s0_3_next))]) (w1 := [(h0_3, .inl (cI, 64, .inl u_62))]) (ws' := [(h0, .inr (6, [.ref h0_1_m_4, .ref h0_2_m_5, .ref h0_3, .int s0_3_size, .int s0_3_nextSize, .int s0_3_over])), (h0_1_m_4, .inl (cI, n0, .inl s0_3_rows)), (h0_2_m_5, .inl (cI, n0, .inl s0_3_next)), (h0_3, .inl (cI, 64, .inl u_62))]) hP hD [3] [0, 1, 2] [0, 1, 2, 3] rfl rfl (by decide) (by decide) (by decide) rfl hk1 hFc hP1 hD1
        refine lv_iinc (v := (v2_2 + (1 : Int32))) (lv' := [(2, .int (v2_2 + (1 : Int32))), (0, .ref h0), (1, .int v1)]) hx hb dX6_sortByOne_17 hl (k := 2) rfl rfl (by decide) rfl (fun ls hl => ?_)
        refine lv_goto (tgt := 2) hx hb dX6_sortByOne_20 (by decide) ?_
        have hl : lv_has ls 5 [(0, .ref h0), (1, .int v1), (2, .int (v2_2 + (1 : Int32)))] := lv_sub hl [1, 2, 0] rfl
        obtain ⟨k_64, hk_65, h⟩ := h
        exact ih_1 k_64 hk_65 (v2_2 + (1 : Int32)) s0_3_rows s0_3_next u_62 s0_3_size s0_3_nextSize s0_3_over h h0_1_m_4 h0_2_m_5 _ _ hP hD hS _ hl
  exact loop_1 n_1 (0 : Int32) s0_rows s0_next s0_starts s0_size s0_nextSize s0_over h h0_1 h0_2 _ _ hP hD hS _ hl
abbrev Q_X6_sort (dC : Nat → ClassId) (dI : Nat → Nat → Nat) (cI : ClassId) (h0 h0_1 h0_2 h0_3 : Nat) (n0 : Nat) (s0 : TabS) (A : Nat → Prop) (post : TabS → Prop) : Array Value → State → Outcome → State → Prop := va_Qv post (fun (u : TabS) (t : State) => ∃ h0_1_m h0_2_m : Nat, va_P (dC, dI) vwCl [(h0, .inr (6, [.ref h0_1_m, .ref h0_2_m, .ref h0_3, .int u.size, .int u.nextSize, .int u.over])), (h0_1_m, .inl (cI, n0, .inl u.rows)), (h0_2_m, .inl (cI, n0, .inl u.next_)), (h0_3, .inl (cI, 64, .inl u.starts))] t.heap ∧ va_D A [(h0, .inr (6, [.ref h0_1_m, .ref h0_2_m, .ref h0_3, .int u.size, .int u.nextSize, .int u.over])), (h0_1_m, .inl (cI, n0, .inl u.rows)), (h0_2_m, .inl (cI, n0, .inl u.next_)), (h0_3, .inl (cI, 64, .inl u.starts))]) A
abbrev rm_X6_sort : Room := { frames := 3, cells := 0, slots := 0, locals := 65 }
set_option maxHeartbeats 4000000 in
set_option maxRecDepth 100000 in
theorem c_X6_sort (l : Launch) (dC : Nat → ClassId) (dI : Nat → Nat → Nat) (cI : ClassId) (h0 h0_1 h0_2 h0_3 : Nat) (sz : Nat) (n0 : Nat) (s0 : TabS) (v1 : Int32) (post : TabS → Prop) (h : P_X6_sort n0 s0 v1 post) : Met l yX6_sort wsX6_sort rm_X6_sort (va_Pc [.ref h0, .int v1] (cpre (dC, dI) [(cI, .int)] [(h0, .inr (6, [.ref h0_1, .ref h0_2, .ref h0_3, .int s0.size, .int s0.nextSize, .int s0.over])), (h0_1, .inl (cI, n0, .inl s0.rows)), (h0_2, .inl (cI, n0, .inl s0.next_)), (h0_3, .inl (cI, 64, .inl s0.starts))] sz)) (Q_X6_sort dC dI cI h0 h0_1 h0_2 h0_3 n0 s0 (va_A [(h0, .inr (6, [.ref h0_1, .ref h0_2, .ref h0_3, .int s0.size, .int s0.nextSize, .int s0.over])), (h0_1, .inl (cI, n0, .inl s0.rows)), (h0_2, .inl (cI, n0, .inl s0.next_)), (h0_3, .inl (cI, 64, .inl s0.starts))] sz) post) 0 0 (va_A [(h0, .inr (6, [.ref h0_1, .ref h0_2, .ref h0_3, .int s0.size, .int s0.nextSize, .int s0.over])), (h0_1, .inl (cI, n0, .inl s0.rows)), (h0_2, .inl (cI, n0, .inl s0.next_)), (h0_3, .inl (cI, 64, .inl s0.starts))] sz) := by
  refine Met.ofW (cc := cX6_sort) (maxL := 3) (ret := none) (by decide) rfl ?_
  intro p e s m args below meth c s₁ B hml hv
  obtain ⟨rfl, hsz, hP, hK, hD0, hN⟩ := hv
  have hx := B.exec
  have hb := B.bytes
  have hr := B.returns
  have hts := atoms_spec (ws := wsX6_sort) B.pre
  have hown : s.vm.findClass RX6 = some m.cls := findClass_of_methodNamed B.named
  have hlocks := B.notSynchronized
  subst hsz
  have hD := hD0.self (sz := s.heap.size)
  generalize hAe : va_A [(h0, .inr (6, [.ref h0_1, .ref h0_2, .ref h0_3, .int s0.size, .int s0.nextSize, .int s0.over])), (h0_1, .inl (cI, n0, .inl s0.rows)), (h0_2, .inl (cI, n0, .inl s0.next_)), (h0_3, .inl (cI, 64, .inl s0.starts))] s.heap.size = A at hD ⊢
  have hA : ∀ q : Nat, s.heap.size ≤ q → A q := fun q h => by rw [← hAe]; exact Or.inr h
  clear hAe hD0
  obtain ⟨s0_rows, s0_next, s0_starts, s0_size, s0_nextSize, s0_over⟩ := s0
  have hS : va_S A s.heap s.heap [] := va_S.rf
  have hP : va_P (dC, dI) vwCl [(h0, .inr (6, [.ref h0_1, .ref h0_2, .ref h0_3, .int s0_size, .int s0_nextSize, .int s0_over])), (h0_1, .inl (cI, n0, .inl s0_rows)), (h0_2, .inl (cI, n0, .inl s0_next)), (h0_3, .inl (cI, 64, .inl s0_starts))] s.heap := hP
  have hD : va_D A [(h0, .inr (6, [.ref h0_1, .ref h0_2, .ref h0_3, .int s0_size, .int s0_nextSize, .int s0_over])), (h0_1, .inl (cI, n0, .inl s0_rows)), (h0_2, .inl (cI, n0, .inl s0_next)), (h0_3, .inl (cI, 64, .inl s0_starts))] := hD
  have hl := lv_entry ([.ref h0, .int v1]) (n := 3) (Nat.le_of_ble_eq_true rfl)
  rw [lg_entry_eq]
  generalize (lg_sl ([.ref h0, .int v1]) ++ List.replicate (3 - (lg_sl ([.ref h0, .int v1])).length) Slot.unset).toArray = ls at hl ⊢
  have hl : lv_has ls 3 [(0, .ref h0), (1, .int v1)] := hl
  refine lv_iconst (v := (3 : Int32)) hx hb dX6_sort_0 (by decide) ?_
  refine lv_istore_n (lv' := [(2, .int (3 : Int32)), (0, .ref h0), (1, .int v1)]) hx hb dX6_sort_1 rfl hl (by decide) rfl (fun ls hl => ?_)
  have hl : lv_has ls 3 [(0, .ref h0), (1, .int v1), (2, .int (3 : Int32))] := lv_sub hl [1, 2, 0] rfl
  obtain ⟨I_1, hI_1, n_1, h⟩ := h
  have loop_1 : ∀ (n_1 : Nat) (v2_2 : Int32) (s0_3_rows : Nat → Int32) (s0_3_next : Nat → Int32) (s0_3_starts : Nat → Int32) (s0_3_size : Int32) (s0_3_nextSize : Int32) (s0_3_over : Int32) (h : I_1 n_1 (v2_2, (s0_3_rows, s0_3_next, s0_3_starts, s0_3_size, s0_3_nextSize, s0_3_over))) (h0_1_m_4 : Nat) (h0_2_m_5 : Nat) (H : Heap) (locs : List Loc) (hP : va_P (dC, dI) vwCl [(h0, .inr (6, [.ref h0_1_m_4, .ref h0_2_m_5, .ref h0_3, .int s0_3_size, .int s0_3_nextSize, .int s0_3_over])), (h0_1_m_4, .inl (cI, n0, .inl s0_3_rows)), (h0_2_m_5, .inl (cI, n0, .inl s0_3_next)), (h0_3, .inl (cI, 64, .inl s0_3_starts))] H) (hD : va_D A [(h0, .inr (6, [.ref h0_1_m_4, .ref h0_2_m_5, .ref h0_3, .int s0_3_size, .int s0_3_nextSize, .int s0_3_over])), (h0_1_m_4, .inl (cI, n0, .inl s0_3_rows)), (h0_2_m_5, .inl (cI, n0, .inl s0_3_next)), (h0_3, .inl (cI, 64, .inl s0_3_starts))]) (hS : va_S A s.heap H locs) (ls : Array Slot) (hl : lv_has ls 3 [(0, .ref h0), (1, .int v1), (2, .int v2_2)]), W p l e rm_X6_sort s m ([.ref h0, .int v1] : List Value).toArray below meth c H locs 0 0 (MQ below (Q_X6_sort dC dI cI h0 h0_1 h0_2 h0_3 n0 (s0_rows, s0_next, s0_starts, s0_size, s0_nextSize, s0_over) A post) (([.ref h0, .int v1] : List Value).toArray) s 0 0 A) (F0 m 2 ls []) := by
    intro n_1
    induction n_1 using Nat.strongRecOn with
    | ind n_1 ih_1 =>
      intro v2_2 s0_3_rows s0_3_next s0_3_starts s0_3_size s0_3_nextSize s0_3_over h h0_1_m_4 h0_2_m_5 H locs hP hD hS ls hl
      have h := hI_1 n_1 _ h
      refine lv_iload_n hx hb dX6_sort_2 rfl (lv_at hl 2 rfl) ?_
      obtain ⟨ht_, hf_⟩ := h
      refine lv_if_lt (tgt := 25) hx hb dX6_sort_3 (by decide) (fun c_6 => ?_) (fun c_6 => ?_)
      · have h := ht_ c_6
        exact W.vret hx hb hr (fun t ht hW => ⟨⟨(s0_3_rows, s0_3_next, s0_3_starts, s0_3_size, s0_3_nextSize, s0_3_over), rfl, h, ⟨h0_1_m_4, h0_2_m_5, by rw [ht]; exact hP, hD⟩⟩, hS.F ht⟩) hS.2.2 dX6_sort_25
      · have h := hf_ c_6
        refine lv_iload_n hx hb dX6_sort_6 rfl (lv_at hl 1 rfl) ?_
        refine lv_iload_n hx hb dX6_sort_7 rfl (lv_at hl 2 rfl) ?_
        have hPc := hP.sub (ws' := []) [] rfl
        have hDc := hD.sub (ws' := []) [] (by decide) rfl
        have hFc := fr0 hA hS
        refine va_calli (va_runSN (As := [.int v1, .int v2_2]) (rest := []) ⟨hx, hb, hml, hown, hts⟩ (c_X7_hasBit l dC dI cI  _ v1 v2_2 _ h) ⟨va_cnB 2 hts gX6_sort_X7_hasBit_n56 rfl rfl rfl (nk_get hN 26 rfl) (hts (.initialized RX7) (by decide +kernel)) (by decide +kernel) ⟨Nat.le_of_ble_eq_true rfl, Nat.le_of_ble_eq_true rfl⟩, (hts (.static yX7_hasBit) (by decide +kernel)), trivial⟩ (pb_S hPc hK hDc hN) rfl rfl hl.1 rfl (lv_room (Nat.le_of_ble_eq_true rfl)) dX6_sort_8 ⟨Nat.zero_le _, Nat.zero_le _⟩) hS (fun q _ h => hFc q h) hFc (fun r_8 u_7 t H locs ht hvm h hB hz1 hk1 hS => ?_)
        have hP := vaPk hP hk1
        obtain ⟨ht_, hf_⟩ := h
        refine lv_if_eq (tgt := 19) hx hb dX6_sort_11 (by decide) (fun c_9 => ?_) (fun c_9 => ?_)
        · have h := ht_ c_9
          refine lv_iinc (v := (v2_2 + (-1 : Int32))) (lv' := [(2, .int (v2_2 + (-1 : Int32))), (0, .ref h0), (1, .int v1)]) hx hb dX6_sort_19 hl (k := 2) rfl rfl (by decide) rfl (fun ls hl => ?_)
          refine lv_goto (tgt := 2) hx hb dX6_sort_22 (by decide) ?_
          have hl : lv_has ls 3 [(0, .ref h0), (1, .int v1), (2, .int (v2_2 + (-1 : Int32)))] := lv_sub hl [1, 2, 0] rfl
          obtain ⟨k_10, hk_11, h⟩ := h
          exact ih_1 k_10 hk_11 (v2_2 + (-1 : Int32)) s0_3_rows s0_3_next s0_3_starts s0_3_size s0_3_nextSize s0_3_over h h0_1_m_4 h0_2_m_5 _ _ hP hD hS _ hl
        · have h := hf_ c_9
          refine lv_aload_n hx hb dX6_sort_14 rfl (lv_at hl 0 rfl) ?_
          refine lv_iload_n hx hb dX6_sort_15 rfl (lv_at hl 2 rfl) ?_
          have hPc := hP.sub (ws' := [(h0, .inr (6, [.ref h0_1_m_4, .ref h0_2_m_5, .ref h0_3, .int s0_3_size, .int s0_3_nextSize, .int s0_3_over])), (h0_1_m_4, .inl (cI, n0, .inl s0_3_rows)), (h0_2_m_5, .inl (cI, n0, .inl s0_3_next)), (h0_3, .inl (cI, 64, .inl s0_3_starts))]) [0, 1, 2, 3] rfl
          have hDc := hD.sub (ws' := [(h0, .inr (6, [.ref h0_1_m_4, .ref h0_2_m_5, .ref h0_3, .int s0_3_size, .int s0_3_nextSize, .int s0_3_over])), (h0_1_m_4, .inl (cI, n0, .inl s0_3_rows)), (h0_2_m_5, .inl (cI, n0, .inl s0_3_next)), (h0_3, .inl (cI, 64, .inl s0_3_starts))]) [0, 1, 2, 3] (by decide) rfl
          have hFc := va_free (wc := [(h0, .inr (6, [.ref h0_1_m_4, .ref h0_2_m_5, .ref h0_3, .int s0_3_size, .int s0_3_nextSize, .int s0_3_over])), (h0_1_m_4, .inl (cI, n0, .inl s0_3_rows)), (h0_2_m_5, .inl (cI, n0, .inl s0_3_next)), (h0_3, .inl (cI, 64, .inl s0_3_starts))]) hD hS hA [0, 1, 2, 3] rfl
          refine va_callv (va_runV (As := [.int v2_2]) (rest := []) ⟨hx, hb, hml, hown, hts⟩ (c_X6_sortByOne l dC dI cI h0 h0_1_m_4 h0_2_m_5 h0_3 _ n0 (s0_3_rows, s0_3_next, s0_3_starts, s0_3_size, s0_3_nextSize, s0_3_over) v2_2 _ h) (cwV 1 hts gX6_sort_X6_sortByOne rfl rfl rfl (by decide +kernel) ⟨Nat.le_of_ble_eq_true rfl, Nat.le_of_ble_eq_true rfl⟩) (pb_V hPc hK hDc hN (ci := 6) (q0 := 0) rfl rfl) rfl rfl hl.1 rfl (lv_room (Nat.le_of_ble_eq_true rfl)) dX6_sort_16 ⟨Nat.zero_le _, Nat.zero_le _⟩) hS (fun q _ h => hFc q h) hFc (fun u_12 t H locs ht hvm h hB hz1 hk1 hS => ?_)
          obtain ⟨u_12_rows, u_12_next, u_12_starts, u_12_size, u_12_nextSize, u_12_over⟩ := u_12
          obtain ⟨h0_1_m_14, h0_2_m_15, hP1, hD1⟩ := hB
          rw [ht] at hP1
          obtain ⟨hP, hD⟩ := cl_join (wr := []) (w1 := [(h0, .inr (6, [.ref h0_1_m_14, .ref h0_2_m_15, .ref h0_3, .int u_12_size, .int u_12_nextSize, .int u_12_over])), (h0_1_m_14, .inl (cI, n0, .inl u_12_rows)), (h0_2_m_15, .inl (cI, n0, .inl u_12_next)), (h0_3, .inl (cI, 64, .inl u_12_starts))]) (ws' := [(h0, .inr (6, [.ref h0_1_m_14, .ref h0_2_m_15, .ref h0_3, .int u_12_size, .int u_12_nextSize, .int u_12_over])), (h0_1_m_14, .inl (cI, n0, .inl u_12_rows)), (h0_2_m_15, .inl (cI, n0, .inl u_12_next)), (h0_3, .inl (cI, 64, .inl u_12_starts))]) hP hD [0, 1, 2, 3] [] [0, 1, 2, 3] rfl rfl (by decide) (by decide) (by decide) rfl hk1 hFc hP1 hD1
          refine lv_iinc (v := (v2_2 + (-1 : Int32))) (lv' := [(2, .int (v2_2 + (-1 : Int32))), (0, .ref h0), (1, .int v1)]) hx hb dX6_sort_19 hl (k := 2) rfl rfl (by decide) rfl (fun ls hl => ?_)
          refine lv_goto (tgt := 2) hx hb dX6_sort_22 (by decide) ?_
          have hl : lv_has ls 3 [(0, .ref h0), (1, .int v1), (2, .int (v2_2 + (-1 : Int32)))] := lv_sub hl [1, 2, 0] rfl
          obtain ⟨k_16, hk_17, h⟩ := h
          exact ih_1 k_16 hk_17 (v2_2 + (-1 : Int32)) u_12_rows u_12_next u_12_starts u_12_size u_12_nextSize u_12_over h h0_1_m_14 h0_2_m_15 _ _ hP hD hS _ hl
  exact loop_1 n_1 (3 : Int32) s0_rows s0_next s0_starts s0_size s0_nextSize s0_over h h0_1 h0_2 _ _ hP hD hS _ hl
abbrev Q_X6_size (dC : Nat → ClassId) (dI : Nat → Nat → Nat) (cI : ClassId) (h0 h0_1 h0_2 h0_3 : Nat) (n0 : Nat) (s0 : TabS) (A : Nat → Prop) (post : Int32 → Prop) : Array Value → State → Outcome → State → Prop := va_Qi (fun (r : Int32) (_ : Unit) => post r) (fun _ _ => True) A
abbrev rm_X6_size : Room := { frames := 0, cells := 0, slots := 0, locals := 0 }
set_option maxHeartbeats 4000000 in
set_option maxRecDepth 100000 in
theorem c_X6_size (l : Launch) (dC : Nat → ClassId) (dI : Nat → Nat → Nat) (cI : ClassId) (h0 h0_1 h0_2 h0_3 : Nat) (sz : Nat) (n0 : Nat) (s0 : TabS) (post : Int32 → Prop) (h : P_X6_size n0 s0 post) : Met l yX6_size wsX6_size rm_X6_size (va_Pc [.ref h0] (cpre (dC, dI) [(cI, .int)] [(h0, .inr (6, [.ref h0_1, .ref h0_2, .ref h0_3, .int s0.size, .int s0.nextSize, .int s0.over])), (h0_1, .inl (cI, n0, .inl s0.rows)), (h0_2, .inl (cI, n0, .inl s0.next_)), (h0_3, .inl (cI, 64, .inl s0.starts))] sz)) (Q_X6_size dC dI cI h0 h0_1 h0_2 h0_3 n0 s0 (va_A [] sz) post) 0 0 (va_A [] sz) := by
  refine Met.ofW (cc := cX6_size) (maxL := 1) (ret := (some .int)) (by decide) rfl ?_
  intro p e s m args below meth c s₁ B hml hv
  obtain ⟨rfl, hsz, hP, hK, hD0, hN⟩ := hv
  have hx := B.exec
  have hb := B.bytes
  have hr := B.returns
  have hts := atoms_spec (ws := wsX6_size) B.pre
  have hown : s.vm.findClass RX6 = some m.cls := findClass_of_methodNamed B.named
  have hlocks := B.notSynchronized
  subst hsz
  have hD := hD0
  generalize hAe : va_A [] s.heap.size = A
  have hA : ∀ q : Nat, s.heap.size ≤ q → A q := fun q h => by rw [← hAe]; exact Or.inr h
  clear hAe hD0
  obtain ⟨s0_rows, s0_next, s0_starts, s0_size, s0_nextSize, s0_over⟩ := s0
  have hS : va_S A s.heap s.heap [] := va_S.rf
  have hP : va_P (dC, dI) vwCl [(h0, .inr (6, [.ref h0_1, .ref h0_2, .ref h0_3, .int s0_size, .int s0_nextSize, .int s0_over])), (h0_1, .inl (cI, n0, .inl s0_rows)), (h0_2, .inl (cI, n0, .inl s0_next)), (h0_3, .inl (cI, 64, .inl s0_starts))] s.heap := hP
  have hD : va_D (fun _ : Nat => True) [(h0, .inr (6, [.ref h0_1, .ref h0_2, .ref h0_3, .int s0_size, .int s0_nextSize, .int s0_over])), (h0_1, .inl (cI, n0, .inl s0_rows)), (h0_2, .inl (cI, n0, .inl s0_next)), (h0_3, .inl (cI, 64, .inl s0_starts))] := hD
  have hl := lv_entry ([.ref h0]) (n := 1) (Nat.le_of_ble_eq_true rfl)
  rw [lg_entry_eq]
  generalize (lg_sl ([.ref h0]) ++ List.replicate (1 - (lg_sl ([.ref h0])).length) Slot.unset).toArray = ls at hl ⊢
  have hl : lv_has ls 1 [(0, .ref h0)] := hl
  have hinX6 : ∀ w ∈ u_ws RX6 TX6 6, w ∈ wsX6_size := by decide +kernel
  refine lv_aload_n hx hb dX6_size_0 rfl (lv_at hl 0 rfl) ?_
  refine va_get (D := (dC, dI)) (ci := 6) (v := .int s0_size) (C := RX6) (T := TX6) (N := 6) hx hb hts (hinX6) hown hK hP 0 rfl rfl 3 (by decide) (hts (.fieldLink RX6 15 "TripleJoins$Table" "size" "I") (by decide +kernel)) (fun _ h9 => h9) rfl dX6_size_1 ?_
  exact W.iret (v := s0_size) hx hb hr (fun t ht hW => ⟨⟨s0_size, (), rfl, h, trivial⟩, hS.F ht⟩) hS.2.2 dX6_size_4
abbrev Q_X6_isOver (dC : Nat → ClassId) (dI : Nat → Nat → Nat) (cI : ClassId) (h0 h0_1 h0_2 h0_3 : Nat) (n0 : Nat) (s0 : TabS) (A : Nat → Prop) (post : Int32 → Prop) : Array Value → State → Outcome → State → Prop := va_Qi (fun (r : Int32) (_ : Unit) => post r) (fun _ _ => True) A
abbrev rm_X6_isOver : Room := { frames := 0, cells := 0, slots := 0, locals := 0 }
set_option maxHeartbeats 4000000 in
set_option maxRecDepth 100000 in
theorem c_X6_isOver (l : Launch) (dC : Nat → ClassId) (dI : Nat → Nat → Nat) (cI : ClassId) (h0 h0_1 h0_2 h0_3 : Nat) (sz : Nat) (n0 : Nat) (s0 : TabS) (post : Int32 → Prop) (h : P_X6_isOver n0 s0 post) : Met l yX6_isOver wsX6_isOver rm_X6_isOver (va_Pc [.ref h0] (cpre (dC, dI) [(cI, .int)] [(h0, .inr (6, [.ref h0_1, .ref h0_2, .ref h0_3, .int s0.size, .int s0.nextSize, .int s0.over])), (h0_1, .inl (cI, n0, .inl s0.rows)), (h0_2, .inl (cI, n0, .inl s0.next_)), (h0_3, .inl (cI, 64, .inl s0.starts))] sz)) (Q_X6_isOver dC dI cI h0 h0_1 h0_2 h0_3 n0 s0 (va_A [] sz) post) 0 0 (va_A [] sz) := by
  refine Met.ofW (cc := cX6_isOver) (maxL := 1) (ret := (some .boolean)) (by decide) rfl ?_
  intro p e s m args below meth c s₁ B hml hv
  obtain ⟨rfl, hsz, hP, hK, hD0, hN⟩ := hv
  have hx := B.exec
  have hb := B.bytes
  have hr := B.returns
  have hts := atoms_spec (ws := wsX6_isOver) B.pre
  have hown : s.vm.findClass RX6 = some m.cls := findClass_of_methodNamed B.named
  have hlocks := B.notSynchronized
  subst hsz
  have hD := hD0
  generalize hAe : va_A [] s.heap.size = A
  have hA : ∀ q : Nat, s.heap.size ≤ q → A q := fun q h => by rw [← hAe]; exact Or.inr h
  clear hAe hD0
  obtain ⟨s0_rows, s0_next, s0_starts, s0_size, s0_nextSize, s0_over⟩ := s0
  have hS : va_S A s.heap s.heap [] := va_S.rf
  have hP : va_P (dC, dI) vwCl [(h0, .inr (6, [.ref h0_1, .ref h0_2, .ref h0_3, .int s0_size, .int s0_nextSize, .int s0_over])), (h0_1, .inl (cI, n0, .inl s0_rows)), (h0_2, .inl (cI, n0, .inl s0_next)), (h0_3, .inl (cI, 64, .inl s0_starts))] s.heap := hP
  have hD : va_D (fun _ : Nat => True) [(h0, .inr (6, [.ref h0_1, .ref h0_2, .ref h0_3, .int s0_size, .int s0_nextSize, .int s0_over])), (h0_1, .inl (cI, n0, .inl s0_rows)), (h0_2, .inl (cI, n0, .inl s0_next)), (h0_3, .inl (cI, 64, .inl s0_starts))] := hD
  have hl := lv_entry ([.ref h0]) (n := 1) (Nat.le_of_ble_eq_true rfl)
  rw [lg_entry_eq]
  generalize (lg_sl ([.ref h0]) ++ List.replicate (1 - (lg_sl ([.ref h0])).length) Slot.unset).toArray = ls at hl ⊢
  have hl : lv_has ls 1 [(0, .ref h0)] := hl
  have hinX6 : ∀ w ∈ u_ws RX6 TX6 6, w ∈ wsX6_isOver := by decide +kernel
  refine lv_aload_n hx hb dX6_isOver_0 rfl (lv_at hl 0 rfl) ?_
  refine va_get (D := (dC, dI)) (ci := 6) (v := .int s0_over) (C := RX6) (T := TX6) (N := 6) hx hb hts (hinX6) hown hK hP 0 rfl rfl 5 (by decide) (hts (.fieldLink RX6 22 "TripleJoins$Table" "over" "Z") (by decide +kernel)) (fun _ h9 => h9) rfl dX6_isOver_1 ?_
  obtain ⟨hbo, h⟩ := h
  exact W.zret (v := s0_over) hx hb hr hbo (fun t ht hW => ⟨⟨s0_over, (), rfl, h, trivial⟩, hS.F ht⟩) hS.2.2 dX6_isOver_4
abbrev Q_X6_row (dC : Nat → ClassId) (dI : Nat → Nat → Nat) (cI : ClassId) (h0 h0_1 h0_2 h0_3 : Nat) (n0 : Nat) (s0 : TabS) (A : Nat → Prop) (post : Int32 → Prop) : Array Value → State → Outcome → State → Prop := va_Qi (fun (r : Int32) (_ : Unit) => post r) (fun _ _ => True) A
abbrev rm_X6_row : Room := { frames := 1, cells := 0, slots := 0, locals := 21 }
set_option maxHeartbeats 4000000 in
set_option maxRecDepth 100000 in
theorem c_X6_row (l : Launch) (dC : Nat → ClassId) (dI : Nat → Nat → Nat) (cI : ClassId) (h0 h0_1 h0_2 h0_3 : Nat) (sz : Nat) (n0 : Nat) (s0 : TabS) (v1 : Int32) (post : Int32 → Prop) (h : P_X6_row n0 s0 v1 post) : Met l yX6_row wsX6_row rm_X6_row (va_Pc [.ref h0, .int v1] (cpre (dC, dI) [(cI, .int)] [(h0, .inr (6, [.ref h0_1, .ref h0_2, .ref h0_3, .int s0.size, .int s0.nextSize, .int s0.over])), (h0_1, .inl (cI, n0, .inl s0.rows)), (h0_2, .inl (cI, n0, .inl s0.next_)), (h0_3, .inl (cI, 64, .inl s0.starts))] sz)) (Q_X6_row dC dI cI h0 h0_1 h0_2 h0_3 n0 s0 (va_A [] sz) post) 0 0 (va_A [] sz) := by
  refine Met.ofW (cc := cX6_row) (maxL := 2) (ret := (some .int)) (by decide) rfl ?_
  intro p e s m args below meth c s₁ B hml hv
  obtain ⟨rfl, hsz, hP, hK, hD0, hN⟩ := hv
  have hx := B.exec
  have hb := B.bytes
  have hr := B.returns
  have hts := atoms_spec (ws := wsX6_row) B.pre
  have hown : s.vm.findClass RX6 = some m.cls := findClass_of_methodNamed B.named
  have hlocks := B.notSynchronized
  subst hsz
  have hD := hD0
  generalize hAe : va_A [] s.heap.size = A
  have hA : ∀ q : Nat, s.heap.size ≤ q → A q := fun q h => by rw [← hAe]; exact Or.inr h
  clear hAe hD0
  obtain ⟨s0_rows, s0_next, s0_starts, s0_size, s0_nextSize, s0_over⟩ := s0
  have hS : va_S A s.heap s.heap [] := va_S.rf
  have hP : va_P (dC, dI) vwCl [(h0, .inr (6, [.ref h0_1, .ref h0_2, .ref h0_3, .int s0_size, .int s0_nextSize, .int s0_over])), (h0_1, .inl (cI, n0, .inl s0_rows)), (h0_2, .inl (cI, n0, .inl s0_next)), (h0_3, .inl (cI, 64, .inl s0_starts))] s.heap := hP
  have hD : va_D (fun _ : Nat => True) [(h0, .inr (6, [.ref h0_1, .ref h0_2, .ref h0_3, .int s0_size, .int s0_nextSize, .int s0_over])), (h0_1, .inl (cI, n0, .inl s0_rows)), (h0_2, .inl (cI, n0, .inl s0_next)), (h0_3, .inl (cI, 64, .inl s0_starts))] := hD
  have hl := lv_entry ([.ref h0, .int v1]) (n := 2) (Nat.le_of_ble_eq_true rfl)
  rw [lg_entry_eq]
  generalize (lg_sl ([.ref h0, .int v1]) ++ List.replicate (2 - (lg_sl ([.ref h0, .int v1])).length) Slot.unset).toArray = ls at hl ⊢
  have hl : lv_has ls 2 [(0, .ref h0), (1, .int v1)] := hl
  have hinX6 : ∀ w ∈ u_ws RX6 TX6 6, w ∈ wsX6_row := by decide +kernel
  refine lv_aload_n hx hb dX6_row_0 rfl (lv_at hl 0 rfl) ?_
  refine va_get (D := (dC, dI)) (ci := 6) (v := .ref h0_1) (C := RX6) (T := TX6) (N := 6) hx hb hts (hinX6) hown hK hP 0 rfl rfl 0 (by decide) (hts (.fieldLink RX6 32 "TripleJoins$Table" "rows" "[I") (by decide +kernel)) (fun _ h9 => h9) rfl dX6_row_1 ?_
  refine lv_iload_n hx hb dX6_row_4 rfl (lv_at hl 1 rfl) ?_
  have hPc := hP.sub (ws' := [(h0_1, .inl (cI, n0, .inl s0_rows))]) [1] rfl
  have hDc := hD.sub (ws' := [(h0_1, .inl (cI, n0, .inl s0_rows))]) [1] (by decide) rfl
  have hFc := fr0 hA hS
  refine va_calli (va_runSN (As := [.ref h0_1, .int v1]) (rest := []) ⟨hx, hb, hml, hown, hts⟩ (c_X7_at l dC dI cI h0_1 _ n0 s0_rows v1 _ h) ⟨va_cnB 2 hts gX6_row_X7_at_n38 rfl rfl rfl (nk_get hN 24 rfl) (hts (.initialized RX7) (by decide +kernel)) (by decide +kernel) ⟨Nat.le_of_ble_eq_true rfl, Nat.le_of_ble_eq_true rfl⟩, (hts (.static yX7_at) (by decide +kernel)), trivial⟩ (pb_S hPc hK hDc hN) rfl rfl hl.1 rfl (lv_room (Nat.le_of_ble_eq_true rfl)) dX6_row_5 ⟨Nat.zero_le _, Nat.zero_le _⟩) hS (fun q _ h => hFc q h) hFc (fun r_2 u_1 t H locs ht hvm h hB hz1 hk1 hS => ?_)
  have hP := vaPk hP hk1
  exact W.iret (v := r_2) hx hb hr (fun t ht hW => ⟨⟨r_2, (), rfl, h, trivial⟩, hS.F ht⟩) hS.2.2 dX6_row_8
