abbrev Q_X5_init (dC : Nat → ClassId) (dI : Nat → Nat → Nat) (cI : ClassId) (h0 : Nat) (A : Nat → Prop) (post : StoS → Prop) : Array Value → State → Outcome → State → Prop := va_Qv post (fun (u : StoS) (t : State) => ∃ q_1 q_2 q_3 q_4 q_5 q_6 : Nat, va_P (dC, dI) vwCl [(h0, .inr (5, [.ref q_1, .ref q_3, .ref q_5])), (q_1, .inr (4, [.ref q_2, .int u.bySubject.size])), (q_2, .inl (cI, 60, .inl u.bySubject.keys)), (q_3, .inr (4, [.ref q_4, .int u.byPredicate.size])), (q_4, .inl (cI, 60, .inl u.byPredicate.keys)), (q_5, .inr (4, [.ref q_6, .int u.byObject.size])), (q_6, .inl (cI, 60, .inl u.byObject.keys))] t.heap ∧ va_D A [(h0, .inr (5, [.ref q_1, .ref q_3, .ref q_5])), (q_1, .inr (4, [.ref q_2, .int u.bySubject.size])), (q_2, .inl (cI, 60, .inl u.bySubject.keys)), (q_3, .inr (4, [.ref q_4, .int u.byPredicate.size])), (q_4, .inl (cI, 60, .inl u.byPredicate.keys)), (q_5, .inr (4, [.ref q_6, .int u.byObject.size])), (q_6, .inl (cI, 60, .inl u.byObject.keys))]) A
abbrev rm_X5_init : Room := { frames := 2, cells := 6, slots := 186, locals := 32 }
set_option maxHeartbeats 4000000 in
set_option maxRecDepth 100000 in
theorem c_X5_init (l : Launch) (dC : Nat → ClassId) (dI : Nat → Nat → Nat) (cI : ClassId) (h0 : Nat) (sz : Nat) (post : StoS → Prop) (h : P_X5_init post) : Met l yX5_init wsX5_init rm_X5_init (va_Pc [.ref h0] (cpre (dC, dI) [(cI, .int)] [(h0, .inr (5, [.null, .null, .null]))] sz)) (Q_X5_init dC dI cI h0 (va_A [(h0, .inr (5, [.null, .null, .null]))] sz) post) 6 (186) (va_A [(h0, .inr (5, [.null, .null, .null]))] sz) := by
  refine Met.ofW (cc := cX5_init) (maxL := 1) (ret := none) (by decide) rfl ?_
  intro p e s m args below meth c s₁ B hml hv
  obtain ⟨rfl, hsz, hP, hK, hD0, hN⟩ := hv
  have hx := B.exec
  have hb := B.bytes
  have hr := B.returns
  have hts := atoms_spec (ws := wsX5_init) B.pre
  have hown : s.vm.findClass RX5 = some m.cls := findClass_of_methodNamed B.named
  have hlocks := B.notSynchronized
  have hmn : meth.name = "<init>" := (name_of_methodNamed B.named B.method).1
  subst hsz
  have hD := hD0.self (sz := s.heap.size)
  generalize hAe : va_A [(h0, .inr (5, [.null, .null, .null]))] s.heap.size = A at hD ⊢
  have hA : ∀ q : Nat, s.heap.size ≤ q → A q := fun q h => by rw [← hAe]; exact Or.inr h
  clear hAe hD0
  have hS : va_S A s.heap s.heap [] := va_S.rf
  have hl := lv_entry ([.ref h0]) (n := 1) (Nat.le_of_ble_eq_true rfl)
  rw [lg_entry_eq]
  generalize (lg_sl ([.ref h0]) ++ List.replicate (1 - (lg_sl ([.ref h0])).length) Slot.unset).toArray = ls at hl ⊢
  have hl : lv_has ls 1 [(0, .ref h0)] := hl
  have hinX4 : ∀ w ∈ u_ws RX4 TX4 2, w ∈ wsX5_init := by decide +kernel
  have hinX5 : ∀ w ∈ u_ws RX5 TX5 3, w ∈ wsX5_init := by decide +kernel
  refine lv_aload_n hx hb dX5_init_0 rfl (lv_at hl 0 rfl) ?_
  refine W.objInit hx hb hown (hts (.methodLink RX5 3 objectInit) (by decide +kernel)) (hts (.instanceMethod objectInit) (by decide +kernel)) (hts _ (List.mem_of_getElem? (i := 3) rfl)) rfl (by rw [hml]; exact hl.1) rfl dX5_init_1 (Nat.le_of_ble_eq_true rfl) (Nat.le_of_ble_eq_true rfl) ?_
  refine W.eq (g2 := F0 m 4 ls []) rfl ?_
  refine lv_aload_n hx hb dX5_init_4 rfl (lv_at hl 0 rfl) ?_
  refine va_new (ci := 4) (fs := [.null, .int (0 : Int32)]) (C := RX4) (T := TX4) (N := 2) hx hb hts (hinX4) tyX4 tyX4_ok hown (hts (.classLink RX5 9 RX4) (by decide +kernel)) (hts (.instantiable RX4 2) (by decide +kernel)) (hts (.initialized RX4) (by decide +kernel)) hK hP hD hS hA rfl (fun j hj => by rcases (show j = 0 ∨ j = 1 by omega) with rfl | rfl <;> rfl) (by decide +kernel) (by decide +kernel) dX5_init_5 (fun q_1 H hP hD hS => ?_)
  refine W.widen (k := 1) (n := 2) (by omega) (by omega) ?_
  have hP : va_P (dC, dI) vwCl [(h0, .inr (5, [.null, .null, .null])), (q_1, .inr (4, [.null, .int (0 : Int32)]))] _ := hP
  have hD : va_D A [(h0, .inr (5, [.null, .null, .null])), (q_1, .inr (4, [.null, .int (0 : Int32)]))] := hD
  refine lv_dup hx hb dX5_init_8 rfl ?_
  have hPc := hP.sub (ws' := [(q_1, .inr (4, [.null, .int (0 : Int32)]))]) [1] rfl
  have hDc := hD.sub (ws' := [(q_1, .inr (4, [.null, .int (0 : Int32)]))]) [1] (by decide) rfl
  have hFc := va_free (wc := [(q_1, .inr (4, [.null, .int (0 : Int32)]))]) hD hS hA [1] rfl
  have hkc : 1 + 1 ≤ 6 := by decide +kernel
  have hks : 2 + 60 ≤ 186 := by decide +kernel
  refine va_callv (va_runIN (As := []) (rest := [.ref q_1, .ref h0]) ⟨hx, hb, hml, hown, hts⟩ (c_X4_init l dC dI cI q_1 _  _ h) ⟨va_cnB 0 hts gX5_init_X4_init_n11 rfl rfl rfl (nk_get hN 0 rfl) (hts (.initialized RX4) (by decide +kernel)) (by decide +kernel) ⟨Nat.le_of_ble_eq_true rfl, Nat.le_of_ble_eq_true rfl⟩, rfl, (hts (.instanceMethod yX4_init) (by decide +kernel))⟩ (pb_I hPc hK hDc hN) rfl rfl hl.1 rfl (lv_room (Nat.le_of_ble_eq_true rfl)) dX5_init_9 ⟨hkc, hks⟩) hS (fun q _ h => hFc q h) hFc (fun u_2 t H locs ht hvm h hB hz1 hk1 hS => ?_)
  obtain ⟨u_2_keys, u_2_size⟩ := u_2
  obtain ⟨q_4, hP1, hD1⟩ := hB
  rw [ht] at hP1
  obtain ⟨hP, hD⟩ := va_join (wr := [(h0, .inr (5, [.null, .null, .null]))]) (w1 := [(q_1, .inr (4, [.ref q_4, .int u_2_size])), (q_4, .inl (cI, 60, .inl u_2_keys))]) hP hD [1] [0] rfl rfl (by decide) (by decide) hk1 hFc hP1 hD1
  have hP : va_P (dC, dI) vwCl [(h0, .inr (5, [.null, .null, .null])), (q_1, .inr (4, [.ref q_4, .int u_2_size])), (q_4, .inl (cI, 60, .inl u_2_keys))] _ := hP
  have hD : va_D A [(h0, .inr (5, [.null, .null, .null])), (q_1, .inr (4, [.ref q_4, .int u_2_size])), (q_4, .inl (cI, 60, .inl u_2_keys))] := hD
  refine W.widen (k := 2) (n := 62) (by omega) (by omega) ?_
  refine va_putF (D := (dC, dI)) (ci := 5) (v := .ref q_1) (ty := .object "TripleJoins$Sorted") (C := RX5) (T := TX5) (N := 3) hx hb hts (hinX5) tyX5 tyX5_ok nmX5 hown hK hP hD hS 0 rfl rfl 0 (by decide) (hts (.fieldLink RX5 12 "TripleJoins$Store" "bySubject" "LTripleJoins$Sorted;") (by decide +kernel)) (fun _ h9 => h9) rfl hmn rfl (by decide +kernel) rfl rfl (Nat.le_of_ble_eq_true rfl) dX5_init_12 (fun H locs hP hD hS => ?_)
  have hP : va_P (dC, dI) vwCl [(h0, .inr (5, [.ref q_1, .null, .null])), (q_1, .inr (4, [.ref q_4, .int u_2_size])), (q_4, .inl (cI, 60, .inl u_2_keys))] _ := hP
  have hD : va_D A [(h0, .inr (5, [.ref q_1, .null, .null])), (q_1, .inr (4, [.ref q_4, .int u_2_size])), (q_4, .inl (cI, 60, .inl u_2_keys))] := hD
  refine lv_aload_n hx hb dX5_init_15 rfl (lv_at hl 0 rfl) ?_
  refine va_new (ci := 4) (fs := [.null, .int (0 : Int32)]) (C := RX4) (T := TX4) (N := 2) hx hb hts (hinX4) tyX4 tyX4_ok hown (hts (.classLink RX5 9 RX4) (by decide +kernel)) (hts (.instantiable RX4 2) (by decide +kernel)) (hts (.initialized RX4) (by decide +kernel)) hK hP hD hS hA rfl (fun j hj => by rcases (show j = 0 ∨ j = 1 by omega) with rfl | rfl <;> rfl) (by decide +kernel) (by decide +kernel) dX5_init_16 (fun q_5 H hP hD hS => ?_)
  refine W.widen (k := 3) (n := 64) (by omega) (by omega) ?_
  have hP : va_P (dC, dI) vwCl [(h0, .inr (5, [.ref q_1, .null, .null])), (q_1, .inr (4, [.ref q_4, .int u_2_size])), (q_4, .inl (cI, 60, .inl u_2_keys)), (q_5, .inr (4, [.null, .int (0 : Int32)]))] _ := hP
  have hD : va_D A [(h0, .inr (5, [.ref q_1, .null, .null])), (q_1, .inr (4, [.ref q_4, .int u_2_size])), (q_4, .inl (cI, 60, .inl u_2_keys)), (q_5, .inr (4, [.null, .int (0 : Int32)]))] := hD
  refine lv_dup hx hb dX5_init_19 rfl ?_
  have hPc := hP.sub (ws' := [(q_5, .inr (4, [.null, .int (0 : Int32)]))]) [3] rfl
  have hDc := hD.sub (ws' := [(q_5, .inr (4, [.null, .int (0 : Int32)]))]) [3] (by decide) rfl
  have hFc := va_free (wc := [(q_5, .inr (4, [.null, .int (0 : Int32)]))]) hD hS hA [3] rfl
  have hkc : 3 + 1 ≤ 6 := by decide +kernel
  have hks : 64 + 60 ≤ 186 := by decide +kernel
  refine va_callv (va_runIN (As := []) (rest := [.ref q_5, .ref h0]) ⟨hx, hb, hml, hown, hts⟩ (c_X4_init l dC dI cI q_5 _  _ h) ⟨va_cnB 0 hts gX5_init_X4_init_n11 rfl rfl rfl (nk_get hN 0 rfl) (hts (.initialized RX4) (by decide +kernel)) (by decide +kernel) ⟨Nat.le_of_ble_eq_true rfl, Nat.le_of_ble_eq_true rfl⟩, rfl, (hts (.instanceMethod yX4_init) (by decide +kernel))⟩ (pb_I hPc hK hDc hN) rfl rfl hl.1 rfl (lv_room (Nat.le_of_ble_eq_true rfl)) dX5_init_20 ⟨hkc, hks⟩) hS (fun q _ h => hFc q h) hFc (fun u_6 t H locs ht hvm h hB hz1 hk1 hS => ?_)
  obtain ⟨u_6_keys, u_6_size⟩ := u_6
  obtain ⟨q_8, hP1, hD1⟩ := hB
  rw [ht] at hP1
  obtain ⟨hP, hD⟩ := va_join (wr := [(h0, .inr (5, [.ref q_1, .null, .null])), (q_1, .inr (4, [.ref q_4, .int u_2_size])), (q_4, .inl (cI, 60, .inl u_2_keys))]) (w1 := [(q_5, .inr (4, [.ref q_8, .int u_6_size])), (q_8, .inl (cI, 60, .inl u_6_keys))]) hP hD [3] [0, 1, 2] rfl rfl (by decide) (by decide) hk1 hFc hP1 hD1
  have hP : va_P (dC, dI) vwCl [(h0, .inr (5, [.ref q_1, .null, .null])), (q_1, .inr (4, [.ref q_4, .int u_2_size])), (q_4, .inl (cI, 60, .inl u_2_keys)), (q_5, .inr (4, [.ref q_8, .int u_6_size])), (q_8, .inl (cI, 60, .inl u_6_keys))] _ := hP
  have hD : va_D A [(h0, .inr (5, [.ref q_1, .null, .null])), (q_1, .inr (4, [.ref q_4, .int u_2_size])), (q_4, .inl (cI, 60, .inl u_2_keys)), (q_5, .inr (4, [.ref q_8, .int u_6_size])), (q_8, .inl (cI, 60, .inl u_6_keys))] := hD
  refine W.widen (k := 4) (n := 124) (by omega) (by omega) ?_
  refine va_putF (D := (dC, dI)) (ci := 5) (v := .ref q_5) (ty := .object "TripleJoins$Sorted") (C := RX5) (T := TX5) (N := 3) hx hb hts (hinX5) tyX5 tyX5_ok nmX5 hown hK hP hD hS 0 rfl rfl 1 (by decide) (hts (.fieldLink RX5 18 "TripleJoins$Store" "byPredicate" "LTripleJoins$Sorted;") (by decide +kernel)) (fun _ h9 => h9) rfl hmn rfl (by decide +kernel) rfl rfl (Nat.le_of_ble_eq_true rfl) dX5_init_23 (fun H locs hP hD hS => ?_)
  have hP : va_P (dC, dI) vwCl [(h0, .inr (5, [.ref q_1, .ref q_5, .null])), (q_1, .inr (4, [.ref q_4, .int u_2_size])), (q_4, .inl (cI, 60, .inl u_2_keys)), (q_5, .inr (4, [.ref q_8, .int u_6_size])), (q_8, .inl (cI, 60, .inl u_6_keys))] _ := hP
  have hD : va_D A [(h0, .inr (5, [.ref q_1, .ref q_5, .null])), (q_1, .inr (4, [.ref q_4, .int u_2_size])), (q_4, .inl (cI, 60, .inl u_2_keys)), (q_5, .inr (4, [.ref q_8, .int u_6_size])), (q_8, .inl (cI, 60, .inl u_6_keys))] := hD
  refine lv_aload_n hx hb dX5_init_26 rfl (lv_at hl 0 rfl) ?_
  refine va_new (ci := 4) (fs := [.null, .int (0 : Int32)]) (C := RX4) (T := TX4) (N := 2) hx hb hts (hinX4) tyX4 tyX4_ok hown (hts (.classLink RX5 9 RX4) (by decide +kernel)) (hts (.instantiable RX4 2) (by decide +kernel)) (hts (.initialized RX4) (by decide +kernel)) hK hP hD hS hA rfl (fun j hj => by rcases (show j = 0 ∨ j = 1 by omega) with rfl | rfl <;> rfl) (by decide +kernel) (by decide +kernel) dX5_init_27 (fun q_9 H hP hD hS => ?_)
  refine W.widen (k := 5) (n := 126) (by omega) (by omega) ?_
  have hP : va_P (dC, dI) vwCl [(h0, .inr (5, [.ref q_1, .ref q_5, .null])), (q_1, .inr (4, [.ref q_4, .int u_2_size])), (q_4, .inl (cI, 60, .inl u_2_keys)), (q_5, .inr (4, [.ref q_8, .int u_6_size])), (q_8, .inl (cI, 60, .inl u_6_keys)), (q_9, .inr (4, [.null, .int (0 : Int32)]))] _ := hP
  have hD : va_D A [(h0, .inr (5, [.ref q_1, .ref q_5, .null])), (q_1, .inr (4, [.ref q_4, .int u_2_size])), (q_4, .inl (cI, 60, .inl u_2_keys)), (q_5, .inr (4, [.ref q_8, .int u_6_size])), (q_8, .inl (cI, 60, .inl u_6_keys)), (q_9, .inr (4, [.null, .int (0 : Int32)]))] := hD
  refine lv_dup hx hb dX5_init_30 rfl ?_
  have hPc := hP.sub (ws' := [(q_9, .inr (4, [.null, .int (0 : Int32)]))]) [5] rfl
  have hDc := hD.sub (ws' := [(q_9, .inr (4, [.null, .int (0 : Int32)]))]) [5] (by decide) rfl
  have hFc := va_free (wc := [(q_9, .inr (4, [.null, .int (0 : Int32)]))]) hD hS hA [5] rfl
  have hkc : 5 + 1 ≤ 6 := by decide +kernel
  have hks : 126 + 60 ≤ 186 := by decide +kernel
  refine va_callv (va_runIN (As := []) (rest := [.ref q_9, .ref h0]) ⟨hx, hb, hml, hown, hts⟩ (c_X4_init l dC dI cI q_9 _  _ h) ⟨va_cnB 0 hts gX5_init_X4_init_n11 rfl rfl rfl (nk_get hN 0 rfl) (hts (.initialized RX4) (by decide +kernel)) (by decide +kernel) ⟨Nat.le_of_ble_eq_true rfl, Nat.le_of_ble_eq_true rfl⟩, rfl, (hts (.instanceMethod yX4_init) (by decide +kernel))⟩ (pb_I hPc hK hDc hN) rfl rfl hl.1 rfl (lv_room (Nat.le_of_ble_eq_true rfl)) dX5_init_31 ⟨hkc, hks⟩) hS (fun q _ h => hFc q h) hFc (fun u_10 t H locs ht hvm h hB hz1 hk1 hS => ?_)
  obtain ⟨u_10_keys, u_10_size⟩ := u_10
  obtain ⟨q_12, hP1, hD1⟩ := hB
  rw [ht] at hP1
  obtain ⟨hP, hD⟩ := va_join (wr := [(h0, .inr (5, [.ref q_1, .ref q_5, .null])), (q_1, .inr (4, [.ref q_4, .int u_2_size])), (q_4, .inl (cI, 60, .inl u_2_keys)), (q_5, .inr (4, [.ref q_8, .int u_6_size])), (q_8, .inl (cI, 60, .inl u_6_keys))]) (w1 := [(q_9, .inr (4, [.ref q_12, .int u_10_size])), (q_12, .inl (cI, 60, .inl u_10_keys))]) hP hD [5] [0, 1, 2, 3, 4] rfl rfl (by decide) (by decide) hk1 hFc hP1 hD1
  have hP : va_P (dC, dI) vwCl [(h0, .inr (5, [.ref q_1, .ref q_5, .null])), (q_1, .inr (4, [.ref q_4, .int u_2_size])), (q_4, .inl (cI, 60, .inl u_2_keys)), (q_5, .inr (4, [.ref q_8, .int u_6_size])), (q_8, .inl (cI, 60, .inl u_6_keys)), (q_9, .inr (4, [.ref q_12, .int u_10_size])), (q_12, .inl (cI, 60, .inl u_10_keys))] _ := hP
  have hD : va_D A [(h0, .inr (5, [.ref q_1, .ref q_5, .null])), (q_1, .inr (4, [.ref q_4, .int u_2_size])), (q_4, .inl (cI, 60, .inl u_2_keys)), (q_5, .inr (4, [.ref q_8, .int u_6_size])), (q_8, .inl (cI, 60, .inl u_6_keys)), (q_9, .inr (4, [.ref q_12, .int u_10_size])), (q_12, .inl (cI, 60, .inl u_10_keys))] := hD
  refine W.widen (k := 6) (n := 186) (by omega) (by omega) ?_
  refine va_putF (D := (dC, dI)) (ci := 5) (v := .ref q_9) (ty := .object "TripleJoins$Sorted") (C := RX5) (T := TX5) (N := 3) hx hb hts (hinX5) tyX5 tyX5_ok nmX5 hown hK hP hD hS 0 rfl rfl 2 (by decide) (hts (.fieldLink RX5 21 "TripleJoins$Store" "byObject" "LTripleJoins$Sorted;") (by decide +kernel)) (fun _ h9 => h9) rfl hmn rfl (by decide +kernel) rfl rfl (Nat.le_of_ble_eq_true rfl) dX5_init_34 (fun H locs hP hD hS => ?_)
  have hP : va_P (dC, dI) vwCl [(h0, .inr (5, [.ref q_1, .ref q_5, .ref q_9])), (q_1, .inr (4, [.ref q_4, .int u_2_size])), (q_4, .inl (cI, 60, .inl u_2_keys)), (q_5, .inr (4, [.ref q_8, .int u_6_size])), (q_8, .inl (cI, 60, .inl u_6_keys)), (q_9, .inr (4, [.ref q_12, .int u_10_size])), (q_12, .inl (cI, 60, .inl u_10_keys))] _ := hP
  have hD : va_D A [(h0, .inr (5, [.ref q_1, .ref q_5, .ref q_9])), (q_1, .inr (4, [.ref q_4, .int u_2_size])), (q_4, .inl (cI, 60, .inl u_2_keys)), (q_5, .inr (4, [.ref q_8, .int u_6_size])), (q_8, .inl (cI, 60, .inl u_6_keys)), (q_9, .inr (4, [.ref q_12, .int u_10_size])), (q_12, .inl (cI, 60, .inl u_10_keys))] := hD
  have hP := hP.sub (ws' := [(h0, .inr (5, [.ref q_1, .ref q_5, .ref q_9])), (q_1, .inr (4, [.ref q_4, .int u_2_size])), (q_4, .inl (cI, 60, .inl u_2_keys)), (q_5, .inr (4, [.ref q_8, .int u_6_size])), (q_8, .inl (cI, 60, .inl u_6_keys)), (q_9, .inr (4, [.ref q_12, .int u_10_size])), (q_12, .inl (cI, 60, .inl u_10_keys))]) [0, 1, 2, 3, 4, 5, 6] rfl
  have hD := hD.sub (ws' := [(h0, .inr (5, [.ref q_1, .ref q_5, .ref q_9])), (q_1, .inr (4, [.ref q_4, .int u_2_size])), (q_4, .inl (cI, 60, .inl u_2_keys)), (q_5, .inr (4, [.ref q_8, .int u_6_size])), (q_8, .inl (cI, 60, .inl u_6_keys)), (q_9, .inr (4, [.ref q_12, .int u_10_size])), (q_12, .inl (cI, 60, .inl u_10_keys))]) [0, 1, 2, 3, 4, 5, 6] (by decide) rfl
  refine W.widen (k := 6) (n := 186) (by omega) (by omega) ?_
  exact W.vret hx hb hr (fun t ht hW => ⟨⟨((u_2_keys, u_2_size), (u_6_keys, u_6_size), (u_10_keys, u_10_size)), rfl, h, q_1, q_4, q_5, q_8, q_9, q_12, by rw [ht]; exact hP, hD⟩, hS.F ht⟩) hS.2.2 dX5_init_37
abbrev Q_X5_holds (dC : Nat → ClassId) (dI : Nat → Nat → Nat) (cI : ClassId) (h0 h0_1 h0_2 h0_3 h0_4 h0_5 h0_6 : Nat) (s0 : StoS) (A : Nat → Prop) (post : Int32 → Prop) : Array Value → State → Outcome → State → Prop := va_Qi (fun (r : Int32) (_ : Unit) => post r) (fun _ _ => True) A
abbrev rm_X5_holds : Room := { frames := 3, cells := 0, slots := 0, locals := 67 }
set_option maxHeartbeats 4000000 in
set_option maxRecDepth 100000 in
theorem c_X5_holds (l : Launch) (dC : Nat → ClassId) (dI : Nat → Nat → Nat) (cI : ClassId) (h0 h0_1 h0_2 h0_3 h0_4 h0_5 h0_6 : Nat) (sz : Nat) (s0 : StoS) (v1 : Int32) (post : Int32 → Prop) (h : P_X5_holds s0 v1 post) : Met l yX5_holds wsX5_holds rm_X5_holds (va_Pc [.ref h0, .int v1] (cpre (dC, dI) [(cI, .int)] [(h0, .inr (5, [.ref h0_1, .ref h0_3, .ref h0_5])), (h0_1, .inr (4, [.ref h0_2, .int s0.bySubject.size])), (h0_2, .inl (cI, 60, .inl s0.bySubject.keys)), (h0_3, .inr (4, [.ref h0_4, .int s0.byPredicate.size])), (h0_4, .inl (cI, 60, .inl s0.byPredicate.keys)), (h0_5, .inr (4, [.ref h0_6, .int s0.byObject.size])), (h0_6, .inl (cI, 60, .inl s0.byObject.keys))] sz)) (Q_X5_holds dC dI cI h0 h0_1 h0_2 h0_3 h0_4 h0_5 h0_6 s0 (va_A [] sz) post) 0 0 (va_A [] sz) := by
  refine Met.ofW (cc := cX5_holds) (maxL := 2) (ret := (some .boolean)) (by decide) rfl ?_
  intro p e s m args below meth c s₁ B hml hv
  obtain ⟨rfl, hsz, hP, hK, hD0, hN⟩ := hv
  have hx := B.exec
  have hb := B.bytes
  have hr := B.returns
  have hts := atoms_spec (ws := wsX5_holds) B.pre
  have hown : s.vm.findClass RX5 = some m.cls := findClass_of_methodNamed B.named
  have hlocks := B.notSynchronized
  subst hsz
  have hD := hD0
  generalize hAe : va_A [] s.heap.size = A
  have hA : ∀ q : Nat, s.heap.size ≤ q → A q := fun q h => by rw [← hAe]; exact Or.inr h
  clear hAe hD0
  obtain ⟨⟨s0_bySubject_keys, s0_bySubject_size⟩, ⟨s0_byPredicate_keys, s0_byPredicate_size⟩, ⟨s0_byObject_keys, s0_byObject_size⟩⟩ := s0
  have hS : va_S A s.heap s.heap [] := va_S.rf
  have hP : va_P (dC, dI) vwCl [(h0, .inr (5, [.ref h0_1, .ref h0_3, .ref h0_5])), (h0_1, .inr (4, [.ref h0_2, .int s0_bySubject_size])), (h0_2, .inl (cI, 60, .inl s0_bySubject_keys)), (h0_3, .inr (4, [.ref h0_4, .int s0_byPredicate_size])), (h0_4, .inl (cI, 60, .inl s0_byPredicate_keys)), (h0_5, .inr (4, [.ref h0_6, .int s0_byObject_size])), (h0_6, .inl (cI, 60, .inl s0_byObject_keys))] s.heap := hP
  have hD : va_D (fun _ : Nat => True) [(h0, .inr (5, [.ref h0_1, .ref h0_3, .ref h0_5])), (h0_1, .inr (4, [.ref h0_2, .int s0_bySubject_size])), (h0_2, .inl (cI, 60, .inl s0_bySubject_keys)), (h0_3, .inr (4, [.ref h0_4, .int s0_byPredicate_size])), (h0_4, .inl (cI, 60, .inl s0_byPredicate_keys)), (h0_5, .inr (4, [.ref h0_6, .int s0_byObject_size])), (h0_6, .inl (cI, 60, .inl s0_byObject_keys))] := hD
  have hl := lv_entry ([.ref h0, .int v1]) (n := 2) (Nat.le_of_ble_eq_true rfl)
  rw [lg_entry_eq]
  generalize (lg_sl ([.ref h0, .int v1]) ++ List.replicate (2 - (lg_sl ([.ref h0, .int v1])).length) Slot.unset).toArray = ls at hl ⊢
  have hl : lv_has ls 2 [(0, .ref h0), (1, .int v1)] := hl
  have hinX5 : ∀ w ∈ u_ws RX5 TX5 3, w ∈ wsX5_holds := by decide +kernel
  refine lv_aload_n hx hb dX5_holds_0 rfl (lv_at hl 0 rfl) ?_
  refine va_get (D := (dC, dI)) (ci := 5) (v := .ref h0_1) (C := RX5) (T := TX5) (N := 3) hx hb hts (hinX5) hown hK hP 0 rfl rfl 0 (by decide) (hts (.fieldLink RX5 12 "TripleJoins$Store" "bySubject" "LTripleJoins$Sorted;") (by decide +kernel)) (fun _ h9 => h9) rfl dX5_holds_1 ?_
  refine lv_iload_n hx hb dX5_holds_4 rfl (lv_at hl 1 rfl) ?_
  have hPc := hP.sub (ws' := [(h0_1, .inr (4, [.ref h0_2, .int s0_bySubject_size])), (h0_2, .inl (cI, 60, .inl s0_bySubject_keys))]) [1, 2] rfl
  have hDc := hD.sub (ws' := [(h0_1, .inr (4, [.ref h0_2, .int s0_bySubject_size])), (h0_2, .inl (cI, 60, .inl s0_bySubject_keys))]) [1, 2] (by decide) rfl
  have hFc := fr0 hA hS
  refine va_calli (va_runV (As := [.int v1]) (rest := []) ⟨hx, hb, hml, hown, hts⟩ (c_X4_holds l dC dI cI h0_1 h0_2 _ (s0_bySubject_keys, s0_bySubject_size) v1 _ h) (cwV 1 hts gX5_holds_X4_holds rfl rfl rfl (by decide +kernel) ⟨Nat.le_of_ble_eq_true rfl, Nat.le_of_ble_eq_true rfl⟩) (pb_V hPc hK hDc hN (ci := 4) (q0 := 0) rfl rfl) rfl rfl hl.1 rfl (lv_room (Nat.le_of_ble_eq_true rfl)) dX5_holds_5 ⟨Nat.zero_le _, Nat.zero_le _⟩) hS (fun q _ h => hFc q h) hFc (fun r_2 u_1 t H locs ht hvm h hB hz1 hk1 hS => ?_)
  have hP := vaPk hP hk1
  obtain ⟨hbo, h⟩ := h
  exact W.zret (v := r_2) hx hb hr hbo (fun t ht hW => ⟨⟨r_2, (), rfl, h, trivial⟩, hS.F ht⟩) hS.2.2 dX5_holds_8
abbrev Q_X5_size (dC : Nat → ClassId) (dI : Nat → Nat → Nat) (cI : ClassId) (h0 h0_1 h0_2 h0_3 h0_4 h0_5 h0_6 : Nat) (s0 : StoS) (A : Nat → Prop) (post : Int32 → Prop) : Array Value → State → Outcome → State → Prop := va_Qi (fun (r : Int32) (_ : Unit) => post r) (fun _ _ => True) A
abbrev rm_X5_size : Room := { frames := 1, cells := 0, slots := 0, locals := 20 }
set_option maxHeartbeats 4000000 in
set_option maxRecDepth 100000 in
theorem c_X5_size (l : Launch) (dC : Nat → ClassId) (dI : Nat → Nat → Nat) (cI : ClassId) (h0 h0_1 h0_2 h0_3 h0_4 h0_5 h0_6 : Nat) (sz : Nat) (s0 : StoS) (post : Int32 → Prop) (h : P_X5_size s0 post) : Met l yX5_size wsX5_size rm_X5_size (va_Pc [.ref h0] (cpre (dC, dI) [(cI, .int)] [(h0, .inr (5, [.ref h0_1, .ref h0_3, .ref h0_5])), (h0_1, .inr (4, [.ref h0_2, .int s0.bySubject.size])), (h0_2, .inl (cI, 60, .inl s0.bySubject.keys)), (h0_3, .inr (4, [.ref h0_4, .int s0.byPredicate.size])), (h0_4, .inl (cI, 60, .inl s0.byPredicate.keys)), (h0_5, .inr (4, [.ref h0_6, .int s0.byObject.size])), (h0_6, .inl (cI, 60, .inl s0.byObject.keys))] sz)) (Q_X5_size dC dI cI h0 h0_1 h0_2 h0_3 h0_4 h0_5 h0_6 s0 (va_A [] sz) post) 0 0 (va_A [] sz) := by
  refine Met.ofW (cc := cX5_size) (maxL := 1) (ret := (some .int)) (by decide) rfl ?_
  intro p e s m args below meth c s₁ B hml hv
  obtain ⟨rfl, hsz, hP, hK, hD0, hN⟩ := hv
  have hx := B.exec
  have hb := B.bytes
  have hr := B.returns
  have hts := atoms_spec (ws := wsX5_size) B.pre
  have hown : s.vm.findClass RX5 = some m.cls := findClass_of_methodNamed B.named
  have hlocks := B.notSynchronized
  subst hsz
  have hD := hD0
  generalize hAe : va_A [] s.heap.size = A
  have hA : ∀ q : Nat, s.heap.size ≤ q → A q := fun q h => by rw [← hAe]; exact Or.inr h
  clear hAe hD0
  obtain ⟨⟨s0_bySubject_keys, s0_bySubject_size⟩, ⟨s0_byPredicate_keys, s0_byPredicate_size⟩, ⟨s0_byObject_keys, s0_byObject_size⟩⟩ := s0
  have hS : va_S A s.heap s.heap [] := va_S.rf
  have hP : va_P (dC, dI) vwCl [(h0, .inr (5, [.ref h0_1, .ref h0_3, .ref h0_5])), (h0_1, .inr (4, [.ref h0_2, .int s0_bySubject_size])), (h0_2, .inl (cI, 60, .inl s0_bySubject_keys)), (h0_3, .inr (4, [.ref h0_4, .int s0_byPredicate_size])), (h0_4, .inl (cI, 60, .inl s0_byPredicate_keys)), (h0_5, .inr (4, [.ref h0_6, .int s0_byObject_size])), (h0_6, .inl (cI, 60, .inl s0_byObject_keys))] s.heap := hP
  have hD : va_D (fun _ : Nat => True) [(h0, .inr (5, [.ref h0_1, .ref h0_3, .ref h0_5])), (h0_1, .inr (4, [.ref h0_2, .int s0_bySubject_size])), (h0_2, .inl (cI, 60, .inl s0_bySubject_keys)), (h0_3, .inr (4, [.ref h0_4, .int s0_byPredicate_size])), (h0_4, .inl (cI, 60, .inl s0_byPredicate_keys)), (h0_5, .inr (4, [.ref h0_6, .int s0_byObject_size])), (h0_6, .inl (cI, 60, .inl s0_byObject_keys))] := hD
  have hl := lv_entry ([.ref h0]) (n := 1) (Nat.le_of_ble_eq_true rfl)
  rw [lg_entry_eq]
  generalize (lg_sl ([.ref h0]) ++ List.replicate (1 - (lg_sl ([.ref h0])).length) Slot.unset).toArray = ls at hl ⊢
  have hl : lv_has ls 1 [(0, .ref h0)] := hl
  have hinX5 : ∀ w ∈ u_ws RX5 TX5 3, w ∈ wsX5_size := by decide +kernel
  refine lv_aload_n hx hb dX5_size_0 rfl (lv_at hl 0 rfl) ?_
  refine va_get (D := (dC, dI)) (ci := 5) (v := .ref h0_1) (C := RX5) (T := TX5) (N := 3) hx hb hts (hinX5) hown hK hP 0 rfl rfl 0 (by decide) (hts (.fieldLink RX5 12 "TripleJoins$Store" "bySubject" "LTripleJoins$Sorted;") (by decide +kernel)) (fun _ h9 => h9) rfl dX5_size_1 ?_
  have hPc := hP.sub (ws' := [(h0_1, .inr (4, [.ref h0_2, .int s0_bySubject_size])), (h0_2, .inl (cI, 60, .inl s0_bySubject_keys))]) [1, 2] rfl
  have hDc := hD.sub (ws' := [(h0_1, .inr (4, [.ref h0_2, .int s0_bySubject_size])), (h0_2, .inl (cI, 60, .inl s0_bySubject_keys))]) [1, 2] (by decide) rfl
  have hFc := fr0 hA hS
  refine va_calli (va_runV (As := []) (rest := []) ⟨hx, hb, hml, hown, hts⟩ (c_X4_size l dC dI cI h0_1 h0_2 _ (s0_bySubject_keys, s0_bySubject_size) _ h) (cwV 0 hts gX5_size_X4_size rfl rfl rfl (by decide +kernel) ⟨Nat.le_of_ble_eq_true rfl, Nat.le_of_ble_eq_true rfl⟩) (pb_V hPc hK hDc hN (ci := 4) (q0 := 0) rfl rfl) rfl rfl hl.1 rfl (lv_room (Nat.le_of_ble_eq_true rfl)) dX5_size_4 ⟨Nat.zero_le _, Nat.zero_le _⟩) hS (fun q _ h => hFc q h) hFc (fun r_2 u_1 t H locs ht hvm h hB hz1 hk1 hS => ?_)
  have hP := vaPk hP hk1
  exact W.iret (v := r_2) hx hb hr (fun t ht hW => ⟨⟨r_2, (), rfl, h, trivial⟩, hS.F ht⟩) hS.2.2 dX5_size_7
abbrev Q_X5_in (dC : Nat → ClassId) (dI : Nat → Nat → Nat) (cI : ClassId) (h0 h0_1 h0_2 h0_3 h0_4 h0_5 h0_6 : Nat) (s0 : StoS) (A : Nat → Prop) (post : Nat → Prop) : Array Value → State → Outcome → State → Prop := va_Qr (fun (k : Nat) => post k) (fun (k : Nat) (ra : Nat) (_ : State) => (k = 0 ∧ h0_1 = ra) ∨ (k = 1 ∧ h0_3 = ra) ∨ (k = 2 ∧ h0_5 = ra)) A
abbrev rm_X5_in : Room := { frames := 0, cells := 0, slots := 0, locals := 0 }
set_option maxHeartbeats 4000000 in
set_option maxRecDepth 100000 in
theorem c_X5_in (l : Launch) (dC : Nat → ClassId) (dI : Nat → Nat → Nat) (cI : ClassId) (h0 h0_1 h0_2 h0_3 h0_4 h0_5 h0_6 : Nat) (sz : Nat) (s0 : StoS) (v1 : Int32) (post : Nat → Prop) (h : P_X5_in s0 v1 post) : Met l yX5_in wsX5_in rm_X5_in (va_Pc [.ref h0, .int v1] (cpre (dC, dI) [(cI, .int)] [(h0, .inr (5, [.ref h0_1, .ref h0_3, .ref h0_5])), (h0_1, .inr (4, [.ref h0_2, .int s0.bySubject.size])), (h0_2, .inl (cI, 60, .inl s0.bySubject.keys)), (h0_3, .inr (4, [.ref h0_4, .int s0.byPredicate.size])), (h0_4, .inl (cI, 60, .inl s0.byPredicate.keys)), (h0_5, .inr (4, [.ref h0_6, .int s0.byObject.size])), (h0_6, .inl (cI, 60, .inl s0.byObject.keys))] sz)) (Q_X5_in dC dI cI h0 h0_1 h0_2 h0_3 h0_4 h0_5 h0_6 s0 (va_A [] sz) post) 0 0 (va_A [] sz) := by
  refine Met.ofW (cc := cX5_in) (maxL := 2) (ret := (some (.object "TripleJoins$Sorted"))) (by decide) rfl ?_
  intro p e s m args below meth c s₁ B hml hv
  obtain ⟨rfl, hsz, hP, hK, hD0, hN⟩ := hv
  have hx := B.exec
  have hb := B.bytes
  have hr := B.returns
  have hts := atoms_spec (ws := wsX5_in) B.pre
  have hown : s.vm.findClass RX5 = some m.cls := findClass_of_methodNamed B.named
  have hlocks := B.notSynchronized
  subst hsz
  have hD := hD0
  generalize hAe : va_A [] s.heap.size = A
  have hA : ∀ q : Nat, s.heap.size ≤ q → A q := fun q h => by rw [← hAe]; exact Or.inr h
  clear hAe hD0
  obtain ⟨⟨s0_bySubject_keys, s0_bySubject_size⟩, ⟨s0_byPredicate_keys, s0_byPredicate_size⟩, ⟨s0_byObject_keys, s0_byObject_size⟩⟩ := s0
  have hS : va_S A s.heap s.heap [] := va_S.rf
  have hP : va_P (dC, dI) vwCl [(h0, .inr (5, [.ref h0_1, .ref h0_3, .ref h0_5])), (h0_1, .inr (4, [.ref h0_2, .int s0_bySubject_size])), (h0_2, .inl (cI, 60, .inl s0_bySubject_keys)), (h0_3, .inr (4, [.ref h0_4, .int s0_byPredicate_size])), (h0_4, .inl (cI, 60, .inl s0_byPredicate_keys)), (h0_5, .inr (4, [.ref h0_6, .int s0_byObject_size])), (h0_6, .inl (cI, 60, .inl s0_byObject_keys))] s.heap := hP
  have hD : va_D (fun _ : Nat => True) [(h0, .inr (5, [.ref h0_1, .ref h0_3, .ref h0_5])), (h0_1, .inr (4, [.ref h0_2, .int s0_bySubject_size])), (h0_2, .inl (cI, 60, .inl s0_bySubject_keys)), (h0_3, .inr (4, [.ref h0_4, .int s0_byPredicate_size])), (h0_4, .inl (cI, 60, .inl s0_byPredicate_keys)), (h0_5, .inr (4, [.ref h0_6, .int s0_byObject_size])), (h0_6, .inl (cI, 60, .inl s0_byObject_keys))] := hD
  have hl := lv_entry ([.ref h0, .int v1]) (n := 2) (Nat.le_of_ble_eq_true rfl)
  rw [lg_entry_eq]
  generalize (lg_sl ([.ref h0, .int v1]) ++ List.replicate (2 - (lg_sl ([.ref h0, .int v1])).length) Slot.unset).toArray = ls at hl ⊢
  have hl : lv_has ls 2 [(0, .ref h0), (1, .int v1)] := hl
  have hinX5 : ∀ w ∈ u_ws RX5 TX5 3, w ∈ wsX5_in := by decide +kernel
  refine lv_iload_n hx hb dX5_in_0 rfl (lv_at hl 1 rfl) ?_
  refine lv_iconst (v := (1 : Int32)) hx hb dX5_in_1 (by decide) ?_
  obtain ⟨ht_, hf_⟩ := h
  refine lv_icmp_ne (tgt := 10) hx hb dX5_in_2 (by decide) (fun c_1 => ?_) (fun c_1 => ?_)
  · have h := ht_ c_1
    refine lv_iload_n hx hb dX5_in_10 rfl (lv_at hl 1 rfl) ?_
    refine lv_iconst (v := (2 : Int32)) hx hb dX5_in_11 (by decide) ?_
    obtain ⟨ht_, hf_⟩ := h
    refine lv_icmp_ne (tgt := 22) hx hb dX5_in_12 (by decide) (fun c_2 => ?_) (fun c_2 => ?_)
    · have h := ht_ c_2
      refine lv_aload_n hx hb dX5_in_22 rfl (lv_at hl 0 rfl) ?_
      refine va_get (D := (dC, dI)) (ci := 5) (v := .ref h0_1) (C := RX5) (T := TX5) (N := 3) hx hb hts (hinX5) hown hK hP 0 rfl rfl 0 (by decide) (hts (.fieldLink RX5 12 "TripleJoins$Store" "bySubject" "LTripleJoins$Sorted;") (by decide +kernel)) (fun _ h9 => h9) rfl dX5_in_23 ?_
      exact W.aret (v := .ref h0_1) hx hb hr (Or.inl ⟨_, rfl⟩) (Or.inr ⟨_, rfl⟩) (fun t ht hW => ⟨⟨0, h0_1, rfl, h, Or.inl ⟨rfl, rfl⟩⟩, hS.F ht⟩) hS.2.2 dX5_in_26
    · have h := hf_ c_2
      refine lv_aload_n hx hb dX5_in_15 rfl (lv_at hl 0 rfl) ?_
      refine va_get (D := (dC, dI)) (ci := 5) (v := .ref h0_5) (C := RX5) (T := TX5) (N := 3) hx hb hts (hinX5) hown hK hP 0 rfl rfl 2 (by decide) (hts (.fieldLink RX5 21 "TripleJoins$Store" "byObject" "LTripleJoins$Sorted;") (by decide +kernel)) (fun _ h9 => h9) rfl dX5_in_16 ?_
      refine lv_goto (tgt := 26) hx hb dX5_in_19 (by decide) ?_
      exact W.aret (v := .ref h0_5) hx hb hr (Or.inl ⟨_, rfl⟩) (Or.inr ⟨_, rfl⟩) (fun t ht hW => ⟨⟨2, h0_5, rfl, h, Or.inr (Or.inr (⟨rfl, rfl⟩))⟩, hS.F ht⟩) hS.2.2 dX5_in_26
  · have h := hf_ c_1
    refine lv_aload_n hx hb dX5_in_5 rfl (lv_at hl 0 rfl) ?_
    refine va_get (D := (dC, dI)) (ci := 5) (v := .ref h0_3) (C := RX5) (T := TX5) (N := 3) hx hb hts (hinX5) hown hK hP 0 rfl rfl 1 (by decide) (hts (.fieldLink RX5 18 "TripleJoins$Store" "byPredicate" "LTripleJoins$Sorted;") (by decide +kernel)) (fun _ h9 => h9) rfl dX5_in_6 ?_
    exact W.aret (v := .ref h0_3) hx hb hr (Or.inl ⟨_, rfl⟩) (Or.inr ⟨_, rfl⟩) (fun t ht hW => ⟨⟨1, h0_3, rfl, h, Or.inr (Or.inl ⟨rfl, rfl⟩)⟩, hS.F ht⟩) hS.2.2 dX5_in_9
abbrev Q_X5_insert (dC : Nat → ClassId) (dI : Nat → Nat → Nat) (cI : ClassId) (h0 h0_1 h0_2 h0_3 h0_4 h0_5 h0_6 : Nat) (s0 : StoS) (A : Nat → Prop) (post : StoS → Prop) : Array Value → State → Outcome → State → Prop := va_Qv post (fun (u : StoS) (t : State) => va_P (dC, dI) vwCl [(h0, .inr (5, [.ref h0_1, .ref h0_3, .ref h0_5])), (h0_1, .inr (4, [.ref h0_2, .int u.bySubject.size])), (h0_2, .inl (cI, 60, .inl u.bySubject.keys)), (h0_3, .inr (4, [.ref h0_4, .int u.byPredicate.size])), (h0_4, .inl (cI, 60, .inl u.byPredicate.keys)), (h0_5, .inr (4, [.ref h0_6, .int u.byObject.size])), (h0_6, .inl (cI, 60, .inl u.byObject.keys))] t.heap ∧ va_D A [(h0, .inr (5, [.ref h0_1, .ref h0_3, .ref h0_5])), (h0_1, .inr (4, [.ref h0_2, .int u.bySubject.size])), (h0_2, .inl (cI, 60, .inl u.bySubject.keys)), (h0_3, .inr (4, [.ref h0_4, .int u.byPredicate.size])), (h0_4, .inl (cI, 60, .inl u.byPredicate.keys)), (h0_5, .inr (4, [.ref h0_6, .int u.byObject.size])), (h0_6, .inl (cI, 60, .inl u.byObject.keys))]) A
abbrev rm_X5_insert : Room := { frames := 3, cells := 0, slots := 0, locals := 68 }
set_option maxHeartbeats 4000000 in
set_option maxRecDepth 100000 in
theorem c_X5_insert (l : Launch) (dC : Nat → ClassId) (dI : Nat → Nat → Nat) (cI : ClassId) (h0 h0_1 h0_2 h0_3 h0_4 h0_5 h0_6 : Nat) (sz : Nat) (s0 : StoS) (v1 : Int32) (post : StoS → Prop) (h : P_X5_insert s0 v1 post) : Met l yX5_insert wsX5_insert rm_X5_insert (va_Pc [.ref h0, .int v1] (cpre (dC, dI) [(cI, .int)] [(h0, .inr (5, [.ref h0_1, .ref h0_3, .ref h0_5])), (h0_1, .inr (4, [.ref h0_2, .int s0.bySubject.size])), (h0_2, .inl (cI, 60, .inl s0.bySubject.keys)), (h0_3, .inr (4, [.ref h0_4, .int s0.byPredicate.size])), (h0_4, .inl (cI, 60, .inl s0.byPredicate.keys)), (h0_5, .inr (4, [.ref h0_6, .int s0.byObject.size])), (h0_6, .inl (cI, 60, .inl s0.byObject.keys))] sz)) (Q_X5_insert dC dI cI h0 h0_1 h0_2 h0_3 h0_4 h0_5 h0_6 s0 (va_A [(h0, .inr (5, [.ref h0_1, .ref h0_3, .ref h0_5])), (h0_1, .inr (4, [.ref h0_2, .int s0.bySubject.size])), (h0_2, .inl (cI, 60, .inl s0.bySubject.keys)), (h0_3, .inr (4, [.ref h0_4, .int s0.byPredicate.size])), (h0_4, .inl (cI, 60, .inl s0.byPredicate.keys)), (h0_5, .inr (4, [.ref h0_6, .int s0.byObject.size])), (h0_6, .inl (cI, 60, .inl s0.byObject.keys))] sz) post) 0 0 (va_A [(h0, .inr (5, [.ref h0_1, .ref h0_3, .ref h0_5])), (h0_1, .inr (4, [.ref h0_2, .int s0.bySubject.size])), (h0_2, .inl (cI, 60, .inl s0.bySubject.keys)), (h0_3, .inr (4, [.ref h0_4, .int s0.byPredicate.size])), (h0_4, .inl (cI, 60, .inl s0.byPredicate.keys)), (h0_5, .inr (4, [.ref h0_6, .int s0.byObject.size])), (h0_6, .inl (cI, 60, .inl s0.byObject.keys))] sz) := by
  refine Met.ofW (cc := cX5_insert) (maxL := 3) (ret := none) (by decide) rfl ?_
  intro p e s m args below meth c s₁ B hml hv
  obtain ⟨rfl, hsz, hP, hK, hD0, hN⟩ := hv
  have hx := B.exec
  have hb := B.bytes
  have hr := B.returns
  have hts := atoms_spec (ws := wsX5_insert) B.pre
  have hown : s.vm.findClass RX5 = some m.cls := findClass_of_methodNamed B.named
  have hlocks := B.notSynchronized
  subst hsz
  have hD := hD0.self (sz := s.heap.size)
  generalize hAe : va_A [(h0, .inr (5, [.ref h0_1, .ref h0_3, .ref h0_5])), (h0_1, .inr (4, [.ref h0_2, .int s0.bySubject.size])), (h0_2, .inl (cI, 60, .inl s0.bySubject.keys)), (h0_3, .inr (4, [.ref h0_4, .int s0.byPredicate.size])), (h0_4, .inl (cI, 60, .inl s0.byPredicate.keys)), (h0_5, .inr (4, [.ref h0_6, .int s0.byObject.size])), (h0_6, .inl (cI, 60, .inl s0.byObject.keys))] s.heap.size = A at hD ⊢
  have hA : ∀ q : Nat, s.heap.size ≤ q → A q := fun q h => by rw [← hAe]; exact Or.inr h
  clear hAe hD0
  obtain ⟨⟨s0_bySubject_keys, s0_bySubject_size⟩, ⟨s0_byPredicate_keys, s0_byPredicate_size⟩, ⟨s0_byObject_keys, s0_byObject_size⟩⟩ := s0
  have hS : va_S A s.heap s.heap [] := va_S.rf
  have hP : va_P (dC, dI) vwCl [(h0, .inr (5, [.ref h0_1, .ref h0_3, .ref h0_5])), (h0_1, .inr (4, [.ref h0_2, .int s0_bySubject_size])), (h0_2, .inl (cI, 60, .inl s0_bySubject_keys)), (h0_3, .inr (4, [.ref h0_4, .int s0_byPredicate_size])), (h0_4, .inl (cI, 60, .inl s0_byPredicate_keys)), (h0_5, .inr (4, [.ref h0_6, .int s0_byObject_size])), (h0_6, .inl (cI, 60, .inl s0_byObject_keys))] s.heap := hP
  have hD : va_D A [(h0, .inr (5, [.ref h0_1, .ref h0_3, .ref h0_5])), (h0_1, .inr (4, [.ref h0_2, .int s0_bySubject_size])), (h0_2, .inl (cI, 60, .inl s0_bySubject_keys)), (h0_3, .inr (4, [.ref h0_4, .int s0_byPredicate_size])), (h0_4, .inl (cI, 60, .inl s0_byPredicate_keys)), (h0_5, .inr (4, [.ref h0_6, .int s0_byObject_size])), (h0_6, .inl (cI, 60, .inl s0_byObject_keys))] := hD
  have hl := lv_entry ([.ref h0, .int v1]) (n := 3) (Nat.le_of_ble_eq_true rfl)
  rw [lg_entry_eq]
  generalize (lg_sl ([.ref h0, .int v1]) ++ List.replicate (3 - (lg_sl ([.ref h0, .int v1])).length) Slot.unset).toArray = ls at hl ⊢
  have hl : lv_has ls 3 [(0, .ref h0), (1, .int v1)] := hl
  refine lv_iconst (v := (0 : Int32)) hx hb dX5_insert_0 (by decide) ?_
  refine lv_istore_n (lv' := [(2, .int (0 : Int32)), (0, .ref h0), (1, .int v1)]) hx hb dX5_insert_1 rfl hl (by decide) rfl (fun ls hl => ?_)
  have hl : lv_has ls 3 [(0, .ref h0), (1, .int v1), (2, .int (0 : Int32))] := lv_sub hl [1, 2, 0] rfl
  obtain ⟨I_1, hI_1, n_1, h⟩ := h
  have loop_1 : ∀ (n_1 : Nat) (v2_2 : Int32) (s0_3_bySubject_keys : Nat → Int32) (s0_3_bySubject_size : Int32) (s0_3_byPredicate_keys : Nat → Int32) (s0_3_byPredicate_size : Int32) (s0_3_byObject_keys : Nat → Int32) (s0_3_byObject_size : Int32) (h : I_1 n_1 (v2_2, ((s0_3_bySubject_keys, s0_3_bySubject_size), (s0_3_byPredicate_keys, s0_3_byPredicate_size), (s0_3_byObject_keys, s0_3_byObject_size)))) (H : Heap) (locs : List Loc) (hP : va_P (dC, dI) vwCl [(h0, .inr (5, [.ref h0_1, .ref h0_3, .ref h0_5])), (h0_1, .inr (4, [.ref h0_2, .int s0_3_bySubject_size])), (h0_2, .inl (cI, 60, .inl s0_3_bySubject_keys)), (h0_3, .inr (4, [.ref h0_4, .int s0_3_byPredicate_size])), (h0_4, .inl (cI, 60, .inl s0_3_byPredicate_keys)), (h0_5, .inr (4, [.ref h0_6, .int s0_3_byObject_size])), (h0_6, .inl (cI, 60, .inl s0_3_byObject_keys))] H) (hD : va_D A [(h0, .inr (5, [.ref h0_1, .ref h0_3, .ref h0_5])), (h0_1, .inr (4, [.ref h0_2, .int s0_3_bySubject_size])), (h0_2, .inl (cI, 60, .inl s0_3_bySubject_keys)), (h0_3, .inr (4, [.ref h0_4, .int s0_3_byPredicate_size])), (h0_4, .inl (cI, 60, .inl s0_3_byPredicate_keys)), (h0_5, .inr (4, [.ref h0_6, .int s0_3_byObject_size])), (h0_6, .inl (cI, 60, .inl s0_3_byObject_keys))]) (hS : va_S A s.heap H locs) (ls : Array Slot) (hl : lv_has ls 3 [(0, .ref h0), (1, .int v1), (2, .int v2_2)]), W p l e rm_X5_insert s m ([.ref h0, .int v1] : List Value).toArray below meth c H locs 0 0 (MQ below (Q_X5_insert dC dI cI h0 h0_1 h0_2 h0_3 h0_4 h0_5 h0_6 ((s0_bySubject_keys, s0_bySubject_size), (s0_byPredicate_keys, s0_byPredicate_size), (s0_byObject_keys, s0_byObject_size)) A post) (([.ref h0, .int v1] : List Value).toArray) s 0 0 A) (F0 m 2 ls []) := by
    intro n_1
    induction n_1 using Nat.strongRecOn with
    | ind n_1 ih_1 =>
      intro v2_2 s0_3_bySubject_keys s0_3_bySubject_size s0_3_byPredicate_keys s0_3_byPredicate_size s0_3_byObject_keys s0_3_byObject_size h H locs hP hD hS ls hl
      have h := hI_1 n_1 _ h
      refine lv_iload_n hx hb dX5_insert_2 rfl (lv_at hl 2 rfl) ?_
      refine lv_iconst (v := (3 : Int32)) hx hb dX5_insert_3 (by decide) ?_
      obtain ⟨ht_, hf_⟩ := h
      refine lv_icmp_ge (tgt := 26) hx hb dX5_insert_4 (by decide) (fun c_4 => ?_) (fun c_4 => ?_)
      · have h := ht_ c_4
        exact W.vret hx hb hr (fun t ht hW => ⟨⟨((s0_3_bySubject_keys, s0_3_bySubject_size), (s0_3_byPredicate_keys, s0_3_byPredicate_size), (s0_3_byObject_keys, s0_3_byObject_size)), rfl, h, ⟨by rw [ht]; exact hP, hD⟩⟩, hS.F ht⟩) hS.2.2 dX5_insert_26
      · have h := hf_ c_4
        refine lv_aload_n hx hb dX5_insert_7 rfl (lv_at hl 0 rfl) ?_
        refine lv_iload_n hx hb dX5_insert_8 rfl (lv_at hl 2 rfl) ?_
        have hPc := hP.sub (ws' := [(h0, .inr (5, [.ref h0_1, .ref h0_3, .ref h0_5])), (h0_1, .inr (4, [.ref h0_2, .int s0_3_bySubject_size])), (h0_2, .inl (cI, 60, .inl s0_3_bySubject_keys)), (h0_3, .inr (4, [.ref h0_4, .int s0_3_byPredicate_size])), (h0_4, .inl (cI, 60, .inl s0_3_byPredicate_keys)), (h0_5, .inr (4, [.ref h0_6, .int s0_3_byObject_size])), (h0_6, .inl (cI, 60, .inl s0_3_byObject_keys))]) [0, 1, 2, 3, 4, 5, 6] rfl
        have hDc := hD.sub (ws' := [(h0, .inr (5, [.ref h0_1, .ref h0_3, .ref h0_5])), (h0_1, .inr (4, [.ref h0_2, .int s0_3_bySubject_size])), (h0_2, .inl (cI, 60, .inl s0_3_bySubject_keys)), (h0_3, .inr (4, [.ref h0_4, .int s0_3_byPredicate_size])), (h0_4, .inl (cI, 60, .inl s0_3_byPredicate_keys)), (h0_5, .inr (4, [.ref h0_6, .int s0_3_byObject_size])), (h0_6, .inl (cI, 60, .inl s0_3_byObject_keys))]) [0, 1, 2, 3, 4, 5, 6] (by decide) rfl
        have hFc := fr0 hA hS
        refine va_callr (va_runV (As := [.int v2_2]) (rest := []) ⟨hx, hb, hml, hown, hts⟩ (c_X5_in l dC dI cI h0 h0_1 h0_2 h0_3 h0_4 h0_5 h0_6 _ ((s0_3_bySubject_keys, s0_3_bySubject_size), (s0_3_byPredicate_keys, s0_3_byPredicate_size), (s0_3_byObject_keys, s0_3_byObject_size)) v2_2 _ h) (cwV 1 hts gX5_insert_X5_in rfl rfl rfl (by decide +kernel) ⟨Nat.le_of_ble_eq_true rfl, Nat.le_of_ble_eq_true rfl⟩) (pb_V hPc hK hDc hN (ci := 5) (q0 := 0) rfl rfl) rfl rfl hl.1 rfl (lv_room (Nat.le_of_ble_eq_true rfl)) dX5_insert_9 ⟨Nat.zero_le _, Nat.zero_le _⟩) hS (fun q _ h => hFc q h) hFc (fun u_5 ra t H locs ht hvm h hB hz1 hk1 hS => ?_)
        have hP := vaPk hP hk1
        rcases hB with ⟨hk_, hr_⟩ | ⟨hk_, hr_⟩ | ⟨hk_, hr_⟩
        · subst hk_; subst hr_; have h := h.1 rfl
          refine lv_iload_n hx hb dX5_insert_12 rfl (lv_at hl 1 rfl) ?_
          refine lv_iload_n hx hb dX5_insert_13 rfl (lv_at hl 2 rfl) ?_
          have hPc := hP.sub (ws' := []) [] rfl
          have hDc := hD.sub (ws' := []) [] (by decide) rfl
          have hFc := fr0 hA hS
          refine va_calli (va_runSN (As := [.int v1, .int v2_2]) (rest := [.ref h0_1]) ⟨hx, hb, hml, hown, hts⟩ (c_X7_rolled l dC dI cI  _ v1 v2_2 _ h) ⟨va_cnB 2 hts gX5_insert_X7_rolled_n36 rfl rfl rfl (nk_get hN 11 rfl) (hts (.initialized RX7) (by decide +kernel)) (by decide +kernel) ⟨Nat.le_of_ble_eq_true rfl, Nat.le_of_ble_eq_true rfl⟩, (hts (.static yX7_rolled) (by decide +kernel)), trivial⟩ (pb_S hPc hK hDc hN) rfl rfl hl.1 rfl (lv_room (Nat.le_of_ble_eq_true rfl)) dX5_insert_14 ⟨Nat.zero_le _, Nat.zero_le _⟩) hS (fun q _ h => hFc q h) hFc (fun r_8 u_7 t H locs ht hvm h hB hz1 hk1 hS => ?_)
          have hP := vaPk hP hk1
          have hPc := hP.sub (ws' := [(h0_1, .inr (4, [.ref h0_2, .int s0_3_bySubject_size])), (h0_2, .inl (cI, 60, .inl s0_3_bySubject_keys))]) [1, 2] rfl
          have hDc := hD.sub (ws' := [(h0_1, .inr (4, [.ref h0_2, .int s0_3_bySubject_size])), (h0_2, .inl (cI, 60, .inl s0_3_bySubject_keys))]) [1, 2] (by decide) rfl
          have hFc := va_free (wc := [(h0_1, .inr (4, [.ref h0_2, .int s0_3_bySubject_size])), (h0_2, .inl (cI, 60, .inl s0_3_bySubject_keys))]) hD hS hA [1, 2] rfl
          refine va_callv (va_runV (As := [.int r_8]) (rest := []) ⟨hx, hb, hml, hown, hts⟩ (c_X4_insert l dC dI cI h0_1 h0_2 _ (s0_3_bySubject_keys, s0_3_bySubject_size) r_8 _ h) (cwV 1 hts gX5_insert_X4_insert rfl rfl rfl (by decide +kernel) ⟨Nat.le_of_ble_eq_true rfl, Nat.le_of_ble_eq_true rfl⟩) (pb_V hPc hK hDc hN (ci := 4) (q0 := 0) rfl rfl) rfl rfl hl.1 rfl (lv_room (Nat.le_of_ble_eq_true rfl)) dX5_insert_17 ⟨Nat.zero_le _, Nat.zero_le _⟩) hS (fun q _ h => hFc q h) hFc (fun u_9 t H locs ht hvm h hB hz1 hk1 hS => ?_)
          obtain ⟨u_9_keys, u_9_size⟩ := u_9
          obtain ⟨hP1, hD1⟩ := hB
          rw [ht] at hP1
          obtain ⟨hP, hD⟩ := cl_join (wr := [(h0, .inr (5, [.ref h0_1, .ref h0_3, .ref h0_5])), (h0_3, .inr (4, [.ref h0_4, .int s0_3_byPredicate_size])), (h0_4, .inl (cI, 60, .inl s0_3_byPredicate_keys)), (h0_5, .inr (4, [.ref h0_6, .int s0_3_byObject_size])), (h0_6, .inl (cI, 60, .inl s0_3_byObject_keys))]) (w1 := [(h0_1, .inr (4, [.ref h0_2, .int u_9_size])), (h0_2, .inl (cI, 60, .inl u_9_keys))]) (ws' := [(h0, .inr (5, [.ref h0_1, .ref h0_3, .ref h0_5])), (h0_1, .inr (4, [.ref h0_2, .int u_9_size])), (h0_2, .inl (cI, 60, .inl u_9_keys)), (h0_3, .inr (4, [.ref h0_4, .int s0_3_byPredicate_size])), (h0_4, .inl (cI, 60, .inl s0_3_byPredicate_keys)), (h0_5, .inr (4, [.ref h0_6, .int s0_3_byObject_size])), (h0_6, .inl (cI, 60, .inl s0_3_byObject_keys))]) hP hD [1, 2] [0, 3, 4, 5, 6] [0, 5, 6, 1, 2, 3, 4] rfl rfl (by decide) (by decide) (by decide) rfl hk1 hFc hP1 hD1
          refine lv_iinc (v := (v2_2 + (1 : Int32))) (lv' := [(2, .int (v2_2 + (1 : Int32))), (0, .ref h0), (1, .int v1)]) hx hb dX5_insert_20 hl (k := 2) rfl rfl (by decide) rfl (fun ls hl => ?_)
          refine lv_goto (tgt := 2) hx hb dX5_insert_23 (by decide) ?_
          have hl : lv_has ls 3 [(0, .ref h0), (1, .int v1), (2, .int (v2_2 + (1 : Int32)))] := lv_sub hl [1, 2, 0] rfl
          obtain ⟨k_11, hk_12, h⟩ := h
          exact ih_1 k_11 hk_12 (v2_2 + (1 : Int32)) u_9_keys u_9_size s0_3_byPredicate_keys s0_3_byPredicate_size s0_3_byObject_keys s0_3_byObject_size h _ _ hP hD hS _ hl
        · subst hk_; subst hr_; have h := h.2.1 rfl
          refine lv_iload_n hx hb dX5_insert_12 rfl (lv_at hl 1 rfl) ?_
          refine lv_iload_n hx hb dX5_insert_13 rfl (lv_at hl 2 rfl) ?_
          have hPc := hP.sub (ws' := []) [] rfl
          have hDc := hD.sub (ws' := []) [] (by decide) rfl
          have hFc := fr0 hA hS
          refine va_calli (va_runSN (As := [.int v1, .int v2_2]) (rest := [.ref h0_3]) ⟨hx, hb, hml, hown, hts⟩ (c_X7_rolled l dC dI cI  _ v1 v2_2 _ h) ⟨va_cnB 2 hts gX5_insert_X7_rolled_n36 rfl rfl rfl (nk_get hN 11 rfl) (hts (.initialized RX7) (by decide +kernel)) (by decide +kernel) ⟨Nat.le_of_ble_eq_true rfl, Nat.le_of_ble_eq_true rfl⟩, (hts (.static yX7_rolled) (by decide +kernel)), trivial⟩ (pb_S hPc hK hDc hN) rfl rfl hl.1 rfl (lv_room (Nat.le_of_ble_eq_true rfl)) dX5_insert_14 ⟨Nat.zero_le _, Nat.zero_le _⟩) hS (fun q _ h => hFc q h) hFc (fun r_14 u_13 t H locs ht hvm h hB hz1 hk1 hS => ?_)
          have hP := vaPk hP hk1
          have hPc := hP.sub (ws' := [(h0_3, .inr (4, [.ref h0_4, .int s0_3_byPredicate_size])), (h0_4, .inl (cI, 60, .inl s0_3_byPredicate_keys))]) [3, 4] rfl
          have hDc := hD.sub (ws' := [(h0_3, .inr (4, [.ref h0_4, .int s0_3_byPredicate_size])), (h0_4, .inl (cI, 60, .inl s0_3_byPredicate_keys))]) [3, 4] (by decide) rfl
          have hFc := va_free (wc := [(h0_3, .inr (4, [.ref h0_4, .int s0_3_byPredicate_size])), (h0_4, .inl (cI, 60, .inl s0_3_byPredicate_keys))]) hD hS hA [3, 4] rfl
          refine va_callv (va_runV (As := [.int r_14]) (rest := []) ⟨hx, hb, hml, hown, hts⟩ (c_X4_insert l dC dI cI h0_3 h0_4 _ (s0_3_byPredicate_keys, s0_3_byPredicate_size) r_14 _ h) (cwV 1 hts gX5_insert_X4_insert rfl rfl rfl (by decide +kernel) ⟨Nat.le_of_ble_eq_true rfl, Nat.le_of_ble_eq_true rfl⟩) (pb_V hPc hK hDc hN (ci := 4) (q0 := 0) rfl rfl) rfl rfl hl.1 rfl (lv_room (Nat.le_of_ble_eq_true rfl)) dX5_insert_17 ⟨Nat.zero_le _, Nat.zero_le _⟩) hS (fun q _ h => hFc q h) hFc (fun u_15 t H locs ht hvm h hB hz1 hk1 hS => ?_)
          obtain ⟨u_15_keys, u_15_size⟩ := u_15
          obtain ⟨hP1, hD1⟩ := hB
          rw [ht] at hP1
          obtain ⟨hP, hD⟩ := cl_join (wr := [(h0, .inr (5, [.ref h0_1, .ref h0_3, .ref h0_5])), (h0_1, .inr (4, [.ref h0_2, .int s0_3_bySubject_size])), (h0_2, .inl (cI, 60, .inl s0_3_bySubject_keys)), (h0_5, .inr (4, [.ref h0_6, .int s0_3_byObject_size])), (h0_6, .inl (cI, 60, .inl s0_3_byObject_keys))]) (w1 := [(h0_3, .inr (4, [.ref h0_4, .int u_15_size])), (h0_4, .inl (cI, 60, .inl u_15_keys))]) (ws' := [(h0, .inr (5, [.ref h0_1, .ref h0_3, .ref h0_5])), (h0_1, .inr (4, [.ref h0_2, .int s0_3_bySubject_size])), (h0_2, .inl (cI, 60, .inl s0_3_bySubject_keys)), (h0_3, .inr (4, [.ref h0_4, .int u_15_size])), (h0_4, .inl (cI, 60, .inl u_15_keys)), (h0_5, .inr (4, [.ref h0_6, .int s0_3_byObject_size])), (h0_6, .inl (cI, 60, .inl s0_3_byObject_keys))]) hP hD [3, 4] [0, 1, 2, 5, 6] [0, 1, 2, 5, 6, 3, 4] rfl rfl (by decide) (by decide) (by decide) rfl hk1 hFc hP1 hD1
          refine lv_iinc (v := (v2_2 + (1 : Int32))) (lv' := [(2, .int (v2_2 + (1 : Int32))), (0, .ref h0), (1, .int v1)]) hx hb dX5_insert_20 hl (k := 2) rfl rfl (by decide) rfl (fun ls hl => ?_)
          refine lv_goto (tgt := 2) hx hb dX5_insert_23 (by decide) ?_
          have hl : lv_has ls 3 [(0, .ref h0), (1, .int v1), (2, .int (v2_2 + (1 : Int32)))] := lv_sub hl [1, 2, 0] rfl
          obtain ⟨k_17, hk_18, h⟩ := h
          exact ih_1 k_17 hk_18 (v2_2 + (1 : Int32)) s0_3_bySubject_keys s0_3_bySubject_size u_15_keys u_15_size s0_3_byObject_keys s0_3_byObject_size h _ _ hP hD hS _ hl
        · subst hk_; subst hr_; have h := h.2.2 rfl
          refine lv_iload_n hx hb dX5_insert_12 rfl (lv_at hl 1 rfl) ?_
          refine lv_iload_n hx hb dX5_insert_13 rfl (lv_at hl 2 rfl) ?_
          have hPc := hP.sub (ws' := []) [] rfl
          have hDc := hD.sub (ws' := []) [] (by decide) rfl
          have hFc := fr0 hA hS
          refine va_calli (va_runSN (As := [.int v1, .int v2_2]) (rest := [.ref h0_5]) ⟨hx, hb, hml, hown, hts⟩ (c_X7_rolled l dC dI cI  _ v1 v2_2 _ h) ⟨va_cnB 2 hts gX5_insert_X7_rolled_n36 rfl rfl rfl (nk_get hN 11 rfl) (hts (.initialized RX7) (by decide +kernel)) (by decide +kernel) ⟨Nat.le_of_ble_eq_true rfl, Nat.le_of_ble_eq_true rfl⟩, (hts (.static yX7_rolled) (by decide +kernel)), trivial⟩ (pb_S hPc hK hDc hN) rfl rfl hl.1 rfl (lv_room (Nat.le_of_ble_eq_true rfl)) dX5_insert_14 ⟨Nat.zero_le _, Nat.zero_le _⟩) hS (fun q _ h => hFc q h) hFc (fun r_20 u_19 t H locs ht hvm h hB hz1 hk1 hS => ?_)
          have hP := vaPk hP hk1
          have hPc := hP.sub (ws' := [(h0_5, .inr (4, [.ref h0_6, .int s0_3_byObject_size])), (h0_6, .inl (cI, 60, .inl s0_3_byObject_keys))]) [5, 6] rfl
          have hDc := hD.sub (ws' := [(h0_5, .inr (4, [.ref h0_6, .int s0_3_byObject_size])), (h0_6, .inl (cI, 60, .inl s0_3_byObject_keys))]) [5, 6] (by decide) rfl
          have hFc := va_free (wc := [(h0_5, .inr (4, [.ref h0_6, .int s0_3_byObject_size])), (h0_6, .inl (cI, 60, .inl s0_3_byObject_keys))]) hD hS hA [5, 6] rfl
          refine va_callv (va_runV (As := [.int r_20]) (rest := []) ⟨hx, hb, hml, hown, hts⟩ (c_X4_insert l dC dI cI h0_5 h0_6 _ (s0_3_byObject_keys, s0_3_byObject_size) r_20 _ h) (cwV 1 hts gX5_insert_X4_insert rfl rfl rfl (by decide +kernel) ⟨Nat.le_of_ble_eq_true rfl, Nat.le_of_ble_eq_true rfl⟩) (pb_V hPc hK hDc hN (ci := 4) (q0 := 0) rfl rfl) rfl rfl hl.1 rfl (lv_room (Nat.le_of_ble_eq_true rfl)) dX5_insert_17 ⟨Nat.zero_le _, Nat.zero_le _⟩) hS (fun q _ h => hFc q h) hFc (fun u_21 t H locs ht hvm h hB hz1 hk1 hS => ?_)
          obtain ⟨u_21_keys, u_21_size⟩ := u_21
          obtain ⟨hP1, hD1⟩ := hB
          rw [ht] at hP1
          obtain ⟨hP, hD⟩ := cl_join (wr := [(h0, .inr (5, [.ref h0_1, .ref h0_3, .ref h0_5])), (h0_1, .inr (4, [.ref h0_2, .int s0_3_bySubject_size])), (h0_2, .inl (cI, 60, .inl s0_3_bySubject_keys)), (h0_3, .inr (4, [.ref h0_4, .int s0_3_byPredicate_size])), (h0_4, .inl (cI, 60, .inl s0_3_byPredicate_keys))]) (w1 := [(h0_5, .inr (4, [.ref h0_6, .int u_21_size])), (h0_6, .inl (cI, 60, .inl u_21_keys))]) (ws' := [(h0, .inr (5, [.ref h0_1, .ref h0_3, .ref h0_5])), (h0_1, .inr (4, [.ref h0_2, .int s0_3_bySubject_size])), (h0_2, .inl (cI, 60, .inl s0_3_bySubject_keys)), (h0_3, .inr (4, [.ref h0_4, .int s0_3_byPredicate_size])), (h0_4, .inl (cI, 60, .inl s0_3_byPredicate_keys)), (h0_5, .inr (4, [.ref h0_6, .int u_21_size])), (h0_6, .inl (cI, 60, .inl u_21_keys))]) hP hD [5, 6] [0, 1, 2, 3, 4] [0, 1, 2, 3, 4, 5, 6] rfl rfl (by decide) (by decide) (by decide) rfl hk1 hFc hP1 hD1
          refine lv_iinc (v := (v2_2 + (1 : Int32))) (lv' := [(2, .int (v2_2 + (1 : Int32))), (0, .ref h0), (1, .int v1)]) hx hb dX5_insert_20 hl (k := 2) rfl rfl (by decide) rfl (fun ls hl => ?_)
          refine lv_goto (tgt := 2) hx hb dX5_insert_23 (by decide) ?_
          have hl : lv_has ls 3 [(0, .ref h0), (1, .int v1), (2, .int (v2_2 + (1 : Int32)))] := lv_sub hl [1, 2, 0] rfl
          obtain ⟨k_23, hk_24, h⟩ := h
          exact ih_1 k_23 hk_24 (v2_2 + (1 : Int32)) s0_3_bySubject_keys s0_3_bySubject_size s0_3_byPredicate_keys s0_3_byPredicate_size u_21_keys u_21_size h _ _ hP hD hS _ hl
  exact loop_1 n_1 (0 : Int32) s0_bySubject_keys s0_bySubject_size s0_byPredicate_keys s0_byPredicate_size s0_byObject_keys s0_byObject_size h _ _ hP hD hS _ hl
abbrev Q_X5_remove (dC : Nat → ClassId) (dI : Nat → Nat → Nat) (cI : ClassId) (h0 h0_1 h0_2 h0_3 h0_4 h0_5 h0_6 : Nat) (s0 : StoS) (A : Nat → Prop) (post : StoS → Prop) : Array Value → State → Outcome → State → Prop := va_Qv post (fun (u : StoS) (t : State) => va_P (dC, dI) vwCl [(h0, .inr (5, [.ref h0_1, .ref h0_3, .ref h0_5])), (h0_1, .inr (4, [.ref h0_2, .int u.bySubject.size])), (h0_2, .inl (cI, 60, .inl u.bySubject.keys)), (h0_3, .inr (4, [.ref h0_4, .int u.byPredicate.size])), (h0_4, .inl (cI, 60, .inl u.byPredicate.keys)), (h0_5, .inr (4, [.ref h0_6, .int u.byObject.size])), (h0_6, .inl (cI, 60, .inl u.byObject.keys))] t.heap ∧ va_D A [(h0, .inr (5, [.ref h0_1, .ref h0_3, .ref h0_5])), (h0_1, .inr (4, [.ref h0_2, .int u.bySubject.size])), (h0_2, .inl (cI, 60, .inl u.bySubject.keys)), (h0_3, .inr (4, [.ref h0_4, .int u.byPredicate.size])), (h0_4, .inl (cI, 60, .inl u.byPredicate.keys)), (h0_5, .inr (4, [.ref h0_6, .int u.byObject.size])), (h0_6, .inl (cI, 60, .inl u.byObject.keys))]) A
abbrev rm_X5_remove : Room := { frames := 4, cells := 0, slots := 0, locals := 89 }
set_option maxHeartbeats 4000000 in
set_option maxRecDepth 100000 in
theorem c_X5_remove (l : Launch) (dC : Nat → ClassId) (dI : Nat → Nat → Nat) (cI : ClassId) (h0 h0_1 h0_2 h0_3 h0_4 h0_5 h0_6 : Nat) (sz : Nat) (s0 : StoS) (v1 : Int32) (post : StoS → Prop) (h : P_X5_remove s0 v1 post) : Met l yX5_remove wsX5_remove rm_X5_remove (va_Pc [.ref h0, .int v1] (cpre (dC, dI) [(cI, .int)] [(h0, .inr (5, [.ref h0_1, .ref h0_3, .ref h0_5])), (h0_1, .inr (4, [.ref h0_2, .int s0.bySubject.size])), (h0_2, .inl (cI, 60, .inl s0.bySubject.keys)), (h0_3, .inr (4, [.ref h0_4, .int s0.byPredicate.size])), (h0_4, .inl (cI, 60, .inl s0.byPredicate.keys)), (h0_5, .inr (4, [.ref h0_6, .int s0.byObject.size])), (h0_6, .inl (cI, 60, .inl s0.byObject.keys))] sz)) (Q_X5_remove dC dI cI h0 h0_1 h0_2 h0_3 h0_4 h0_5 h0_6 s0 (va_A [(h0, .inr (5, [.ref h0_1, .ref h0_3, .ref h0_5])), (h0_1, .inr (4, [.ref h0_2, .int s0.bySubject.size])), (h0_2, .inl (cI, 60, .inl s0.bySubject.keys)), (h0_3, .inr (4, [.ref h0_4, .int s0.byPredicate.size])), (h0_4, .inl (cI, 60, .inl s0.byPredicate.keys)), (h0_5, .inr (4, [.ref h0_6, .int s0.byObject.size])), (h0_6, .inl (cI, 60, .inl s0.byObject.keys))] sz) post) 0 0 (va_A [(h0, .inr (5, [.ref h0_1, .ref h0_3, .ref h0_5])), (h0_1, .inr (4, [.ref h0_2, .int s0.bySubject.size])), (h0_2, .inl (cI, 60, .inl s0.bySubject.keys)), (h0_3, .inr (4, [.ref h0_4, .int s0.byPredicate.size])), (h0_4, .inl (cI, 60, .inl s0.byPredicate.keys)), (h0_5, .inr (4, [.ref h0_6, .int s0.byObject.size])), (h0_6, .inl (cI, 60, .inl s0.byObject.keys))] sz) := by
  refine Met.ofW (cc := cX5_remove) (maxL := 3) (ret := none) (by decide) rfl ?_
  intro p e s m args below meth c s₁ B hml hv
  obtain ⟨rfl, hsz, hP, hK, hD0, hN⟩ := hv
  have hx := B.exec
  have hb := B.bytes
  have hr := B.returns
  have hts := atoms_spec (ws := wsX5_remove) B.pre
  have hown : s.vm.findClass RX5 = some m.cls := findClass_of_methodNamed B.named
  have hlocks := B.notSynchronized
  subst hsz
  have hD := hD0.self (sz := s.heap.size)
  generalize hAe : va_A [(h0, .inr (5, [.ref h0_1, .ref h0_3, .ref h0_5])), (h0_1, .inr (4, [.ref h0_2, .int s0.bySubject.size])), (h0_2, .inl (cI, 60, .inl s0.bySubject.keys)), (h0_3, .inr (4, [.ref h0_4, .int s0.byPredicate.size])), (h0_4, .inl (cI, 60, .inl s0.byPredicate.keys)), (h0_5, .inr (4, [.ref h0_6, .int s0.byObject.size])), (h0_6, .inl (cI, 60, .inl s0.byObject.keys))] s.heap.size = A at hD ⊢
  have hA : ∀ q : Nat, s.heap.size ≤ q → A q := fun q h => by rw [← hAe]; exact Or.inr h
  clear hAe hD0
  obtain ⟨⟨s0_bySubject_keys, s0_bySubject_size⟩, ⟨s0_byPredicate_keys, s0_byPredicate_size⟩, ⟨s0_byObject_keys, s0_byObject_size⟩⟩ := s0
  have hS : va_S A s.heap s.heap [] := va_S.rf
  have hP : va_P (dC, dI) vwCl [(h0, .inr (5, [.ref h0_1, .ref h0_3, .ref h0_5])), (h0_1, .inr (4, [.ref h0_2, .int s0_bySubject_size])), (h0_2, .inl (cI, 60, .inl s0_bySubject_keys)), (h0_3, .inr (4, [.ref h0_4, .int s0_byPredicate_size])), (h0_4, .inl (cI, 60, .inl s0_byPredicate_keys)), (h0_5, .inr (4, [.ref h0_6, .int s0_byObject_size])), (h0_6, .inl (cI, 60, .inl s0_byObject_keys))] s.heap := hP
  have hD : va_D A [(h0, .inr (5, [.ref h0_1, .ref h0_3, .ref h0_5])), (h0_1, .inr (4, [.ref h0_2, .int s0_bySubject_size])), (h0_2, .inl (cI, 60, .inl s0_bySubject_keys)), (h0_3, .inr (4, [.ref h0_4, .int s0_byPredicate_size])), (h0_4, .inl (cI, 60, .inl s0_byPredicate_keys)), (h0_5, .inr (4, [.ref h0_6, .int s0_byObject_size])), (h0_6, .inl (cI, 60, .inl s0_byObject_keys))] := hD
  have hl := lv_entry ([.ref h0, .int v1]) (n := 3) (Nat.le_of_ble_eq_true rfl)
  rw [lg_entry_eq]
  generalize (lg_sl ([.ref h0, .int v1]) ++ List.replicate (3 - (lg_sl ([.ref h0, .int v1])).length) Slot.unset).toArray = ls at hl ⊢
  have hl : lv_has ls 3 [(0, .ref h0), (1, .int v1)] := hl
  refine lv_iconst (v := (0 : Int32)) hx hb dX5_remove_0 (by decide) ?_
  refine lv_istore_n (lv' := [(2, .int (0 : Int32)), (0, .ref h0), (1, .int v1)]) hx hb dX5_remove_1 rfl hl (by decide) rfl (fun ls hl => ?_)
  have hl : lv_has ls 3 [(0, .ref h0), (1, .int v1), (2, .int (0 : Int32))] := lv_sub hl [1, 2, 0] rfl
  obtain ⟨I_1, hI_1, n_1, h⟩ := h
  have loop_1 : ∀ (n_1 : Nat) (v2_2 : Int32) (s0_3_bySubject_keys : Nat → Int32) (s0_3_bySubject_size : Int32) (s0_3_byPredicate_keys : Nat → Int32) (s0_3_byPredicate_size : Int32) (s0_3_byObject_keys : Nat → Int32) (s0_3_byObject_size : Int32) (h : I_1 n_1 (v2_2, ((s0_3_bySubject_keys, s0_3_bySubject_size), (s0_3_byPredicate_keys, s0_3_byPredicate_size), (s0_3_byObject_keys, s0_3_byObject_size)))) (H : Heap) (locs : List Loc) (hP : va_P (dC, dI) vwCl [(h0, .inr (5, [.ref h0_1, .ref h0_3, .ref h0_5])), (h0_1, .inr (4, [.ref h0_2, .int s0_3_bySubject_size])), (h0_2, .inl (cI, 60, .inl s0_3_bySubject_keys)), (h0_3, .inr (4, [.ref h0_4, .int s0_3_byPredicate_size])), (h0_4, .inl (cI, 60, .inl s0_3_byPredicate_keys)), (h0_5, .inr (4, [.ref h0_6, .int s0_3_byObject_size])), (h0_6, .inl (cI, 60, .inl s0_3_byObject_keys))] H) (hD : va_D A [(h0, .inr (5, [.ref h0_1, .ref h0_3, .ref h0_5])), (h0_1, .inr (4, [.ref h0_2, .int s0_3_bySubject_size])), (h0_2, .inl (cI, 60, .inl s0_3_bySubject_keys)), (h0_3, .inr (4, [.ref h0_4, .int s0_3_byPredicate_size])), (h0_4, .inl (cI, 60, .inl s0_3_byPredicate_keys)), (h0_5, .inr (4, [.ref h0_6, .int s0_3_byObject_size])), (h0_6, .inl (cI, 60, .inl s0_3_byObject_keys))]) (hS : va_S A s.heap H locs) (ls : Array Slot) (hl : lv_has ls 3 [(0, .ref h0), (1, .int v1), (2, .int v2_2)]), W p l e rm_X5_remove s m ([.ref h0, .int v1] : List Value).toArray below meth c H locs 0 0 (MQ below (Q_X5_remove dC dI cI h0 h0_1 h0_2 h0_3 h0_4 h0_5 h0_6 ((s0_bySubject_keys, s0_bySubject_size), (s0_byPredicate_keys, s0_byPredicate_size), (s0_byObject_keys, s0_byObject_size)) A post) (([.ref h0, .int v1] : List Value).toArray) s 0 0 A) (F0 m 2 ls []) := by
    intro n_1
    induction n_1 using Nat.strongRecOn with
    | ind n_1 ih_1 =>
      intro v2_2 s0_3_bySubject_keys s0_3_bySubject_size s0_3_byPredicate_keys s0_3_byPredicate_size s0_3_byObject_keys s0_3_byObject_size h H locs hP hD hS ls hl
      have h := hI_1 n_1 _ h
      refine lv_iload_n hx hb dX5_remove_2 rfl (lv_at hl 2 rfl) ?_
      refine lv_iconst (v := (3 : Int32)) hx hb dX5_remove_3 (by decide) ?_
      obtain ⟨ht_, hf_⟩ := h
      refine lv_icmp_ge (tgt := 26) hx hb dX5_remove_4 (by decide) (fun c_4 => ?_) (fun c_4 => ?_)
      · have h := ht_ c_4
        exact W.vret hx hb hr (fun t ht hW => ⟨⟨((s0_3_bySubject_keys, s0_3_bySubject_size), (s0_3_byPredicate_keys, s0_3_byPredicate_size), (s0_3_byObject_keys, s0_3_byObject_size)), rfl, h, ⟨by rw [ht]; exact hP, hD⟩⟩, hS.F ht⟩) hS.2.2 dX5_remove_26
      · have h := hf_ c_4
        refine lv_aload_n hx hb dX5_remove_7 rfl (lv_at hl 0 rfl) ?_
        refine lv_iload_n hx hb dX5_remove_8 rfl (lv_at hl 2 rfl) ?_
        have hPc := hP.sub (ws' := [(h0, .inr (5, [.ref h0_1, .ref h0_3, .ref h0_5])), (h0_1, .inr (4, [.ref h0_2, .int s0_3_bySubject_size])), (h0_2, .inl (cI, 60, .inl s0_3_bySubject_keys)), (h0_3, .inr (4, [.ref h0_4, .int s0_3_byPredicate_size])), (h0_4, .inl (cI, 60, .inl s0_3_byPredicate_keys)), (h0_5, .inr (4, [.ref h0_6, .int s0_3_byObject_size])), (h0_6, .inl (cI, 60, .inl s0_3_byObject_keys))]) [0, 1, 2, 3, 4, 5, 6] rfl
        have hDc := hD.sub (ws' := [(h0, .inr (5, [.ref h0_1, .ref h0_3, .ref h0_5])), (h0_1, .inr (4, [.ref h0_2, .int s0_3_bySubject_size])), (h0_2, .inl (cI, 60, .inl s0_3_bySubject_keys)), (h0_3, .inr (4, [.ref h0_4, .int s0_3_byPredicate_size])), (h0_4, .inl (cI, 60, .inl s0_3_byPredicate_keys)), (h0_5, .inr (4, [.ref h0_6, .int s0_3_byObject_size])), (h0_6, .inl (cI, 60, .inl s0_3_byObject_keys))]) [0, 1, 2, 3, 4, 5, 6] (by decide) rfl
        have hFc := fr0 hA hS
        refine va_callr (va_runV (As := [.int v2_2]) (rest := []) ⟨hx, hb, hml, hown, hts⟩ (c_X5_in l dC dI cI h0 h0_1 h0_2 h0_3 h0_4 h0_5 h0_6 _ ((s0_3_bySubject_keys, s0_3_bySubject_size), (s0_3_byPredicate_keys, s0_3_byPredicate_size), (s0_3_byObject_keys, s0_3_byObject_size)) v2_2 _ h) (cwV 1 hts gX5_remove_X5_in rfl rfl rfl (by decide +kernel) ⟨Nat.le_of_ble_eq_true rfl, Nat.le_of_ble_eq_true rfl⟩) (pb_V hPc hK hDc hN (ci := 5) (q0 := 0) rfl rfl) rfl rfl hl.1 rfl (lv_room (Nat.le_of_ble_eq_true rfl)) dX5_remove_9 ⟨Nat.zero_le _, Nat.zero_le _⟩) hS (fun q _ h => hFc q h) hFc (fun u_5 ra t H locs ht hvm h hB hz1 hk1 hS => ?_)
        have hP := vaPk hP hk1
        rcases hB with ⟨hk_, hr_⟩ | ⟨hk_, hr_⟩ | ⟨hk_, hr_⟩
        · subst hk_; subst hr_; have h := h.1 rfl
          refine lv_iload_n hx hb dX5_remove_12 rfl (lv_at hl 1 rfl) ?_
          refine lv_iload_n hx hb dX5_remove_13 rfl (lv_at hl 2 rfl) ?_
          have hPc := hP.sub (ws' := []) [] rfl
          have hDc := hD.sub (ws' := []) [] (by decide) rfl
          have hFc := fr0 hA hS
          refine va_calli (va_runSN (As := [.int v1, .int v2_2]) (rest := [.ref h0_1]) ⟨hx, hb, hml, hown, hts⟩ (c_X7_rolled l dC dI cI  _ v1 v2_2 _ h) ⟨va_cnB 2 hts gX5_remove_X7_rolled_n36 rfl rfl rfl (nk_get hN 11 rfl) (hts (.initialized RX7) (by decide +kernel)) (by decide +kernel) ⟨Nat.le_of_ble_eq_true rfl, Nat.le_of_ble_eq_true rfl⟩, (hts (.static yX7_rolled) (by decide +kernel)), trivial⟩ (pb_S hPc hK hDc hN) rfl rfl hl.1 rfl (lv_room (Nat.le_of_ble_eq_true rfl)) dX5_remove_14 ⟨Nat.zero_le _, Nat.zero_le _⟩) hS (fun q _ h => hFc q h) hFc (fun r_8 u_7 t H locs ht hvm h hB hz1 hk1 hS => ?_)
          have hP := vaPk hP hk1
          have hPc := hP.sub (ws' := [(h0_1, .inr (4, [.ref h0_2, .int s0_3_bySubject_size])), (h0_2, .inl (cI, 60, .inl s0_3_bySubject_keys))]) [1, 2] rfl
          have hDc := hD.sub (ws' := [(h0_1, .inr (4, [.ref h0_2, .int s0_3_bySubject_size])), (h0_2, .inl (cI, 60, .inl s0_3_bySubject_keys))]) [1, 2] (by decide) rfl
          have hFc := va_free (wc := [(h0_1, .inr (4, [.ref h0_2, .int s0_3_bySubject_size])), (h0_2, .inl (cI, 60, .inl s0_3_bySubject_keys))]) hD hS hA [1, 2] rfl
          refine va_callv (va_runV (As := [.int r_8]) (rest := []) ⟨hx, hb, hml, hown, hts⟩ (c_X4_remove l dC dI cI h0_1 h0_2 _ (s0_3_bySubject_keys, s0_3_bySubject_size) r_8 _ h) (cwV 1 hts gX5_remove_X4_remove rfl rfl rfl (by decide +kernel) ⟨Nat.le_of_ble_eq_true rfl, Nat.le_of_ble_eq_true rfl⟩) (pb_V hPc hK hDc hN (ci := 4) (q0 := 0) rfl rfl) rfl rfl hl.1 rfl (lv_room (Nat.le_of_ble_eq_true rfl)) dX5_remove_17 ⟨Nat.zero_le _, Nat.zero_le _⟩) hS (fun q _ h => hFc q h) hFc (fun u_9 t H locs ht hvm h hB hz1 hk1 hS => ?_)
          obtain ⟨u_9_keys, u_9_size⟩ := u_9
          obtain ⟨hP1, hD1⟩ := hB
          rw [ht] at hP1
          obtain ⟨hP, hD⟩ := cl_join (wr := [(h0, .inr (5, [.ref h0_1, .ref h0_3, .ref h0_5])), (h0_3, .inr (4, [.ref h0_4, .int s0_3_byPredicate_size])), (h0_4, .inl (cI, 60, .inl s0_3_byPredicate_keys)), (h0_5, .inr (4, [.ref h0_6, .int s0_3_byObject_size])), (h0_6, .inl (cI, 60, .inl s0_3_byObject_keys))]) (w1 := [(h0_1, .inr (4, [.ref h0_2, .int u_9_size])), (h0_2, .inl (cI, 60, .inl u_9_keys))]) (ws' := [(h0, .inr (5, [.ref h0_1, .ref h0_3, .ref h0_5])), (h0_1, .inr (4, [.ref h0_2, .int u_9_size])), (h0_2, .inl (cI, 60, .inl u_9_keys)), (h0_3, .inr (4, [.ref h0_4, .int s0_3_byPredicate_size])), (h0_4, .inl (cI, 60, .inl s0_3_byPredicate_keys)), (h0_5, .inr (4, [.ref h0_6, .int s0_3_byObject_size])), (h0_6, .inl (cI, 60, .inl s0_3_byObject_keys))]) hP hD [1, 2] [0, 3, 4, 5, 6] [0, 5, 6, 1, 2, 3, 4] rfl rfl (by decide) (by decide) (by decide) rfl hk1 hFc hP1 hD1
          refine lv_iinc (v := (v2_2 + (1 : Int32))) (lv' := [(2, .int (v2_2 + (1 : Int32))), (0, .ref h0), (1, .int v1)]) hx hb dX5_remove_20 hl (k := 2) rfl rfl (by decide) rfl (fun ls hl => ?_)
          refine lv_goto (tgt := 2) hx hb dX5_remove_23 (by decide) ?_
          have hl : lv_has ls 3 [(0, .ref h0), (1, .int v1), (2, .int (v2_2 + (1 : Int32)))] := lv_sub hl [1, 2, 0] rfl
          obtain ⟨k_11, hk_12, h⟩ := h
          exact ih_1 k_11 hk_12 (v2_2 + (1 : Int32)) u_9_keys u_9_size s0_3_byPredicate_keys s0_3_byPredicate_size s0_3_byObject_keys s0_3_byObject_size h _ _ hP hD hS _ hl
        · subst hk_; subst hr_; have h := h.2.1 rfl
          refine lv_iload_n hx hb dX5_remove_12 rfl (lv_at hl 1 rfl) ?_
          refine lv_iload_n hx hb dX5_remove_13 rfl (lv_at hl 2 rfl) ?_
          have hPc := hP.sub (ws' := []) [] rfl
          have hDc := hD.sub (ws' := []) [] (by decide) rfl
          have hFc := fr0 hA hS
          refine va_calli (va_runSN (As := [.int v1, .int v2_2]) (rest := [.ref h0_3]) ⟨hx, hb, hml, hown, hts⟩ (c_X7_rolled l dC dI cI  _ v1 v2_2 _ h) ⟨va_cnB 2 hts gX5_remove_X7_rolled_n36 rfl rfl rfl (nk_get hN 11 rfl) (hts (.initialized RX7) (by decide +kernel)) (by decide +kernel) ⟨Nat.le_of_ble_eq_true rfl, Nat.le_of_ble_eq_true rfl⟩, (hts (.static yX7_rolled) (by decide +kernel)), trivial⟩ (pb_S hPc hK hDc hN) rfl rfl hl.1 rfl (lv_room (Nat.le_of_ble_eq_true rfl)) dX5_remove_14 ⟨Nat.zero_le _, Nat.zero_le _⟩) hS (fun q _ h => hFc q h) hFc (fun r_14 u_13 t H locs ht hvm h hB hz1 hk1 hS => ?_)
          have hP := vaPk hP hk1
          have hPc := hP.sub (ws' := [(h0_3, .inr (4, [.ref h0_4, .int s0_3_byPredicate_size])), (h0_4, .inl (cI, 60, .inl s0_3_byPredicate_keys))]) [3, 4] rfl
          have hDc := hD.sub (ws' := [(h0_3, .inr (4, [.ref h0_4, .int s0_3_byPredicate_size])), (h0_4, .inl (cI, 60, .inl s0_3_byPredicate_keys))]) [3, 4] (by decide) rfl
          have hFc := va_free (wc := [(h0_3, .inr (4, [.ref h0_4, .int s0_3_byPredicate_size])), (h0_4, .inl (cI, 60, .inl s0_3_byPredicate_keys))]) hD hS hA [3, 4] rfl
          refine va_callv (va_runV (As := [.int r_14]) (rest := []) ⟨hx, hb, hml, hown, hts⟩ (c_X4_remove l dC dI cI h0_3 h0_4 _ (s0_3_byPredicate_keys, s0_3_byPredicate_size) r_14 _ h) (cwV 1 hts gX5_remove_X4_remove rfl rfl rfl (by decide +kernel) ⟨Nat.le_of_ble_eq_true rfl, Nat.le_of_ble_eq_true rfl⟩) (pb_V hPc hK hDc hN (ci := 4) (q0 := 0) rfl rfl) rfl rfl hl.1 rfl (lv_room (Nat.le_of_ble_eq_true rfl)) dX5_remove_17 ⟨Nat.zero_le _, Nat.zero_le _⟩) hS (fun q _ h => hFc q h) hFc (fun u_15 t H locs ht hvm h hB hz1 hk1 hS => ?_)
          obtain ⟨u_15_keys, u_15_size⟩ := u_15
          obtain ⟨hP1, hD1⟩ := hB
          rw [ht] at hP1
          obtain ⟨hP, hD⟩ := cl_join (wr := [(h0, .inr (5, [.ref h0_1, .ref h0_3, .ref h0_5])), (h0_1, .inr (4, [.ref h0_2, .int s0_3_bySubject_size])), (h0_2, .inl (cI, 60, .inl s0_3_bySubject_keys)), (h0_5, .inr (4, [.ref h0_6, .int s0_3_byObject_size])), (h0_6, .inl (cI, 60, .inl s0_3_byObject_keys))]) (w1 := [(h0_3, .inr (4, [.ref h0_4, .int u_15_size])), (h0_4, .inl (cI, 60, .inl u_15_keys))]) (ws' := [(h0, .inr (5, [.ref h0_1, .ref h0_3, .ref h0_5])), (h0_1, .inr (4, [.ref h0_2, .int s0_3_bySubject_size])), (h0_2, .inl (cI, 60, .inl s0_3_bySubject_keys)), (h0_3, .inr (4, [.ref h0_4, .int u_15_size])), (h0_4, .inl (cI, 60, .inl u_15_keys)), (h0_5, .inr (4, [.ref h0_6, .int s0_3_byObject_size])), (h0_6, .inl (cI, 60, .inl s0_3_byObject_keys))]) hP hD [3, 4] [0, 1, 2, 5, 6] [0, 1, 2, 5, 6, 3, 4] rfl rfl (by decide) (by decide) (by decide) rfl hk1 hFc hP1 hD1
          refine lv_iinc (v := (v2_2 + (1 : Int32))) (lv' := [(2, .int (v2_2 + (1 : Int32))), (0, .ref h0), (1, .int v1)]) hx hb dX5_remove_20 hl (k := 2) rfl rfl (by decide) rfl (fun ls hl => ?_)
          refine lv_goto (tgt := 2) hx hb dX5_remove_23 (by decide) ?_
          have hl : lv_has ls 3 [(0, .ref h0), (1, .int v1), (2, .int (v2_2 + (1 : Int32)))] := lv_sub hl [1, 2, 0] rfl
          obtain ⟨k_17, hk_18, h⟩ := h
          exact ih_1 k_17 hk_18 (v2_2 + (1 : Int32)) s0_3_bySubject_keys s0_3_bySubject_size u_15_keys u_15_size s0_3_byObject_keys s0_3_byObject_size h _ _ hP hD hS _ hl
        · subst hk_; subst hr_; have h := h.2.2 rfl
          refine lv_iload_n hx hb dX5_remove_12 rfl (lv_at hl 1 rfl) ?_
          refine lv_iload_n hx hb dX5_remove_13 rfl (lv_at hl 2 rfl) ?_
          have hPc := hP.sub (ws' := []) [] rfl
          have hDc := hD.sub (ws' := []) [] (by decide) rfl
          have hFc := fr0 hA hS
          refine va_calli (va_runSN (As := [.int v1, .int v2_2]) (rest := [.ref h0_5]) ⟨hx, hb, hml, hown, hts⟩ (c_X7_rolled l dC dI cI  _ v1 v2_2 _ h) ⟨va_cnB 2 hts gX5_remove_X7_rolled_n36 rfl rfl rfl (nk_get hN 11 rfl) (hts (.initialized RX7) (by decide +kernel)) (by decide +kernel) ⟨Nat.le_of_ble_eq_true rfl, Nat.le_of_ble_eq_true rfl⟩, (hts (.static yX7_rolled) (by decide +kernel)), trivial⟩ (pb_S hPc hK hDc hN) rfl rfl hl.1 rfl (lv_room (Nat.le_of_ble_eq_true rfl)) dX5_remove_14 ⟨Nat.zero_le _, Nat.zero_le _⟩) hS (fun q _ h => hFc q h) hFc (fun r_20 u_19 t H locs ht hvm h hB hz1 hk1 hS => ?_)
          have hP := vaPk hP hk1
          have hPc := hP.sub (ws' := [(h0_5, .inr (4, [.ref h0_6, .int s0_3_byObject_size])), (h0_6, .inl (cI, 60, .inl s0_3_byObject_keys))]) [5, 6] rfl
          have hDc := hD.sub (ws' := [(h0_5, .inr (4, [.ref h0_6, .int s0_3_byObject_size])), (h0_6, .inl (cI, 60, .inl s0_3_byObject_keys))]) [5, 6] (by decide) rfl
          have hFc := va_free (wc := [(h0_5, .inr (4, [.ref h0_6, .int s0_3_byObject_size])), (h0_6, .inl (cI, 60, .inl s0_3_byObject_keys))]) hD hS hA [5, 6] rfl
          refine va_callv (va_runV (As := [.int r_20]) (rest := []) ⟨hx, hb, hml, hown, hts⟩ (c_X4_remove l dC dI cI h0_5 h0_6 _ (s0_3_byObject_keys, s0_3_byObject_size) r_20 _ h) (cwV 1 hts gX5_remove_X4_remove rfl rfl rfl (by decide +kernel) ⟨Nat.le_of_ble_eq_true rfl, Nat.le_of_ble_eq_true rfl⟩) (pb_V hPc hK hDc hN (ci := 4) (q0 := 0) rfl rfl) rfl rfl hl.1 rfl (lv_room (Nat.le_of_ble_eq_true rfl)) dX5_remove_17 ⟨Nat.zero_le _, Nat.zero_le _⟩) hS (fun q _ h => hFc q h) hFc (fun u_21 t H locs ht hvm h hB hz1 hk1 hS => ?_)
          obtain ⟨u_21_keys, u_21_size⟩ := u_21
          obtain ⟨hP1, hD1⟩ := hB
          rw [ht] at hP1
          obtain ⟨hP, hD⟩ := cl_join (wr := [(h0, .inr (5, [.ref h0_1, .ref h0_3, .ref h0_5])), (h0_1, .inr (4, [.ref h0_2, .int s0_3_bySubject_size])), (h0_2, .inl (cI, 60, .inl s0_3_bySubject_keys)), (h0_3, .inr (4, [.ref h0_4, .int s0_3_byPredicate_size])), (h0_4, .inl (cI, 60, .inl s0_3_byPredicate_keys))]) (w1 := [(h0_5, .inr (4, [.ref h0_6, .int u_21_size])), (h0_6, .inl (cI, 60, .inl u_21_keys))]) (ws' := [(h0, .inr (5, [.ref h0_1, .ref h0_3, .ref h0_5])), (h0_1, .inr (4, [.ref h0_2, .int s0_3_bySubject_size])), (h0_2, .inl (cI, 60, .inl s0_3_bySubject_keys)), (h0_3, .inr (4, [.ref h0_4, .int s0_3_byPredicate_size])), (h0_4, .inl (cI, 60, .inl s0_3_byPredicate_keys)), (h0_5, .inr (4, [.ref h0_6, .int u_21_size])), (h0_6, .inl (cI, 60, .inl u_21_keys))]) hP hD [5, 6] [0, 1, 2, 3, 4] [0, 1, 2, 3, 4, 5, 6] rfl rfl (by decide) (by decide) (by decide) rfl hk1 hFc hP1 hD1
          refine lv_iinc (v := (v2_2 + (1 : Int32))) (lv' := [(2, .int (v2_2 + (1 : Int32))), (0, .ref h0), (1, .int v1)]) hx hb dX5_remove_20 hl (k := 2) rfl rfl (by decide) rfl (fun ls hl => ?_)
          refine lv_goto (tgt := 2) hx hb dX5_remove_23 (by decide) ?_
          have hl : lv_has ls 3 [(0, .ref h0), (1, .int v1), (2, .int (v2_2 + (1 : Int32)))] := lv_sub hl [1, 2, 0] rfl
          obtain ⟨k_23, hk_24, h⟩ := h
          exact ih_1 k_23 hk_24 (v2_2 + (1 : Int32)) s0_3_bySubject_keys s0_3_bySubject_size s0_3_byPredicate_keys s0_3_byPredicate_size u_21_keys u_21_size h _ _ hP hD hS _ hl
  exact loop_1 n_1 (0 : Int32) s0_bySubject_keys s0_bySubject_size s0_byPredicate_keys s0_byPredicate_size s0_byObject_keys s0_byObject_size h _ _ hP hD hS _ hl
abbrev Q_X5_triple (dC : Nat → ClassId) (dI : Nat → Nat → Nat) (cI : ClassId) (h0 h0_1 h0_2 h0_3 h0_4 h0_5 h0_6 : Nat) (s0 : StoS) (A : Nat → Prop) (post : Int32 → Prop) : Array Value → State → Outcome → State → Prop := va_Qi (fun (r : Int32) (_ : Unit) => post r) (fun _ _ => True) A
abbrev rm_X5_triple : Room := { frames := 2, cells := 0, slots := 0, locals := 42 }
set_option maxHeartbeats 4000000 in
set_option maxRecDepth 100000 in
theorem c_X5_triple (l : Launch) (dC : Nat → ClassId) (dI : Nat → Nat → Nat) (cI : ClassId) (h0 h0_1 h0_2 h0_3 h0_4 h0_5 h0_6 : Nat) (sz : Nat) (s0 : StoS) (v1 : Int32) (v2 : Int32) (post : Int32 → Prop) (h : P_X5_triple s0 v1 v2 post) : Met l yX5_triple wsX5_triple rm_X5_triple (va_Pc [.ref h0, .int v1, .int v2] (cpre (dC, dI) [(cI, .int)] [(h0, .inr (5, [.ref h0_1, .ref h0_3, .ref h0_5])), (h0_1, .inr (4, [.ref h0_2, .int s0.bySubject.size])), (h0_2, .inl (cI, 60, .inl s0.bySubject.keys)), (h0_3, .inr (4, [.ref h0_4, .int s0.byPredicate.size])), (h0_4, .inl (cI, 60, .inl s0.byPredicate.keys)), (h0_5, .inr (4, [.ref h0_6, .int s0.byObject.size])), (h0_6, .inl (cI, 60, .inl s0.byObject.keys))] sz)) (Q_X5_triple dC dI cI h0 h0_1 h0_2 h0_3 h0_4 h0_5 h0_6 s0 (va_A [] sz) post) 0 0 (va_A [] sz) := by
  refine Met.ofW (cc := cX5_triple) (maxL := 3) (ret := (some .int)) (by decide) rfl ?_
  intro p e s m args below meth c s₁ B hml hv
  obtain ⟨rfl, hsz, hP, hK, hD0, hN⟩ := hv
  have hx := B.exec
  have hb := B.bytes
  have hr := B.returns
  have hts := atoms_spec (ws := wsX5_triple) B.pre
  have hown : s.vm.findClass RX5 = some m.cls := findClass_of_methodNamed B.named
  have hlocks := B.notSynchronized
  subst hsz
  have hD := hD0
  generalize hAe : va_A [] s.heap.size = A
  have hA : ∀ q : Nat, s.heap.size ≤ q → A q := fun q h => by rw [← hAe]; exact Or.inr h
  clear hAe hD0
  obtain ⟨⟨s0_bySubject_keys, s0_bySubject_size⟩, ⟨s0_byPredicate_keys, s0_byPredicate_size⟩, ⟨s0_byObject_keys, s0_byObject_size⟩⟩ := s0
  have hS : va_S A s.heap s.heap [] := va_S.rf
  have hP : va_P (dC, dI) vwCl [(h0, .inr (5, [.ref h0_1, .ref h0_3, .ref h0_5])), (h0_1, .inr (4, [.ref h0_2, .int s0_bySubject_size])), (h0_2, .inl (cI, 60, .inl s0_bySubject_keys)), (h0_3, .inr (4, [.ref h0_4, .int s0_byPredicate_size])), (h0_4, .inl (cI, 60, .inl s0_byPredicate_keys)), (h0_5, .inr (4, [.ref h0_6, .int s0_byObject_size])), (h0_6, .inl (cI, 60, .inl s0_byObject_keys))] s.heap := hP
  have hD : va_D (fun _ : Nat => True) [(h0, .inr (5, [.ref h0_1, .ref h0_3, .ref h0_5])), (h0_1, .inr (4, [.ref h0_2, .int s0_bySubject_size])), (h0_2, .inl (cI, 60, .inl s0_bySubject_keys)), (h0_3, .inr (4, [.ref h0_4, .int s0_byPredicate_size])), (h0_4, .inl (cI, 60, .inl s0_byPredicate_keys)), (h0_5, .inr (4, [.ref h0_6, .int s0_byObject_size])), (h0_6, .inl (cI, 60, .inl s0_byObject_keys))] := hD
  have hl := lv_entry ([.ref h0, .int v1, .int v2]) (n := 3) (Nat.le_of_ble_eq_true rfl)
  rw [lg_entry_eq]
  generalize (lg_sl ([.ref h0, .int v1, .int v2]) ++ List.replicate (3 - (lg_sl ([.ref h0, .int v1, .int v2])).length) Slot.unset).toArray = ls at hl ⊢
  have hl : lv_has ls 3 [(0, .ref h0), (1, .int v1), (2, .int v2)] := hl
  have lab_9 : ∀ (x0_1 : Int32) (h : P_X5_triple_j9 ((s0_bySubject_keys, s0_bySubject_size), (s0_byPredicate_keys, s0_byPredicate_size), (s0_byObject_keys, s0_byObject_size)) v1 x0_1 post) (H : Heap) (locs : List Loc) (hP : va_P (dC, dI) vwCl [(h0, .inr (5, [.ref h0_1, .ref h0_3, .ref h0_5])), (h0_1, .inr (4, [.ref h0_2, .int s0_bySubject_size])), (h0_2, .inl (cI, 60, .inl s0_bySubject_keys)), (h0_3, .inr (4, [.ref h0_4, .int s0_byPredicate_size])), (h0_4, .inl (cI, 60, .inl s0_byPredicate_keys)), (h0_5, .inr (4, [.ref h0_6, .int s0_byObject_size])), (h0_6, .inl (cI, 60, .inl s0_byObject_keys))] H) (hD : va_D (fun _ : Nat => True) [(h0, .inr (5, [.ref h0_1, .ref h0_3, .ref h0_5])), (h0_1, .inr (4, [.ref h0_2, .int s0_bySubject_size])), (h0_2, .inl (cI, 60, .inl s0_bySubject_keys)), (h0_3, .inr (4, [.ref h0_4, .int s0_byPredicate_size])), (h0_4, .inl (cI, 60, .inl s0_byPredicate_keys)), (h0_5, .inr (4, [.ref h0_6, .int s0_byObject_size])), (h0_6, .inl (cI, 60, .inl s0_byObject_keys))]) (hS : va_S A s.heap H locs) (ls : Array Slot) (hl : lv_has ls 3 [(1, .int v1)]), W p l e rm_X5_triple s m ([.ref h0, .int v1, .int v2] : List Value).toArray below meth c H locs 0 0 (MQ below (Q_X5_triple dC dI cI h0 h0_1 h0_2 h0_3 h0_4 h0_5 h0_6 ((s0_bySubject_keys, s0_bySubject_size), (s0_byPredicate_keys, s0_byPredicate_size), (s0_byObject_keys, s0_byObject_size)) A post) (([.ref h0, .int v1, .int v2] : List Value).toArray) s 0 0 A) (F0 m 9 ls [.int x0_1]) := by
    intro x0_1 h H locs hP hD hS ls hl
    refine lv_iload_n hx hb dX5_triple_9 rfl (lv_at hl 0 rfl) ?_
    have hPc := hP.sub (ws' := []) [] rfl
    have hDc := hD.sub (ws' := []) [] (by decide) rfl
    have hFc := fr0 hA hS
    refine va_calli (va_runSN (As := [.int x0_1, .int v1]) (rest := []) ⟨hx, hb, hml, hown, hts⟩ (c_X7_rolledBack l dC dI cI  _ x0_1 v1 _ h) ⟨va_cnB 2 hts gX5_triple_X7_rolledBack_n51 rfl rfl rfl (nk_get hN 12 rfl) (hts (.initialized RX7) (by decide +kernel)) (by decide +kernel) ⟨Nat.le_of_ble_eq_true rfl, Nat.le_of_ble_eq_true rfl⟩, (hts (.static yX7_rolledBack) (by decide +kernel)), trivial⟩ (pb_S hPc hK hDc hN) rfl rfl hl.1 rfl (lv_room (Nat.le_of_ble_eq_true rfl)) dX5_triple_10 ⟨Nat.zero_le _, Nat.zero_le _⟩) hS (fun q _ h => hFc q h) hFc (fun r_3 u_2 t H locs ht hvm h hB hz1 hk1 hS => ?_)
    have hP := vaPk hP hk1
    exact W.iret (v := r_3) hx hb hr (fun t ht hW => ⟨⟨r_3, (), rfl, h, trivial⟩, hS.F ht⟩) hS.2.2 dX5_triple_13
  refine lv_aload_n hx hb dX5_triple_0 rfl (lv_at hl 0 rfl) ?_
  refine lv_iload_n hx hb dX5_triple_1 rfl (lv_at hl 1 rfl) ?_
  have hPc := hP.sub (ws' := [(h0, .inr (5, [.ref h0_1, .ref h0_3, .ref h0_5])), (h0_1, .inr (4, [.ref h0_2, .int s0_bySubject_size])), (h0_2, .inl (cI, 60, .inl s0_bySubject_keys)), (h0_3, .inr (4, [.ref h0_4, .int s0_byPredicate_size])), (h0_4, .inl (cI, 60, .inl s0_byPredicate_keys)), (h0_5, .inr (4, [.ref h0_6, .int s0_byObject_size])), (h0_6, .inl (cI, 60, .inl s0_byObject_keys))]) [0, 1, 2, 3, 4, 5, 6] rfl
  have hDc := hD.sub (ws' := [(h0, .inr (5, [.ref h0_1, .ref h0_3, .ref h0_5])), (h0_1, .inr (4, [.ref h0_2, .int s0_bySubject_size])), (h0_2, .inl (cI, 60, .inl s0_bySubject_keys)), (h0_3, .inr (4, [.ref h0_4, .int s0_byPredicate_size])), (h0_4, .inl (cI, 60, .inl s0_byPredicate_keys)), (h0_5, .inr (4, [.ref h0_6, .int s0_byObject_size])), (h0_6, .inl (cI, 60, .inl s0_byObject_keys))]) [0, 1, 2, 3, 4, 5, 6] (by decide) rfl
  have hFc := fr0 hA hS
  refine va_callr (va_runV (As := [.int v1]) (rest := []) ⟨hx, hb, hml, hown, hts⟩ (c_X5_in l dC dI cI h0 h0_1 h0_2 h0_3 h0_4 h0_5 h0_6 _ ((s0_bySubject_keys, s0_bySubject_size), (s0_byPredicate_keys, s0_byPredicate_size), (s0_byObject_keys, s0_byObject_size)) v1 _ h) (cwV 1 hts gX5_triple_X5_in rfl rfl rfl (by decide +kernel) ⟨Nat.le_of_ble_eq_true rfl, Nat.le_of_ble_eq_true rfl⟩) (pb_V hPc hK hDc hN (ci := 5) (q0 := 0) rfl rfl) rfl rfl hl.1 rfl (lv_room (Nat.le_of_ble_eq_true rfl)) dX5_triple_2 ⟨Nat.zero_le _, Nat.zero_le _⟩) hS (fun q _ h => hFc q h) hFc (fun u_4 ra t H locs ht hvm h hB hz1 hk1 hS => ?_)
  have hP := vaPk hP hk1
  rcases hB with ⟨hk_, hr_⟩ | ⟨hk_, hr_⟩ | ⟨hk_, hr_⟩
  · subst hk_; subst hr_; have h := h.1 rfl
    refine lv_iload_n hx hb dX5_triple_5 rfl (lv_at hl 2 rfl) ?_
    have hPc := hP.sub (ws' := [(h0_1, .inr (4, [.ref h0_2, .int s0_bySubject_size])), (h0_2, .inl (cI, 60, .inl s0_bySubject_keys))]) [1, 2] rfl
    have hDc := hD.sub (ws' := [(h0_1, .inr (4, [.ref h0_2, .int s0_bySubject_size])), (h0_2, .inl (cI, 60, .inl s0_bySubject_keys))]) [1, 2] (by decide) rfl
    have hFc := fr0 hA hS
    refine va_calli (va_runV (As := [.int v2]) (rest := []) ⟨hx, hb, hml, hown, hts⟩ (c_X4_key l dC dI cI h0_1 h0_2 _ (s0_bySubject_keys, s0_bySubject_size) v2 _ h) (cwV 1 hts gX5_triple_X4_key rfl rfl rfl (by decide +kernel) ⟨Nat.le_of_ble_eq_true rfl, Nat.le_of_ble_eq_true rfl⟩) (pb_V hPc hK hDc hN (ci := 4) (q0 := 0) rfl rfl) rfl rfl hl.1 rfl (lv_room (Nat.le_of_ble_eq_true rfl)) dX5_triple_6 ⟨Nat.zero_le _, Nat.zero_le _⟩) hS (fun q _ h => hFc q h) hFc (fun r_7 u_6 t H locs ht hvm h hB hz1 hk1 hS => ?_)
    have hP := vaPk hP hk1
    have hl : lv_has ls 3 [(1, .int v1)] := lv_sub hl [1] rfl
    exact lab_9 r_7 h _ _ hP hD hS _ hl
  · subst hk_; subst hr_; have h := h.2.1 rfl
    refine lv_iload_n hx hb dX5_triple_5 rfl (lv_at hl 2 rfl) ?_
    have hPc := hP.sub (ws' := [(h0_3, .inr (4, [.ref h0_4, .int s0_byPredicate_size])), (h0_4, .inl (cI, 60, .inl s0_byPredicate_keys))]) [3, 4] rfl
    have hDc := hD.sub (ws' := [(h0_3, .inr (4, [.ref h0_4, .int s0_byPredicate_size])), (h0_4, .inl (cI, 60, .inl s0_byPredicate_keys))]) [3, 4] (by decide) rfl
    have hFc := fr0 hA hS
    refine va_calli (va_runV (As := [.int v2]) (rest := []) ⟨hx, hb, hml, hown, hts⟩ (c_X4_key l dC dI cI h0_3 h0_4 _ (s0_byPredicate_keys, s0_byPredicate_size) v2 _ h) (cwV 1 hts gX5_triple_X4_key rfl rfl rfl (by decide +kernel) ⟨Nat.le_of_ble_eq_true rfl, Nat.le_of_ble_eq_true rfl⟩) (pb_V hPc hK hDc hN (ci := 4) (q0 := 0) rfl rfl) rfl rfl hl.1 rfl (lv_room (Nat.le_of_ble_eq_true rfl)) dX5_triple_6 ⟨Nat.zero_le _, Nat.zero_le _⟩) hS (fun q _ h => hFc q h) hFc (fun r_9 u_8 t H locs ht hvm h hB hz1 hk1 hS => ?_)
    have hP := vaPk hP hk1
    have hl : lv_has ls 3 [(1, .int v1)] := lv_sub hl [1] rfl
    exact lab_9 r_9 h _ _ hP hD hS _ hl
  · subst hk_; subst hr_; have h := h.2.2 rfl
    refine lv_iload_n hx hb dX5_triple_5 rfl (lv_at hl 2 rfl) ?_
    have hPc := hP.sub (ws' := [(h0_5, .inr (4, [.ref h0_6, .int s0_byObject_size])), (h0_6, .inl (cI, 60, .inl s0_byObject_keys))]) [5, 6] rfl
    have hDc := hD.sub (ws' := [(h0_5, .inr (4, [.ref h0_6, .int s0_byObject_size])), (h0_6, .inl (cI, 60, .inl s0_byObject_keys))]) [5, 6] (by decide) rfl
    have hFc := fr0 hA hS
    refine va_calli (va_runV (As := [.int v2]) (rest := []) ⟨hx, hb, hml, hown, hts⟩ (c_X4_key l dC dI cI h0_5 h0_6 _ (s0_byObject_keys, s0_byObject_size) v2 _ h) (cwV 1 hts gX5_triple_X4_key rfl rfl rfl (by decide +kernel) ⟨Nat.le_of_ble_eq_true rfl, Nat.le_of_ble_eq_true rfl⟩) (pb_V hPc hK hDc hN (ci := 4) (q0 := 0) rfl rfl) rfl rfl hl.1 rfl (lv_room (Nat.le_of_ble_eq_true rfl)) dX5_triple_6 ⟨Nat.zero_le _, Nat.zero_le _⟩) hS (fun q _ h => hFc q h) hFc (fun r_11 u_10 t H locs ht hvm h hB hz1 hk1 hS => ?_)
    have hP := vaPk hP hk1
    have hl : lv_has ls 3 [(1, .int v1)] := lv_sub hl [1] rfl
    exact lab_9 r_11 h _ _ hP hD hS _ hl
abbrev Q_X5_end (dC : Nat → ClassId) (dI : Nat → Nat → Nat) (cI : ClassId) (h0 h0_1 h0_2 h0_3 h0_4 h0_5 h0_6 : Nat) (s0 : StoS) (A : Nat → Prop) (post : Int32 → Prop) : Array Value → State → Outcome → State → Prop := va_Qi (fun (r : Int32) (_ : Unit) => post r) (fun _ _ => True) A
abbrev rm_X5_end : Room := { frames := 2, cells := 0, slots := 0, locals := 45 }
set_option maxHeartbeats 4000000 in
set_option maxRecDepth 100000 in
theorem c_X5_end (l : Launch) (dC : Nat → ClassId) (dI : Nat → Nat → Nat) (cI : ClassId) (h0 h0_1 h0_2 h0_3 h0_4 h0_5 h0_6 : Nat) (sz : Nat) (s0 : StoS) (v1 : Int32) (v2 : Int32) (v3 : Int32) (post : Int32 → Prop) (h : P_X5_end s0 v1 v2 v3 post) : Met l yX5_end wsX5_end rm_X5_end (va_Pc [.ref h0, .int v1, .int v2, .int v3] (cpre (dC, dI) [(cI, .int)] [(h0, .inr (5, [.ref h0_1, .ref h0_3, .ref h0_5])), (h0_1, .inr (4, [.ref h0_2, .int s0.bySubject.size])), (h0_2, .inl (cI, 60, .inl s0.bySubject.keys)), (h0_3, .inr (4, [.ref h0_4, .int s0.byPredicate.size])), (h0_4, .inl (cI, 60, .inl s0.byPredicate.keys)), (h0_5, .inr (4, [.ref h0_6, .int s0.byObject.size])), (h0_6, .inl (cI, 60, .inl s0.byObject.keys))] sz)) (Q_X5_end dC dI cI h0 h0_1 h0_2 h0_3 h0_4 h0_5 h0_6 s0 (va_A [] sz) post) 0 0 (va_A [] sz) := by
  refine Met.ofW (cc := cX5_end) (maxL := 4) (ret := (some .int)) (by decide) rfl ?_
  intro p e s m args below meth c s₁ B hml hv
  obtain ⟨rfl, hsz, hP, hK, hD0, hN⟩ := hv
  have hx := B.exec
  have hb := B.bytes
  have hr := B.returns
  have hts := atoms_spec (ws := wsX5_end) B.pre
  have hown : s.vm.findClass RX5 = some m.cls := findClass_of_methodNamed B.named
  have hlocks := B.notSynchronized
  subst hsz
  have hD := hD0
  generalize hAe : va_A [] s.heap.size = A
  have hA : ∀ q : Nat, s.heap.size ≤ q → A q := fun q h => by rw [← hAe]; exact Or.inr h
  clear hAe hD0
  obtain ⟨⟨s0_bySubject_keys, s0_bySubject_size⟩, ⟨s0_byPredicate_keys, s0_byPredicate_size⟩, ⟨s0_byObject_keys, s0_byObject_size⟩⟩ := s0
  have hS : va_S A s.heap s.heap [] := va_S.rf
  have hP : va_P (dC, dI) vwCl [(h0, .inr (5, [.ref h0_1, .ref h0_3, .ref h0_5])), (h0_1, .inr (4, [.ref h0_2, .int s0_bySubject_size])), (h0_2, .inl (cI, 60, .inl s0_bySubject_keys)), (h0_3, .inr (4, [.ref h0_4, .int s0_byPredicate_size])), (h0_4, .inl (cI, 60, .inl s0_byPredicate_keys)), (h0_5, .inr (4, [.ref h0_6, .int s0_byObject_size])), (h0_6, .inl (cI, 60, .inl s0_byObject_keys))] s.heap := hP
  have hD : va_D (fun _ : Nat => True) [(h0, .inr (5, [.ref h0_1, .ref h0_3, .ref h0_5])), (h0_1, .inr (4, [.ref h0_2, .int s0_bySubject_size])), (h0_2, .inl (cI, 60, .inl s0_bySubject_keys)), (h0_3, .inr (4, [.ref h0_4, .int s0_byPredicate_size])), (h0_4, .inl (cI, 60, .inl s0_byPredicate_keys)), (h0_5, .inr (4, [.ref h0_6, .int s0_byObject_size])), (h0_6, .inl (cI, 60, .inl s0_byObject_keys))] := hD
  have hl := lv_entry ([.ref h0, .int v1, .int v2, .int v3]) (n := 4) (Nat.le_of_ble_eq_true rfl)
  rw [lg_entry_eq]
  generalize (lg_sl ([.ref h0, .int v1, .int v2, .int v3]) ++ List.replicate (4 - (lg_sl ([.ref h0, .int v1, .int v2, .int v3])).length) Slot.unset).toArray = ls at hl ⊢
  have hl : lv_has ls 4 [(0, .ref h0), (1, .int v1), (2, .int v2), (3, .int v3)] := hl
  refine lv_aload_n hx hb dX5_end_0 rfl (lv_at hl 0 rfl) ?_
  refine lv_iload_n hx hb dX5_end_1 rfl (lv_at hl 1 rfl) ?_
  have hPc := hP.sub (ws' := [(h0, .inr (5, [.ref h0_1, .ref h0_3, .ref h0_5])), (h0_1, .inr (4, [.ref h0_2, .int s0_bySubject_size])), (h0_2, .inl (cI, 60, .inl s0_bySubject_keys)), (h0_3, .inr (4, [.ref h0_4, .int s0_byPredicate_size])), (h0_4, .inl (cI, 60, .inl s0_byPredicate_keys)), (h0_5, .inr (4, [.ref h0_6, .int s0_byObject_size])), (h0_6, .inl (cI, 60, .inl s0_byObject_keys))]) [0, 1, 2, 3, 4, 5, 6] rfl
  have hDc := hD.sub (ws' := [(h0, .inr (5, [.ref h0_1, .ref h0_3, .ref h0_5])), (h0_1, .inr (4, [.ref h0_2, .int s0_bySubject_size])), (h0_2, .inl (cI, 60, .inl s0_bySubject_keys)), (h0_3, .inr (4, [.ref h0_4, .int s0_byPredicate_size])), (h0_4, .inl (cI, 60, .inl s0_byPredicate_keys)), (h0_5, .inr (4, [.ref h0_6, .int s0_byObject_size])), (h0_6, .inl (cI, 60, .inl s0_byObject_keys))]) [0, 1, 2, 3, 4, 5, 6] (by decide) rfl
  have hFc := fr0 hA hS
  refine va_callr (va_runV (As := [.int v1]) (rest := []) ⟨hx, hb, hml, hown, hts⟩ (c_X5_in l dC dI cI h0 h0_1 h0_2 h0_3 h0_4 h0_5 h0_6 _ ((s0_bySubject_keys, s0_bySubject_size), (s0_byPredicate_keys, s0_byPredicate_size), (s0_byObject_keys, s0_byObject_size)) v1 _ h) (cwV 1 hts gX5_end_X5_in rfl rfl rfl (by decide +kernel) ⟨Nat.le_of_ble_eq_true rfl, Nat.le_of_ble_eq_true rfl⟩) (pb_V hPc hK hDc hN (ci := 5) (q0 := 0) rfl rfl) rfl rfl hl.1 rfl (lv_room (Nat.le_of_ble_eq_true rfl)) dX5_end_2 ⟨Nat.zero_le _, Nat.zero_le _⟩) hS (fun q _ h => hFc q h) hFc (fun u_1 ra t H locs ht hvm h hB hz1 hk1 hS => ?_)
  have hP := vaPk hP hk1
  rcases hB with ⟨hk_, hr_⟩ | ⟨hk_, hr_⟩ | ⟨hk_, hr_⟩
  · subst hk_; subst hr_; have h := h.1 rfl
    refine lv_iload_n hx hb dX5_end_5 rfl (lv_at hl 3 rfl) ?_
    refine lv_ldc (v := (262143 : Int32)) hx hb hown (hts (.constant RX5 57 (262143 : Int32)) (by decide +kernel)) dX5_end_6 ?_
    refine lv_iload_n hx hb dX5_end_8 rfl (lv_at hl 2 rfl) ?_
    refine lv_iconst (v := (-1 : Int32)) hx hb dX5_end_9 (by decide) ?_
    refine lv_ixor hx hb dX5_end_10 ?_
    refine lv_iand hx hb dX5_end_11 ?_
    refine lv_ior hx hb dX5_end_12 ?_
    refine lv_iload_n hx hb dX5_end_13 rfl (lv_at hl 1 rfl) ?_
    have hPc := hP.sub (ws' := []) [] rfl
    have hDc := hD.sub (ws' := []) [] (by decide) rfl
    have hFc := fr0 hA hS
    refine va_calli (va_runSN (As := [.int (v3 ||| ((262143 : Int32) &&& (v2 ^^^ (-1 : Int32)))), .int v1]) (rest := [.ref h0_1]) ⟨hx, hb, hml, hown, hts⟩ (c_X7_rolled l dC dI cI  _ (v3 ||| ((262143 : Int32) &&& (v2 ^^^ (-1 : Int32)))) v1 _ h) ⟨va_cnB 2 hts gX5_end_X7_rolled_n36 rfl rfl rfl (nk_get hN 11 rfl) (hts (.initialized RX7) (by decide +kernel)) (by decide +kernel) ⟨Nat.le_of_ble_eq_true rfl, Nat.le_of_ble_eq_true rfl⟩, (hts (.static yX7_rolled) (by decide +kernel)), trivial⟩ (pb_S hPc hK hDc hN) rfl rfl hl.1 rfl (lv_room (Nat.le_of_ble_eq_true rfl)) dX5_end_14 ⟨Nat.zero_le _, Nat.zero_le _⟩) hS (fun q _ h => hFc q h) hFc (fun r_4 u_3 t H locs ht hvm h hB hz1 hk1 hS => ?_)
    have hP := vaPk hP hk1
    refine lv_iconst (v := (1 : Int32)) hx hb dX5_end_17 (by decide) ?_
    refine lv_iadd hx hb dX5_end_18 ?_
    have hPc := hP.sub (ws' := [(h0_1, .inr (4, [.ref h0_2, .int s0_bySubject_size])), (h0_2, .inl (cI, 60, .inl s0_bySubject_keys))]) [1, 2] rfl
    have hDc := hD.sub (ws' := [(h0_1, .inr (4, [.ref h0_2, .int s0_bySubject_size])), (h0_2, .inl (cI, 60, .inl s0_bySubject_keys))]) [1, 2] (by decide) rfl
    have hFc := fr0 hA hS
    refine va_calli (va_runV (As := [.int (r_4 + (1 : Int32))]) (rest := []) ⟨hx, hb, hml, hown, hts⟩ (c_X4_placeOf l dC dI cI h0_1 h0_2 _ (s0_bySubject_keys, s0_bySubject_size) (r_4 + (1 : Int32)) _ h) (cwV 1 hts gX5_end_X4_placeOf rfl rfl rfl (by decide +kernel) ⟨Nat.le_of_ble_eq_true rfl, Nat.le_of_ble_eq_true rfl⟩) (pb_V hPc hK hDc hN (ci := 4) (q0 := 0) rfl rfl) rfl rfl hl.1 rfl (lv_room (Nat.le_of_ble_eq_true rfl)) dX5_end_19 ⟨Nat.zero_le _, Nat.zero_le _⟩) hS (fun q _ h => hFc q h) hFc (fun r_6 u_5 t H locs ht hvm h hB hz1 hk1 hS => ?_)
    have hP := vaPk hP hk1
    exact W.iret (v := r_6) hx hb hr (fun t ht hW => ⟨⟨r_6, (), rfl, h, trivial⟩, hS.F ht⟩) hS.2.2 dX5_end_22
  · subst hk_; subst hr_; have h := h.2.1 rfl
    refine lv_iload_n hx hb dX5_end_5 rfl (lv_at hl 3 rfl) ?_
    refine lv_ldc (v := (262143 : Int32)) hx hb hown (hts (.constant RX5 57 (262143 : Int32)) (by decide +kernel)) dX5_end_6 ?_
    refine lv_iload_n hx hb dX5_end_8 rfl (lv_at hl 2 rfl) ?_
    refine lv_iconst (v := (-1 : Int32)) hx hb dX5_end_9 (by decide) ?_
    refine lv_ixor hx hb dX5_end_10 ?_
    refine lv_iand hx hb dX5_end_11 ?_
    refine lv_ior hx hb dX5_end_12 ?_
    refine lv_iload_n hx hb dX5_end_13 rfl (lv_at hl 1 rfl) ?_
    have hPc := hP.sub (ws' := []) [] rfl
    have hDc := hD.sub (ws' := []) [] (by decide) rfl
    have hFc := fr0 hA hS
    refine va_calli (va_runSN (As := [.int (v3 ||| ((262143 : Int32) &&& (v2 ^^^ (-1 : Int32)))), .int v1]) (rest := [.ref h0_3]) ⟨hx, hb, hml, hown, hts⟩ (c_X7_rolled l dC dI cI  _ (v3 ||| ((262143 : Int32) &&& (v2 ^^^ (-1 : Int32)))) v1 _ h) ⟨va_cnB 2 hts gX5_end_X7_rolled_n36 rfl rfl rfl (nk_get hN 11 rfl) (hts (.initialized RX7) (by decide +kernel)) (by decide +kernel) ⟨Nat.le_of_ble_eq_true rfl, Nat.le_of_ble_eq_true rfl⟩, (hts (.static yX7_rolled) (by decide +kernel)), trivial⟩ (pb_S hPc hK hDc hN) rfl rfl hl.1 rfl (lv_room (Nat.le_of_ble_eq_true rfl)) dX5_end_14 ⟨Nat.zero_le _, Nat.zero_le _⟩) hS (fun q _ h => hFc q h) hFc (fun r_8 u_7 t H locs ht hvm h hB hz1 hk1 hS => ?_)
    have hP := vaPk hP hk1
    refine lv_iconst (v := (1 : Int32)) hx hb dX5_end_17 (by decide) ?_
    refine lv_iadd hx hb dX5_end_18 ?_
    have hPc := hP.sub (ws' := [(h0_3, .inr (4, [.ref h0_4, .int s0_byPredicate_size])), (h0_4, .inl (cI, 60, .inl s0_byPredicate_keys))]) [3, 4] rfl
    have hDc := hD.sub (ws' := [(h0_3, .inr (4, [.ref h0_4, .int s0_byPredicate_size])), (h0_4, .inl (cI, 60, .inl s0_byPredicate_keys))]) [3, 4] (by decide) rfl
    have hFc := fr0 hA hS
    refine va_calli (va_runV (As := [.int (r_8 + (1 : Int32))]) (rest := []) ⟨hx, hb, hml, hown, hts⟩ (c_X4_placeOf l dC dI cI h0_3 h0_4 _ (s0_byPredicate_keys, s0_byPredicate_size) (r_8 + (1 : Int32)) _ h) (cwV 1 hts gX5_end_X4_placeOf rfl rfl rfl (by decide +kernel) ⟨Nat.le_of_ble_eq_true rfl, Nat.le_of_ble_eq_true rfl⟩) (pb_V hPc hK hDc hN (ci := 4) (q0 := 0) rfl rfl) rfl rfl hl.1 rfl (lv_room (Nat.le_of_ble_eq_true rfl)) dX5_end_19 ⟨Nat.zero_le _, Nat.zero_le _⟩) hS (fun q _ h => hFc q h) hFc (fun r_10 u_9 t H locs ht hvm h hB hz1 hk1 hS => ?_)
    have hP := vaPk hP hk1
    exact W.iret (v := r_10) hx hb hr (fun t ht hW => ⟨⟨r_10, (), rfl, h, trivial⟩, hS.F ht⟩) hS.2.2 dX5_end_22
  · subst hk_; subst hr_; have h := h.2.2 rfl
    refine lv_iload_n hx hb dX5_end_5 rfl (lv_at hl 3 rfl) ?_
    refine lv_ldc (v := (262143 : Int32)) hx hb hown (hts (.constant RX5 57 (262143 : Int32)) (by decide +kernel)) dX5_end_6 ?_
    refine lv_iload_n hx hb dX5_end_8 rfl (lv_at hl 2 rfl) ?_
    refine lv_iconst (v := (-1 : Int32)) hx hb dX5_end_9 (by decide) ?_
    refine lv_ixor hx hb dX5_end_10 ?_
    refine lv_iand hx hb dX5_end_11 ?_
    refine lv_ior hx hb dX5_end_12 ?_
    refine lv_iload_n hx hb dX5_end_13 rfl (lv_at hl 1 rfl) ?_
    have hPc := hP.sub (ws' := []) [] rfl
    have hDc := hD.sub (ws' := []) [] (by decide) rfl
    have hFc := fr0 hA hS
    refine va_calli (va_runSN (As := [.int (v3 ||| ((262143 : Int32) &&& (v2 ^^^ (-1 : Int32)))), .int v1]) (rest := [.ref h0_5]) ⟨hx, hb, hml, hown, hts⟩ (c_X7_rolled l dC dI cI  _ (v3 ||| ((262143 : Int32) &&& (v2 ^^^ (-1 : Int32)))) v1 _ h) ⟨va_cnB 2 hts gX5_end_X7_rolled_n36 rfl rfl rfl (nk_get hN 11 rfl) (hts (.initialized RX7) (by decide +kernel)) (by decide +kernel) ⟨Nat.le_of_ble_eq_true rfl, Nat.le_of_ble_eq_true rfl⟩, (hts (.static yX7_rolled) (by decide +kernel)), trivial⟩ (pb_S hPc hK hDc hN) rfl rfl hl.1 rfl (lv_room (Nat.le_of_ble_eq_true rfl)) dX5_end_14 ⟨Nat.zero_le _, Nat.zero_le _⟩) hS (fun q _ h => hFc q h) hFc (fun r_12 u_11 t H locs ht hvm h hB hz1 hk1 hS => ?_)
    have hP := vaPk hP hk1
    refine lv_iconst (v := (1 : Int32)) hx hb dX5_end_17 (by decide) ?_
    refine lv_iadd hx hb dX5_end_18 ?_
    have hPc := hP.sub (ws' := [(h0_5, .inr (4, [.ref h0_6, .int s0_byObject_size])), (h0_6, .inl (cI, 60, .inl s0_byObject_keys))]) [5, 6] rfl
    have hDc := hD.sub (ws' := [(h0_5, .inr (4, [.ref h0_6, .int s0_byObject_size])), (h0_6, .inl (cI, 60, .inl s0_byObject_keys))]) [5, 6] (by decide) rfl
    have hFc := fr0 hA hS
    refine va_calli (va_runV (As := [.int (r_12 + (1 : Int32))]) (rest := []) ⟨hx, hb, hml, hown, hts⟩ (c_X4_placeOf l dC dI cI h0_5 h0_6 _ (s0_byObject_keys, s0_byObject_size) (r_12 + (1 : Int32)) _ h) (cwV 1 hts gX5_end_X4_placeOf rfl rfl rfl (by decide +kernel) ⟨Nat.le_of_ble_eq_true rfl, Nat.le_of_ble_eq_true rfl⟩) (pb_V hPc hK hDc hN (ci := 4) (q0 := 0) rfl rfl) rfl rfl hl.1 rfl (lv_room (Nat.le_of_ble_eq_true rfl)) dX5_end_19 ⟨Nat.zero_le _, Nat.zero_le _⟩) hS (fun q _ h => hFc q h) hFc (fun r_14 u_13 t H locs ht hvm h hB hz1 hk1 hS => ?_)
    have hP := vaPk hP hk1
    exact W.iret (v := r_14) hx hb hr (fun t ht hW => ⟨⟨r_14, (), rfl, h, trivial⟩, hS.F ht⟩) hS.2.2 dX5_end_22
abbrev Q_X5_begin (dC : Nat → ClassId) (dI : Nat → Nat → Nat) (cI : ClassId) (h0 h0_1 h0_2 h0_3 h0_4 h0_5 h0_6 : Nat) (s0 : StoS) (A : Nat → Prop) (post : Int32 → Prop) : Array Value → State → Outcome → State → Prop := va_Qi (fun (r : Int32) (_ : Unit) => post r) (fun _ _ => True) A
abbrev rm_X5_begin : Room := { frames := 2, cells := 0, slots := 0, locals := 45 }
set_option maxHeartbeats 4000000 in
set_option maxRecDepth 100000 in
theorem c_X5_begin (l : Launch) (dC : Nat → ClassId) (dI : Nat → Nat → Nat) (cI : ClassId) (h0 h0_1 h0_2 h0_3 h0_4 h0_5 h0_6 : Nat) (sz : Nat) (s0 : StoS) (v1 : Int32) (v2 : Int32) (post : Int32 → Prop) (h : P_X5_begin s0 v1 v2 post) : Met l yX5_begin wsX5_begin rm_X5_begin (va_Pc [.ref h0, .int v1, .int v2] (cpre (dC, dI) [(cI, .int)] [(h0, .inr (5, [.ref h0_1, .ref h0_3, .ref h0_5])), (h0_1, .inr (4, [.ref h0_2, .int s0.bySubject.size])), (h0_2, .inl (cI, 60, .inl s0.bySubject.keys)), (h0_3, .inr (4, [.ref h0_4, .int s0.byPredicate.size])), (h0_4, .inl (cI, 60, .inl s0.byPredicate.keys)), (h0_5, .inr (4, [.ref h0_6, .int s0.byObject.size])), (h0_6, .inl (cI, 60, .inl s0.byObject.keys))] sz)) (Q_X5_begin dC dI cI h0 h0_1 h0_2 h0_3 h0_4 h0_5 h0_6 s0 (va_A [] sz) post) 0 0 (va_A [] sz) := by
  refine Met.ofW (cc := cX5_begin) (maxL := 3) (ret := (some .int)) (by decide) rfl ?_
  intro p e s m args below meth c s₁ B hml hv
  obtain ⟨rfl, hsz, hP, hK, hD0, hN⟩ := hv
  have hx := B.exec
  have hb := B.bytes
  have hr := B.returns
  have hts := atoms_spec (ws := wsX5_begin) B.pre
  have hown : s.vm.findClass RX5 = some m.cls := findClass_of_methodNamed B.named
  have hlocks := B.notSynchronized
  subst hsz
  have hD := hD0
  generalize hAe : va_A [] s.heap.size = A
  have hA : ∀ q : Nat, s.heap.size ≤ q → A q := fun q h => by rw [← hAe]; exact Or.inr h
  clear hAe hD0
  obtain ⟨⟨s0_bySubject_keys, s0_bySubject_size⟩, ⟨s0_byPredicate_keys, s0_byPredicate_size⟩, ⟨s0_byObject_keys, s0_byObject_size⟩⟩ := s0
  have hS : va_S A s.heap s.heap [] := va_S.rf
  have hP : va_P (dC, dI) vwCl [(h0, .inr (5, [.ref h0_1, .ref h0_3, .ref h0_5])), (h0_1, .inr (4, [.ref h0_2, .int s0_bySubject_size])), (h0_2, .inl (cI, 60, .inl s0_bySubject_keys)), (h0_3, .inr (4, [.ref h0_4, .int s0_byPredicate_size])), (h0_4, .inl (cI, 60, .inl s0_byPredicate_keys)), (h0_5, .inr (4, [.ref h0_6, .int s0_byObject_size])), (h0_6, .inl (cI, 60, .inl s0_byObject_keys))] s.heap := hP
  have hD : va_D (fun _ : Nat => True) [(h0, .inr (5, [.ref h0_1, .ref h0_3, .ref h0_5])), (h0_1, .inr (4, [.ref h0_2, .int s0_bySubject_size])), (h0_2, .inl (cI, 60, .inl s0_bySubject_keys)), (h0_3, .inr (4, [.ref h0_4, .int s0_byPredicate_size])), (h0_4, .inl (cI, 60, .inl s0_byPredicate_keys)), (h0_5, .inr (4, [.ref h0_6, .int s0_byObject_size])), (h0_6, .inl (cI, 60, .inl s0_byObject_keys))] := hD
  have hl := lv_entry ([.ref h0, .int v1, .int v2]) (n := 3) (Nat.le_of_ble_eq_true rfl)
  rw [lg_entry_eq]
  generalize (lg_sl ([.ref h0, .int v1, .int v2]) ++ List.replicate (3 - (lg_sl ([.ref h0, .int v1, .int v2])).length) Slot.unset).toArray = ls at hl ⊢
  have hl : lv_has ls 3 [(0, .ref h0), (1, .int v1), (2, .int v2)] := hl
  refine lv_aload_n hx hb dX5_begin_0 rfl (lv_at hl 0 rfl) ?_
  refine lv_iload_n hx hb dX5_begin_1 rfl (lv_at hl 1 rfl) ?_
  have hPc := hP.sub (ws' := [(h0, .inr (5, [.ref h0_1, .ref h0_3, .ref h0_5])), (h0_1, .inr (4, [.ref h0_2, .int s0_bySubject_size])), (h0_2, .inl (cI, 60, .inl s0_bySubject_keys)), (h0_3, .inr (4, [.ref h0_4, .int s0_byPredicate_size])), (h0_4, .inl (cI, 60, .inl s0_byPredicate_keys)), (h0_5, .inr (4, [.ref h0_6, .int s0_byObject_size])), (h0_6, .inl (cI, 60, .inl s0_byObject_keys))]) [0, 1, 2, 3, 4, 5, 6] rfl
  have hDc := hD.sub (ws' := [(h0, .inr (5, [.ref h0_1, .ref h0_3, .ref h0_5])), (h0_1, .inr (4, [.ref h0_2, .int s0_bySubject_size])), (h0_2, .inl (cI, 60, .inl s0_bySubject_keys)), (h0_3, .inr (4, [.ref h0_4, .int s0_byPredicate_size])), (h0_4, .inl (cI, 60, .inl s0_byPredicate_keys)), (h0_5, .inr (4, [.ref h0_6, .int s0_byObject_size])), (h0_6, .inl (cI, 60, .inl s0_byObject_keys))]) [0, 1, 2, 3, 4, 5, 6] (by decide) rfl
  have hFc := fr0 hA hS
  refine va_callr (va_runV (As := [.int v1]) (rest := []) ⟨hx, hb, hml, hown, hts⟩ (c_X5_in l dC dI cI h0 h0_1 h0_2 h0_3 h0_4 h0_5 h0_6 _ ((s0_bySubject_keys, s0_bySubject_size), (s0_byPredicate_keys, s0_byPredicate_size), (s0_byObject_keys, s0_byObject_size)) v1 _ h) (cwV 1 hts gX5_begin_X5_in rfl rfl rfl (by decide +kernel) ⟨Nat.le_of_ble_eq_true rfl, Nat.le_of_ble_eq_true rfl⟩) (pb_V hPc hK hDc hN (ci := 5) (q0 := 0) rfl rfl) rfl rfl hl.1 rfl (lv_room (Nat.le_of_ble_eq_true rfl)) dX5_begin_2 ⟨Nat.zero_le _, Nat.zero_le _⟩) hS (fun q _ h => hFc q h) hFc (fun u_1 ra t H locs ht hvm h hB hz1 hk1 hS => ?_)
  have hP := vaPk hP hk1
  rcases hB with ⟨hk_, hr_⟩ | ⟨hk_, hr_⟩ | ⟨hk_, hr_⟩
  · subst hk_; subst hr_; have h := h.1 rfl
    refine lv_iload_n hx hb dX5_begin_5 rfl (lv_at hl 2 rfl) ?_
    refine lv_iload_n hx hb dX5_begin_6 rfl (lv_at hl 1 rfl) ?_
    have hPc := hP.sub (ws' := []) [] rfl
    have hDc := hD.sub (ws' := []) [] (by decide) rfl
    have hFc := fr0 hA hS
    refine va_calli (va_runSN (As := [.int v2, .int v1]) (rest := [.ref h0_1]) ⟨hx, hb, hml, hown, hts⟩ (c_X7_rolled l dC dI cI  _ v2 v1 _ h) ⟨va_cnB 2 hts gX5_begin_X7_rolled_n36 rfl rfl rfl (nk_get hN 11 rfl) (hts (.initialized RX7) (by decide +kernel)) (by decide +kernel) ⟨Nat.le_of_ble_eq_true rfl, Nat.le_of_ble_eq_true rfl⟩, (hts (.static yX7_rolled) (by decide +kernel)), trivial⟩ (pb_S hPc hK hDc hN) rfl rfl hl.1 rfl (lv_room (Nat.le_of_ble_eq_true rfl)) dX5_begin_7 ⟨Nat.zero_le _, Nat.zero_le _⟩) hS (fun q _ h => hFc q h) hFc (fun r_4 u_3 t H locs ht hvm h hB hz1 hk1 hS => ?_)
    have hP := vaPk hP hk1
    have hPc := hP.sub (ws' := [(h0_1, .inr (4, [.ref h0_2, .int s0_bySubject_size])), (h0_2, .inl (cI, 60, .inl s0_bySubject_keys))]) [1, 2] rfl
    have hDc := hD.sub (ws' := [(h0_1, .inr (4, [.ref h0_2, .int s0_bySubject_size])), (h0_2, .inl (cI, 60, .inl s0_bySubject_keys))]) [1, 2] (by decide) rfl
    have hFc := fr0 hA hS
    refine va_calli (va_runV (As := [.int r_4]) (rest := []) ⟨hx, hb, hml, hown, hts⟩ (c_X4_placeOf l dC dI cI h0_1 h0_2 _ (s0_bySubject_keys, s0_bySubject_size) r_4 _ h) (cwV 1 hts gX5_begin_X4_placeOf rfl rfl rfl (by decide +kernel) ⟨Nat.le_of_ble_eq_true rfl, Nat.le_of_ble_eq_true rfl⟩) (pb_V hPc hK hDc hN (ci := 4) (q0 := 0) rfl rfl) rfl rfl hl.1 rfl (lv_room (Nat.le_of_ble_eq_true rfl)) dX5_begin_10 ⟨Nat.zero_le _, Nat.zero_le _⟩) hS (fun q _ h => hFc q h) hFc (fun r_6 u_5 t H locs ht hvm h hB hz1 hk1 hS => ?_)
    have hP := vaPk hP hk1
    exact W.iret (v := r_6) hx hb hr (fun t ht hW => ⟨⟨r_6, (), rfl, h, trivial⟩, hS.F ht⟩) hS.2.2 dX5_begin_13
  · subst hk_; subst hr_; have h := h.2.1 rfl
    refine lv_iload_n hx hb dX5_begin_5 rfl (lv_at hl 2 rfl) ?_
    refine lv_iload_n hx hb dX5_begin_6 rfl (lv_at hl 1 rfl) ?_
    have hPc := hP.sub (ws' := []) [] rfl
    have hDc := hD.sub (ws' := []) [] (by decide) rfl
    have hFc := fr0 hA hS
    refine va_calli (va_runSN (As := [.int v2, .int v1]) (rest := [.ref h0_3]) ⟨hx, hb, hml, hown, hts⟩ (c_X7_rolled l dC dI cI  _ v2 v1 _ h) ⟨va_cnB 2 hts gX5_begin_X7_rolled_n36 rfl rfl rfl (nk_get hN 11 rfl) (hts (.initialized RX7) (by decide +kernel)) (by decide +kernel) ⟨Nat.le_of_ble_eq_true rfl, Nat.le_of_ble_eq_true rfl⟩, (hts (.static yX7_rolled) (by decide +kernel)), trivial⟩ (pb_S hPc hK hDc hN) rfl rfl hl.1 rfl (lv_room (Nat.le_of_ble_eq_true rfl)) dX5_begin_7 ⟨Nat.zero_le _, Nat.zero_le _⟩) hS (fun q _ h => hFc q h) hFc (fun r_8 u_7 t H locs ht hvm h hB hz1 hk1 hS => ?_)
    have hP := vaPk hP hk1
    have hPc := hP.sub (ws' := [(h0_3, .inr (4, [.ref h0_4, .int s0_byPredicate_size])), (h0_4, .inl (cI, 60, .inl s0_byPredicate_keys))]) [3, 4] rfl
    have hDc := hD.sub (ws' := [(h0_3, .inr (4, [.ref h0_4, .int s0_byPredicate_size])), (h0_4, .inl (cI, 60, .inl s0_byPredicate_keys))]) [3, 4] (by decide) rfl
    have hFc := fr0 hA hS
    refine va_calli (va_runV (As := [.int r_8]) (rest := []) ⟨hx, hb, hml, hown, hts⟩ (c_X4_placeOf l dC dI cI h0_3 h0_4 _ (s0_byPredicate_keys, s0_byPredicate_size) r_8 _ h) (cwV 1 hts gX5_begin_X4_placeOf rfl rfl rfl (by decide +kernel) ⟨Nat.le_of_ble_eq_true rfl, Nat.le_of_ble_eq_true rfl⟩) (pb_V hPc hK hDc hN (ci := 4) (q0 := 0) rfl rfl) rfl rfl hl.1 rfl (lv_room (Nat.le_of_ble_eq_true rfl)) dX5_begin_10 ⟨Nat.zero_le _, Nat.zero_le _⟩) hS (fun q _ h => hFc q h) hFc (fun r_10 u_9 t H locs ht hvm h hB hz1 hk1 hS => ?_)
    have hP := vaPk hP hk1
    exact W.iret (v := r_10) hx hb hr (fun t ht hW => ⟨⟨r_10, (), rfl, h, trivial⟩, hS.F ht⟩) hS.2.2 dX5_begin_13
  · subst hk_; subst hr_; have h := h.2.2 rfl
    refine lv_iload_n hx hb dX5_begin_5 rfl (lv_at hl 2 rfl) ?_
    refine lv_iload_n hx hb dX5_begin_6 rfl (lv_at hl 1 rfl) ?_
    have hPc := hP.sub (ws' := []) [] rfl
    have hDc := hD.sub (ws' := []) [] (by decide) rfl
    have hFc := fr0 hA hS
    refine va_calli (va_runSN (As := [.int v2, .int v1]) (rest := [.ref h0_5]) ⟨hx, hb, hml, hown, hts⟩ (c_X7_rolled l dC dI cI  _ v2 v1 _ h) ⟨va_cnB 2 hts gX5_begin_X7_rolled_n36 rfl rfl rfl (nk_get hN 11 rfl) (hts (.initialized RX7) (by decide +kernel)) (by decide +kernel) ⟨Nat.le_of_ble_eq_true rfl, Nat.le_of_ble_eq_true rfl⟩, (hts (.static yX7_rolled) (by decide +kernel)), trivial⟩ (pb_S hPc hK hDc hN) rfl rfl hl.1 rfl (lv_room (Nat.le_of_ble_eq_true rfl)) dX5_begin_7 ⟨Nat.zero_le _, Nat.zero_le _⟩) hS (fun q _ h => hFc q h) hFc (fun r_12 u_11 t H locs ht hvm h hB hz1 hk1 hS => ?_)
    have hP := vaPk hP hk1
    have hPc := hP.sub (ws' := [(h0_5, .inr (4, [.ref h0_6, .int s0_byObject_size])), (h0_6, .inl (cI, 60, .inl s0_byObject_keys))]) [5, 6] rfl
    have hDc := hD.sub (ws' := [(h0_5, .inr (4, [.ref h0_6, .int s0_byObject_size])), (h0_6, .inl (cI, 60, .inl s0_byObject_keys))]) [5, 6] (by decide) rfl
    have hFc := fr0 hA hS
    refine va_calli (va_runV (As := [.int r_12]) (rest := []) ⟨hx, hb, hml, hown, hts⟩ (c_X4_placeOf l dC dI cI h0_5 h0_6 _ (s0_byObject_keys, s0_byObject_size) r_12 _ h) (cwV 1 hts gX5_begin_X4_placeOf rfl rfl rfl (by decide +kernel) ⟨Nat.le_of_ble_eq_true rfl, Nat.le_of_ble_eq_true rfl⟩) (pb_V hPc hK hDc hN (ci := 4) (q0 := 0) rfl rfl) rfl rfl hl.1 rfl (lv_room (Nat.le_of_ble_eq_true rfl)) dX5_begin_10 ⟨Nat.zero_le _, Nat.zero_le _⟩) hS (fun q _ h => hFc q h) hFc (fun r_14 u_13 t H locs ht hvm h hB hz1 hk1 hS => ?_)
    have hP := vaPk hP hk1
    exact W.iret (v := r_14) hx hb hr (fun t ht hW => ⟨⟨r_14, (), rfl, h, trivial⟩, hS.F ht⟩) hS.2.2 dX5_begin_13
abbrev Q_X5_all (dC : Nat → ClassId) (dI : Nat → Nat → Nat) (cI : ClassId) (h0 h0_1 h0_2 h0_3 h0_4 h0_5 h0_6 : Nat) (s0 : StoS) (A : Nat → Prop) (post : Nat → Prop) : Array Value → State → Outcome → State → Prop := va_Qr (fun (k : Nat) => post k) (fun (k : Nat) (ra : Nat) (_ : State) => (k = 0 ∧ h0_1 = ra)) A
abbrev rm_X5_all : Room := { frames := 0, cells := 0, slots := 0, locals := 0 }
set_option maxHeartbeats 4000000 in
set_option maxRecDepth 100000 in
theorem c_X5_all (l : Launch) (dC : Nat → ClassId) (dI : Nat → Nat → Nat) (cI : ClassId) (h0 h0_1 h0_2 h0_3 h0_4 h0_5 h0_6 : Nat) (sz : Nat) (s0 : StoS) (post : Nat → Prop) (h : P_X5_all s0 post) : Met l yX5_all wsX5_all rm_X5_all (va_Pc [.ref h0] (cpre (dC, dI) [(cI, .int)] [(h0, .inr (5, [.ref h0_1, .ref h0_3, .ref h0_5])), (h0_1, .inr (4, [.ref h0_2, .int s0.bySubject.size])), (h0_2, .inl (cI, 60, .inl s0.bySubject.keys)), (h0_3, .inr (4, [.ref h0_4, .int s0.byPredicate.size])), (h0_4, .inl (cI, 60, .inl s0.byPredicate.keys)), (h0_5, .inr (4, [.ref h0_6, .int s0.byObject.size])), (h0_6, .inl (cI, 60, .inl s0.byObject.keys))] sz)) (Q_X5_all dC dI cI h0 h0_1 h0_2 h0_3 h0_4 h0_5 h0_6 s0 (va_A [] sz) post) 0 0 (va_A [] sz) := by
  refine Met.ofW (cc := cX5_all) (maxL := 1) (ret := (some (.object "TripleJoins$Sorted"))) (by decide) rfl ?_
  intro p e s m args below meth c s₁ B hml hv
  obtain ⟨rfl, hsz, hP, hK, hD0, hN⟩ := hv
  have hx := B.exec
  have hb := B.bytes
  have hr := B.returns
  have hts := atoms_spec (ws := wsX5_all) B.pre
  have hown : s.vm.findClass RX5 = some m.cls := findClass_of_methodNamed B.named
  have hlocks := B.notSynchronized
  subst hsz
  have hD := hD0
  generalize hAe : va_A [] s.heap.size = A
  have hA : ∀ q : Nat, s.heap.size ≤ q → A q := fun q h => by rw [← hAe]; exact Or.inr h
  clear hAe hD0
  obtain ⟨⟨s0_bySubject_keys, s0_bySubject_size⟩, ⟨s0_byPredicate_keys, s0_byPredicate_size⟩, ⟨s0_byObject_keys, s0_byObject_size⟩⟩ := s0
  have hS : va_S A s.heap s.heap [] := va_S.rf
  have hP : va_P (dC, dI) vwCl [(h0, .inr (5, [.ref h0_1, .ref h0_3, .ref h0_5])), (h0_1, .inr (4, [.ref h0_2, .int s0_bySubject_size])), (h0_2, .inl (cI, 60, .inl s0_bySubject_keys)), (h0_3, .inr (4, [.ref h0_4, .int s0_byPredicate_size])), (h0_4, .inl (cI, 60, .inl s0_byPredicate_keys)), (h0_5, .inr (4, [.ref h0_6, .int s0_byObject_size])), (h0_6, .inl (cI, 60, .inl s0_byObject_keys))] s.heap := hP
  have hD : va_D (fun _ : Nat => True) [(h0, .inr (5, [.ref h0_1, .ref h0_3, .ref h0_5])), (h0_1, .inr (4, [.ref h0_2, .int s0_bySubject_size])), (h0_2, .inl (cI, 60, .inl s0_bySubject_keys)), (h0_3, .inr (4, [.ref h0_4, .int s0_byPredicate_size])), (h0_4, .inl (cI, 60, .inl s0_byPredicate_keys)), (h0_5, .inr (4, [.ref h0_6, .int s0_byObject_size])), (h0_6, .inl (cI, 60, .inl s0_byObject_keys))] := hD
  have hl := lv_entry ([.ref h0]) (n := 1) (Nat.le_of_ble_eq_true rfl)
  rw [lg_entry_eq]
  generalize (lg_sl ([.ref h0]) ++ List.replicate (1 - (lg_sl ([.ref h0])).length) Slot.unset).toArray = ls at hl ⊢
  have hl : lv_has ls 1 [(0, .ref h0)] := hl
  have hinX5 : ∀ w ∈ u_ws RX5 TX5 3, w ∈ wsX5_all := by decide +kernel
  refine lv_aload_n hx hb dX5_all_0 rfl (lv_at hl 0 rfl) ?_
  refine va_get (D := (dC, dI)) (ci := 5) (v := .ref h0_1) (C := RX5) (T := TX5) (N := 3) hx hb hts (hinX5) hown hK hP 0 rfl rfl 0 (by decide) (hts (.fieldLink RX5 12 "TripleJoins$Store" "bySubject" "LTripleJoins$Sorted;") (by decide +kernel)) (fun _ h9 => h9) rfl dX5_all_1 ?_
  exact W.aret (v := .ref h0_1) hx hb hr (Or.inl ⟨_, rfl⟩) (Or.inr ⟨_, rfl⟩) (fun t ht hW => ⟨⟨0, h0_1, rfl, h, ⟨rfl, rfl⟩⟩, hS.F ht⟩) hS.2.2 dX5_all_4
