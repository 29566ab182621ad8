set_option maxHeartbeats 4000000 in
set_option maxRecDepth 100000 in
theorem sg_L_bounds_5 (l : Launch) (hst : l.stackTraces = false) {p : Program} {e : Env} {s : State} {m : MethodId} {below : List Frame} {meth : Method} {c : Code} (C0 : LC p s m (([] : List Value).toArray) meth c cL_bounds 3 wq_bounds) {dC : Nat → ClassId} {dI : Nat → Nat → Nat} {cI : ClassId} (hK : va_K (dC, dI) vwCl [(cI, .int)] s) (hN : nk s) {A : Nat → Prop} (hX : xj A s) (hC : xnc s) (hA : ∀ q : Nat, s.heap.size ≤ q → A q) (h0 h0_1 h0_2 h0_3 h0_4 h0_5 h0_6 h0_7 h0_8 h0_9 h0_10 h0_11 h0_12 h0_13 h0_14 h0_15 h0_16 h0_17 h0_18 h0_19 h0_20 h0_21 h0_22 h0_25 h0_26 h0_29 h0_30 : Nat) (post : Int32 → Prop) (s0 : TriS) (h : P_L_bounds_5 s0 post) (h0_23 h0_24 h0_27 h0_28 : Nat) (H : Heap) (locs : List Loc) (hP : va_P (dC, dI) vwCl (lwO cI h0 h0_1 h0_2 h0_3 h0_4 h0_5 h0_6 h0_7 h0_8 h0_9 h0_10 h0_11 h0_12 h0_13 h0_14 h0_15 h0_16 h0_17 h0_18 h0_19 h0_20 h0_21 h0_22 h0_23 h0_24 h0_25 h0_26 h0_27 h0_28 h0_29 h0_30 s0) H) (hD : va_D A (lwO cI h0 h0_1 h0_2 h0_3 h0_4 h0_5 h0_6 h0_7 h0_8 h0_9 h0_10 h0_11 h0_12 h0_13 h0_14 h0_15 h0_16 h0_17 h0_18 h0_19 h0_20 h0_21 h0_22 h0_23 h0_24 h0_25 h0_26 h0_27 h0_28 h0_29 h0_30 s0)) (hS : va_S A s.heap H locs) (ls : Array Slot) (hl : lv_has ls 3 [(0, .ref h0), (1, .int (31 : Int32))]) : W p l e rm_L_bounds s m (([] : List Value).toArray) below meth c H locs 65 10039 (MQ below (Q_L_bounds dC dI cI A post) (([] : List Value).toArray) s mc_L_bounds ms_L_bounds A) (F0 m 118 ls []) := by
  obtain ⟨hx, hb, hr, hml, hown, hts, hlocks⟩ := id C0
  refine lv_iinc (v := (32 : Int32)) (lv' := [(1, .int (32 : Int32)), (0, .ref h0)]) hx hb dL_bounds_118 hl (k := 1) rfl (by decide) (by decide) rfl (fun ls hl => ?_)
  refine lv_goto (tgt := 38) hx hb dL_bounds_121 (by decide) ?_
  refine lv_iload_n hx hb dL_bounds_38 rfl (lv_at hl 0 rfl) ?_
  refine lv_bipush (v := (60 : Int32)) hx hb dL_bounds_39 (by decide) ?_
  refine lv_icmp_ge (tgt := 124) hx hb dL_bounds_41 (by decide) (fun c_336 => absurd c_336 (by decide)) (fun c_336 => ?_)
  refine lv_iload_n hx hb dL_bounds_44 rfl (lv_at hl 0 rfl) ?_
  refine lv_bipush (v := (44 : Int32)) hx hb dL_bounds_45 (by decide) ?_
  refine lv_icmp_ne (tgt := 96) hx hb dL_bounds_47 (by decide) (fun c_337 => ?_) (fun c_337 => absurd c_337 (by decide))
  refine lv_aload_n hx hb dL_bounds_96 rfl (lv_at hl 1 rfl) ?_
  refine lv_iload_n hx hb dL_bounds_97 rfl (lv_at hl 0 rfl) ?_
  refine lv_bipush (v := (9 : Int32)) hx hb dL_bounds_98 (by decide) ?_
  refine lv_idiv hx hb dL_bounds_100 (by decide) ?_
  refine lv_lit (b := (3 : Int32)) (by decide) ?_
  refine lv_bipush (v := (10 : Int32)) hx hb dL_bounds_101 (by decide) ?_
  refine lv_bipush (v := (20 : Int32)) hx hb dL_bounds_103 (by decide) ?_
  refine lv_iload_n hx hb dL_bounds_105 rfl (lv_at hl 0 rfl) ?_
  refine lv_bipush (v := (9 : Int32)) hx hb dL_bounds_106 (by decide) ?_
  refine lv_irem hx hb dL_bounds_108 (by decide) ?_
  refine lv_lit (b := (5 : Int32)) (by decide) ?_
  refine lv_iadd hx hb dL_bounds_109 ?_
  refine lv_lit (b := (25 : Int32)) (by decide) ?_
  have hFc := frw hD hS hA
  refine vx_calli (vx_runV (As := [.int (3 : Int32), .int (10 : Int32), .int (25 : Int32)]) (rest := []) ⟨hx, hb, hml, hown, hts⟩ (c_X7_state l hst dC dI cI h0 h0_1 h0_2 h0_3 h0_4 h0_5 h0_6 h0_7 h0_8 h0_9 h0_10 h0_11 h0_12 h0_13 h0_14 h0_15 h0_16 h0_17 h0_18 h0_19 h0_20 h0_21 h0_22 h0_23 h0_24 h0_25 h0_26 h0_27 h0_28 h0_29 h0_30 _ s0 (3 : Int32) (10 : Int32) (25 : Int32) _ _ h) (cwV 3 hts (goodIn_up gB_X7_state) rfl rfl rfl (by decide +kernel) ⟨Nat.le_of_ble_eq_true rfl, Nat.le_of_ble_eq_true rfl⟩) (pbj_V hP hK hD hN hX hFc hS (ci := 7) (q0 := 0) rfl rfl) rfl rfl hl.1 rfl (lv_room (Nat.le_of_ble_eq_true rfl)) dL_bounds_110 ⟨Nat.le_of_ble_eq_true rfl, Nat.le_of_ble_eq_true rfl⟩) hS (fun q _ h => hFc q h) hFc (fun q _ h => hFc q h) (fun E9 ce9 q9 u t H locs ht hvm h hB hz1 hk1 hS hce hcv hcl => (show False from h).elim) (fun r_339 u_338 t H locs ht hvm h hB hz1 hk1 hS => ?_)
  obtain ⟨m_340, m_341, m_342, m_343, hP1, hD1⟩ := hB
  rw [ht] at hP1
  have hP : va_P (dC, dI) vwCl (lwO cI h0 h0_1 h0_2 h0_3 h0_4 h0_5 h0_6 h0_7 h0_8 h0_9 h0_10 h0_11 h0_12 h0_13 h0_14 h0_15 h0_16 h0_17 h0_18 h0_19 h0_20 h0_21 h0_22 m_340 m_341 h0_25 h0_26 m_342 m_343 h0_29 h0_30 u_338) H := hP1
  have hD : va_D A (lwO cI h0 h0_1 h0_2 h0_3 h0_4 h0_5 h0_6 h0_7 h0_8 h0_9 h0_10 h0_11 h0_12 h0_13 h0_14 h0_15 h0_16 h0_17 h0_18 h0_19 h0_20 h0_21 h0_22 m_340 m_341 h0_25 h0_26 m_342 m_343 h0_29 h0_30 u_338) := hD1.weaken (fun _ _ _ h => hFc _ h)
  refine W.widen (k := 66) (n := 10045) (Nat.le_of_ble_eq_true rfl) (Nat.le_of_ble_eq_true rfl) ?_
  obtain ⟨ht_, hf_⟩ := h
  refine lv_if_ne (tgt := 118) hx hb dL_bounds_113 (by decide) (fun c_344 => ?_) (fun c_344 => ?_)
  · have h := ht_ c_344
    refine lv_iinc (v := (33 : Int32)) (lv' := [(1, .int (33 : Int32)), (0, .ref h0)]) hx hb dL_bounds_118 hl (k := 0) rfl (by decide) (by decide) rfl (fun ls hl => ?_)
    refine lv_goto (tgt := 38) hx hb dL_bounds_121 (by decide) ?_
    refine lv_iload_n hx hb dL_bounds_38 rfl (lv_at hl 0 rfl) ?_
    refine lv_bipush (v := (60 : Int32)) hx hb dL_bounds_39 (by decide) ?_
    refine lv_icmp_ge (tgt := 124) hx hb dL_bounds_41 (by decide) (fun c_345 => absurd c_345 (by decide)) (fun c_345 => ?_)
    refine lv_iload_n hx hb dL_bounds_44 rfl (lv_at hl 0 rfl) ?_
    refine lv_bipush (v := (44 : Int32)) hx hb dL_bounds_45 (by decide) ?_
    refine lv_icmp_ne (tgt := 96) hx hb dL_bounds_47 (by decide) (fun c_346 => ?_) (fun c_346 => absurd c_346 (by decide))
    refine lv_aload_n hx hb dL_bounds_96 rfl (lv_at hl 1 rfl) ?_
    refine lv_iload_n hx hb dL_bounds_97 rfl (lv_at hl 0 rfl) ?_
    refine lv_bipush (v := (9 : Int32)) hx hb dL_bounds_98 (by decide) ?_
    refine lv_idiv hx hb dL_bounds_100 (by decide) ?_
    refine lv_lit (b := (3 : Int32)) (by decide) ?_
    refine lv_bipush (v := (10 : Int32)) hx hb dL_bounds_101 (by decide) ?_
    refine lv_bipush (v := (20 : Int32)) hx hb dL_bounds_103 (by decide) ?_
    refine lv_iload_n hx hb dL_bounds_105 rfl (lv_at hl 0 rfl) ?_
    refine lv_bipush (v := (9 : Int32)) hx hb dL_bounds_106 (by decide) ?_
    refine lv_irem hx hb dL_bounds_108 (by decide) ?_
    refine lv_lit (b := (6 : Int32)) (by decide) ?_
    refine lv_iadd hx hb dL_bounds_109 ?_
    refine lv_lit (b := (26 : Int32)) (by decide) ?_
    have hFc := frw hD hS hA
    refine vx_calli (vx_runV (As := [.int (3 : Int32), .int (10 : Int32), .int (26 : Int32)]) (rest := []) ⟨hx, hb, hml, hown, hts⟩ (c_X7_state l hst dC dI cI h0 h0_1 h0_2 h0_3 h0_4 h0_5 h0_6 h0_7 h0_8 h0_9 h0_10 h0_11 h0_12 h0_13 h0_14 h0_15 h0_16 h0_17 h0_18 h0_19 h0_20 h0_21 h0_22 m_340 m_341 h0_25 h0_26 m_342 m_343 h0_29 h0_30 _ u_338 (3 : Int32) (10 : Int32) (26 : Int32) _ _ h) (cwV 3 hts (goodIn_up gB_X7_state) rfl rfl rfl (by decide +kernel) ⟨Nat.le_of_ble_eq_true rfl, Nat.le_of_ble_eq_true rfl⟩) (pbj_V hP hK hD hN hX hFc hS (ci := 7) (q0 := 0) rfl rfl) rfl rfl hl.1 rfl (lv_room (Nat.le_of_ble_eq_true rfl)) dL_bounds_110 ⟨Nat.le_of_ble_eq_true rfl, Nat.le_of_ble_eq_true rfl⟩) hS (fun q _ h => hFc q h) hFc (fun q _ h => hFc q h) (fun E9 ce9 q9 u t H locs ht hvm h hB hz1 hk1 hS hce hcv hcl => (show False from h).elim) (fun r_348 u_347 t H locs ht hvm h hB hz1 hk1 hS => ?_)
    obtain ⟨m_349, m_350, m_351, m_352, hP1, hD1⟩ := hB
    rw [ht] at hP1
    have hP : va_P (dC, dI) vwCl (lwO cI h0 h0_1 h0_2 h0_3 h0_4 h0_5 h0_6 h0_7 h0_8 h0_9 h0_10 h0_11 h0_12 h0_13 h0_14 h0_15 h0_16 h0_17 h0_18 h0_19 h0_20 h0_21 h0_22 m_349 m_350 h0_25 h0_26 m_351 m_352 h0_29 h0_30 u_347) H := hP1
    have hD : va_D A (lwO cI h0 h0_1 h0_2 h0_3 h0_4 h0_5 h0_6 h0_7 h0_8 h0_9 h0_10 h0_11 h0_12 h0_13 h0_14 h0_15 h0_16 h0_17 h0_18 h0_19 h0_20 h0_21 h0_22 m_349 m_350 h0_25 h0_26 m_351 m_352 h0_29 h0_30 u_347) := hD1.weaken (fun _ _ _ h => hFc _ h)
    refine W.widen (k := 67) (n := 10051) (Nat.le_of_ble_eq_true rfl) (Nat.le_of_ble_eq_true rfl) ?_
    obtain ⟨ht_, hf_⟩ := h
    refine lv_if_ne (tgt := 118) hx hb dL_bounds_113 (by decide) (fun c_353 => ?_) (fun c_353 => ?_)
    · have h := ht_ c_353
      refine lv_iinc (v := (34 : Int32)) (lv' := [(1, .int (34 : Int32)), (0, .ref h0)]) hx hb dL_bounds_118 hl (k := 0) rfl (by decide) (by decide) rfl (fun ls hl => ?_)
      refine lv_goto (tgt := 38) hx hb dL_bounds_121 (by decide) ?_
      refine lv_iload_n hx hb dL_bounds_38 rfl (lv_at hl 0 rfl) ?_
      refine lv_bipush (v := (60 : Int32)) hx hb dL_bounds_39 (by decide) ?_
      refine lv_icmp_ge (tgt := 124) hx hb dL_bounds_41 (by decide) (fun c_354 => absurd c_354 (by decide)) (fun c_354 => ?_)
      refine lv_iload_n hx hb dL_bounds_44 rfl (lv_at hl 0 rfl) ?_
      refine lv_bipush (v := (44 : Int32)) hx hb dL_bounds_45 (by decide) ?_
      refine lv_icmp_ne (tgt := 96) hx hb dL_bounds_47 (by decide) (fun c_355 => ?_) (fun c_355 => absurd c_355 (by decide))
      refine lv_aload_n hx hb dL_bounds_96 rfl (lv_at hl 1 rfl) ?_
      refine lv_iload_n hx hb dL_bounds_97 rfl (lv_at hl 0 rfl) ?_
      refine lv_bipush (v := (9 : Int32)) hx hb dL_bounds_98 (by decide) ?_
      refine lv_idiv hx hb dL_bounds_100 (by decide) ?_
      refine lv_lit (b := (3 : Int32)) (by decide) ?_
      refine lv_bipush (v := (10 : Int32)) hx hb dL_bounds_101 (by decide) ?_
      refine lv_bipush (v := (20 : Int32)) hx hb dL_bounds_103 (by decide) ?_
      refine lv_iload_n hx hb dL_bounds_105 rfl (lv_at hl 0 rfl) ?_
      refine lv_bipush (v := (9 : Int32)) hx hb dL_bounds_106 (by decide) ?_
      refine lv_irem hx hb dL_bounds_108 (by decide) ?_
      refine lv_lit (b := (7 : Int32)) (by decide) ?_
      refine lv_iadd hx hb dL_bounds_109 ?_
      refine lv_lit (b := (27 : Int32)) (by decide) ?_
      have hFc := frw hD hS hA
      refine vx_calli (vx_runV (As := [.int (3 : Int32), .int (10 : Int32), .int (27 : Int32)]) (rest := []) ⟨hx, hb, hml, hown, hts⟩ (c_X7_state l hst dC dI cI h0 h0_1 h0_2 h0_3 h0_4 h0_5 h0_6 h0_7 h0_8 h0_9 h0_10 h0_11 h0_12 h0_13 h0_14 h0_15 h0_16 h0_17 h0_18 h0_19 h0_20 h0_21 h0_22 m_349 m_350 h0_25 h0_26 m_351 m_352 h0_29 h0_30 _ u_347 (3 : Int32) (10 : Int32) (27 : Int32) _ _ h) (cwV 3 hts (goodIn_up gB_X7_state) rfl rfl rfl (by decide +kernel) ⟨Nat.le_of_ble_eq_true rfl, Nat.le_of_ble_eq_true rfl⟩) (pbj_V hP hK hD hN hX hFc hS (ci := 7) (q0 := 0) rfl rfl) rfl rfl hl.1 rfl (lv_room (Nat.le_of_ble_eq_true rfl)) dL_bounds_110 ⟨Nat.le_of_ble_eq_true rfl, Nat.le_of_ble_eq_true rfl⟩) hS (fun q _ h => hFc q h) hFc (fun q _ h => hFc q h) (fun E9 ce9 q9 u t H locs ht hvm h hB hz1 hk1 hS hce hcv hcl => (show False from h).elim) (fun r_357 u_356 t H locs ht hvm h hB hz1 hk1 hS => ?_)
      obtain ⟨m_358, m_359, m_360, m_361, hP1, hD1⟩ := hB
      rw [ht] at hP1
      have hP : va_P (dC, dI) vwCl (lwO cI h0 h0_1 h0_2 h0_3 h0_4 h0_5 h0_6 h0_7 h0_8 h0_9 h0_10 h0_11 h0_12 h0_13 h0_14 h0_15 h0_16 h0_17 h0_18 h0_19 h0_20 h0_21 h0_22 m_358 m_359 h0_25 h0_26 m_360 m_361 h0_29 h0_30 u_356) H := hP1
      have hD : va_D A (lwO cI h0 h0_1 h0_2 h0_3 h0_4 h0_5 h0_6 h0_7 h0_8 h0_9 h0_10 h0_11 h0_12 h0_13 h0_14 h0_15 h0_16 h0_17 h0_18 h0_19 h0_20 h0_21 h0_22 m_358 m_359 h0_25 h0_26 m_360 m_361 h0_29 h0_30 u_356) := hD1.weaken (fun _ _ _ h => hFc _ h)
      refine W.widen (k := 68) (n := 10057) (Nat.le_of_ble_eq_true rfl) (Nat.le_of_ble_eq_true rfl) ?_
      obtain ⟨ht_, hf_⟩ := h
      refine lv_if_ne (tgt := 118) hx hb dL_bounds_113 (by decide) (fun c_362 => ?_) (fun c_362 => ?_)
      · have h := ht_ c_362
        refine lv_iinc (v := (35 : Int32)) (lv' := [(1, .int (35 : Int32)), (0, .ref h0)]) hx hb dL_bounds_118 hl (k := 0) rfl (by decide) (by decide) rfl (fun ls hl => ?_)
        refine lv_goto (tgt := 38) hx hb dL_bounds_121 (by decide) ?_
        refine lv_iload_n hx hb dL_bounds_38 rfl (lv_at hl 0 rfl) ?_
        refine lv_bipush (v := (60 : Int32)) hx hb dL_bounds_39 (by decide) ?_
        refine lv_icmp_ge (tgt := 124) hx hb dL_bounds_41 (by decide) (fun c_363 => absurd c_363 (by decide)) (fun c_363 => ?_)
        refine lv_iload_n hx hb dL_bounds_44 rfl (lv_at hl 0 rfl) ?_
        refine lv_bipush (v := (44 : Int32)) hx hb dL_bounds_45 (by decide) ?_
        refine lv_icmp_ne (tgt := 96) hx hb dL_bounds_47 (by decide) (fun c_364 => ?_) (fun c_364 => absurd c_364 (by decide))
        refine lv_aload_n hx hb dL_bounds_96 rfl (lv_at hl 1 rfl) ?_
        refine lv_iload_n hx hb dL_bounds_97 rfl (lv_at hl 0 rfl) ?_
        refine lv_bipush (v := (9 : Int32)) hx hb dL_bounds_98 (by decide) ?_
        refine lv_idiv hx hb dL_bounds_100 (by decide) ?_
        refine lv_lit (b := (3 : Int32)) (by decide) ?_
        refine lv_bipush (v := (10 : Int32)) hx hb dL_bounds_101 (by decide) ?_
        refine lv_bipush (v := (20 : Int32)) hx hb dL_bounds_103 (by decide) ?_
        refine lv_iload_n hx hb dL_bounds_105 rfl (lv_at hl 0 rfl) ?_
        refine lv_bipush (v := (9 : Int32)) hx hb dL_bounds_106 (by decide) ?_
        refine lv_irem hx hb dL_bounds_108 (by decide) ?_
        refine lv_lit (b := (8 : Int32)) (by decide) ?_
        refine lv_iadd hx hb dL_bounds_109 ?_
        refine lv_lit (b := (28 : Int32)) (by decide) ?_
        have hFc := frw hD hS hA
        refine vx_calli (vx_runV (As := [.int (3 : Int32), .int (10 : Int32), .int (28 : Int32)]) (rest := []) ⟨hx, hb, hml, hown, hts⟩ (c_X7_state l hst dC dI cI h0 h0_1 h0_2 h0_3 h0_4 h0_5 h0_6 h0_7 h0_8 h0_9 h0_10 h0_11 h0_12 h0_13 h0_14 h0_15 h0_16 h0_17 h0_18 h0_19 h0_20 h0_21 h0_22 m_358 m_359 h0_25 h0_26 m_360 m_361 h0_29 h0_30 _ u_356 (3 : Int32) (10 : Int32) (28 : Int32) _ _ h) (cwV 3 hts (goodIn_up gB_X7_state) rfl rfl rfl (by decide +kernel) ⟨Nat.le_of_ble_eq_true rfl, Nat.le_of_ble_eq_true rfl⟩) (pbj_V hP hK hD hN hX hFc hS (ci := 7) (q0 := 0) rfl rfl) rfl rfl hl.1 rfl (lv_room (Nat.le_of_ble_eq_true rfl)) dL_bounds_110 ⟨Nat.le_of_ble_eq_true rfl, Nat.le_of_ble_eq_true rfl⟩) hS (fun q _ h => hFc q h) hFc (fun q _ h => hFc q h) (fun E9 ce9 q9 u t H locs ht hvm h hB hz1 hk1 hS hce hcv hcl => (show False from h).elim) (fun r_366 u_365 t H locs ht hvm h hB hz1 hk1 hS => ?_)
        obtain ⟨m_367, m_368, m_369, m_370, hP1, hD1⟩ := hB
        rw [ht] at hP1
        have hP : va_P (dC, dI) vwCl (lwO cI h0 h0_1 h0_2 h0_3 h0_4 h0_5 h0_6 h0_7 h0_8 h0_9 h0_10 h0_11 h0_12 h0_13 h0_14 h0_15 h0_16 h0_17 h0_18 h0_19 h0_20 h0_21 h0_22 m_367 m_368 h0_25 h0_26 m_369 m_370 h0_29 h0_30 u_365) H := hP1
        have hD : va_D A (lwO cI h0 h0_1 h0_2 h0_3 h0_4 h0_5 h0_6 h0_7 h0_8 h0_9 h0_10 h0_11 h0_12 h0_13 h0_14 h0_15 h0_16 h0_17 h0_18 h0_19 h0_20 h0_21 h0_22 m_367 m_368 h0_25 h0_26 m_369 m_370 h0_29 h0_30 u_365) := hD1.weaken (fun _ _ _ h => hFc _ h)
        refine W.widen (k := 69) (n := 10063) (Nat.le_of_ble_eq_true rfl) (Nat.le_of_ble_eq_true rfl) ?_
        obtain ⟨ht_, hf_⟩ := h
        refine lv_if_ne (tgt := 118) hx hb dL_bounds_113 (by decide) (fun c_371 => ?_) (fun c_371 => ?_)
        · have h := ht_ c_371
          refine lv_iinc (v := (36 : Int32)) (lv' := [(1, .int (36 : Int32)), (0, .ref h0)]) hx hb dL_bounds_118 hl (k := 0) rfl (by decide) (by decide) rfl (fun ls hl => ?_)
          refine lv_goto (tgt := 38) hx hb dL_bounds_121 (by decide) ?_
          refine lv_iload_n hx hb dL_bounds_38 rfl (lv_at hl 0 rfl) ?_
          refine lv_bipush (v := (60 : Int32)) hx hb dL_bounds_39 (by decide) ?_
          refine lv_icmp_ge (tgt := 124) hx hb dL_bounds_41 (by decide) (fun c_372 => absurd c_372 (by decide)) (fun c_372 => ?_)
          refine lv_iload_n hx hb dL_bounds_44 rfl (lv_at hl 0 rfl) ?_
          refine lv_bipush (v := (44 : Int32)) hx hb dL_bounds_45 (by decide) ?_
          refine lv_icmp_ne (tgt := 96) hx hb dL_bounds_47 (by decide) (fun c_373 => ?_) (fun c_373 => absurd c_373 (by decide))
          refine lv_aload_n hx hb dL_bounds_96 rfl (lv_at hl 1 rfl) ?_
          refine lv_iload_n hx hb dL_bounds_97 rfl (lv_at hl 0 rfl) ?_
          refine lv_bipush (v := (9 : Int32)) hx hb dL_bounds_98 (by decide) ?_
          refine lv_idiv hx hb dL_bounds_100 (by decide) ?_
          refine lv_lit (b := (4 : Int32)) (by decide) ?_
          refine lv_bipush (v := (10 : Int32)) hx hb dL_bounds_101 (by decide) ?_
          refine lv_bipush (v := (20 : Int32)) hx hb dL_bounds_103 (by decide) ?_
          refine lv_iload_n hx hb dL_bounds_105 rfl (lv_at hl 0 rfl) ?_
          refine lv_bipush (v := (9 : Int32)) hx hb dL_bounds_106 (by decide) ?_
          refine lv_irem hx hb dL_bounds_108 (by decide) ?_
          refine lv_lit (b := (0 : Int32)) (by decide) ?_
          refine lv_iadd hx hb dL_bounds_109 ?_
          refine lv_lit (b := (20 : Int32)) (by decide) ?_
          have hFc := frw hD hS hA
          refine vx_calli (vx_runV (As := [.int (4 : Int32), .int (10 : Int32), .int (20 : Int32)]) (rest := []) ⟨hx, hb, hml, hown, hts⟩ (c_X7_state l hst dC dI cI h0 h0_1 h0_2 h0_3 h0_4 h0_5 h0_6 h0_7 h0_8 h0_9 h0_10 h0_11 h0_12 h0_13 h0_14 h0_15 h0_16 h0_17 h0_18 h0_19 h0_20 h0_21 h0_22 m_367 m_368 h0_25 h0_26 m_369 m_370 h0_29 h0_30 _ u_365 (4 : Int32) (10 : Int32) (20 : Int32) _ _ h) (cwV 3 hts (goodIn_up gB_X7_state) rfl rfl rfl (by decide +kernel) ⟨Nat.le_of_ble_eq_true rfl, Nat.le_of_ble_eq_true rfl⟩) (pbj_V hP hK hD hN hX hFc hS (ci := 7) (q0 := 0) rfl rfl) rfl rfl hl.1 rfl (lv_room (Nat.le_of_ble_eq_true rfl)) dL_bounds_110 ⟨Nat.le_of_ble_eq_true rfl, Nat.le_of_ble_eq_true rfl⟩) hS (fun q _ h => hFc q h) hFc (fun q _ h => hFc q h) (fun E9 ce9 q9 u t H locs ht hvm h hB hz1 hk1 hS hce hcv hcl => (show False from h).elim) (fun r_375 u_374 t H locs ht hvm h hB hz1 hk1 hS => ?_)
          obtain ⟨m_376, m_377, m_378, m_379, hP1, hD1⟩ := hB
          rw [ht] at hP1
          have hP : va_P (dC, dI) vwCl (lwO cI h0 h0_1 h0_2 h0_3 h0_4 h0_5 h0_6 h0_7 h0_8 h0_9 h0_10 h0_11 h0_12 h0_13 h0_14 h0_15 h0_16 h0_17 h0_18 h0_19 h0_20 h0_21 h0_22 m_376 m_377 h0_25 h0_26 m_378 m_379 h0_29 h0_30 u_374) H := hP1
          have hD : va_D A (lwO cI h0 h0_1 h0_2 h0_3 h0_4 h0_5 h0_6 h0_7 h0_8 h0_9 h0_10 h0_11 h0_12 h0_13 h0_14 h0_15 h0_16 h0_17 h0_18 h0_19 h0_20 h0_21 h0_22 m_376 m_377 h0_25 h0_26 m_378 m_379 h0_29 h0_30 u_374) := hD1.weaken (fun _ _ _ h => hFc _ h)
          refine W.widen (k := 70) (n := 10069) (Nat.le_of_ble_eq_true rfl) (Nat.le_of_ble_eq_true rfl) ?_
          obtain ⟨ht_, hf_⟩ := h
          refine lv_if_ne (tgt := 118) hx hb dL_bounds_113 (by decide) (fun c_380 => ?_) (fun c_380 => ?_)
          · have h := ht_ c_380
            refine lv_iinc (v := (37 : Int32)) (lv' := [(1, .int (37 : Int32)), (0, .ref h0)]) hx hb dL_bounds_118 hl (k := 0) rfl (by decide) (by decide) rfl (fun ls hl => ?_)
            refine lv_goto (tgt := 38) hx hb dL_bounds_121 (by decide) ?_
            refine lv_iload_n hx hb dL_bounds_38 rfl (lv_at hl 0 rfl) ?_
            refine lv_bipush (v := (60 : Int32)) hx hb dL_bounds_39 (by decide) ?_
            refine lv_icmp_ge (tgt := 124) hx hb dL_bounds_41 (by decide) (fun c_381 => absurd c_381 (by decide)) (fun c_381 => ?_)
            refine lv_iload_n hx hb dL_bounds_44 rfl (lv_at hl 0 rfl) ?_
            refine lv_bipush (v := (44 : Int32)) hx hb dL_bounds_45 (by decide) ?_
            refine lv_icmp_ne (tgt := 96) hx hb dL_bounds_47 (by decide) (fun c_382 => ?_) (fun c_382 => absurd c_382 (by decide))
            refine lv_aload_n hx hb dL_bounds_96 rfl (lv_at hl 1 rfl) ?_
            refine lv_iload_n hx hb dL_bounds_97 rfl (lv_at hl 0 rfl) ?_
            refine lv_bipush (v := (9 : Int32)) hx hb dL_bounds_98 (by decide) ?_
            refine lv_idiv hx hb dL_bounds_100 (by decide) ?_
            refine lv_lit (b := (4 : Int32)) (by decide) ?_
            refine lv_bipush (v := (10 : Int32)) hx hb dL_bounds_101 (by decide) ?_
            refine lv_bipush (v := (20 : Int32)) hx hb dL_bounds_103 (by decide) ?_
            refine lv_iload_n hx hb dL_bounds_105 rfl (lv_at hl 0 rfl) ?_
            refine lv_bipush (v := (9 : Int32)) hx hb dL_bounds_106 (by decide) ?_
            refine lv_irem hx hb dL_bounds_108 (by decide) ?_
            refine lv_lit (b := (1 : Int32)) (by decide) ?_
            refine lv_iadd hx hb dL_bounds_109 ?_
            refine lv_lit (b := (21 : Int32)) (by decide) ?_
            have hFc := frw hD hS hA
            refine vx_calli (vx_runV (As := [.int (4 : Int32), .int (10 : Int32), .int (21 : Int32)]) (rest := []) ⟨hx, hb, hml, hown, hts⟩ (c_X7_state l hst dC dI cI h0 h0_1 h0_2 h0_3 h0_4 h0_5 h0_6 h0_7 h0_8 h0_9 h0_10 h0_11 h0_12 h0_13 h0_14 h0_15 h0_16 h0_17 h0_18 h0_19 h0_20 h0_21 h0_22 m_376 m_377 h0_25 h0_26 m_378 m_379 h0_29 h0_30 _ u_374 (4 : Int32) (10 : Int32) (21 : Int32) _ _ h) (cwV 3 hts (goodIn_up gB_X7_state) rfl rfl rfl (by decide +kernel) ⟨Nat.le_of_ble_eq_true rfl, Nat.le_of_ble_eq_true rfl⟩) (pbj_V hP hK hD hN hX hFc hS (ci := 7) (q0 := 0) rfl rfl) rfl rfl hl.1 rfl (lv_room (Nat.le_of_ble_eq_true rfl)) dL_bounds_110 ⟨Nat.le_of_ble_eq_true rfl, Nat.le_of_ble_eq_true rfl⟩) hS (fun q _ h => hFc q h) hFc (fun q _ h => hFc q h) (fun E9 ce9 q9 u t H locs ht hvm h hB hz1 hk1 hS hce hcv hcl => (show False from h).elim) (fun r_384 u_383 t H locs ht hvm h hB hz1 hk1 hS => ?_)
            obtain ⟨m_385, m_386, m_387, m_388, hP1, hD1⟩ := hB
            rw [ht] at hP1
            have hP : va_P (dC, dI) vwCl (lwO cI h0 h0_1 h0_2 h0_3 h0_4 h0_5 h0_6 h0_7 h0_8 h0_9 h0_10 h0_11 h0_12 h0_13 h0_14 h0_15 h0_16 h0_17 h0_18 h0_19 h0_20 h0_21 h0_22 m_385 m_386 h0_25 h0_26 m_387 m_388 h0_29 h0_30 u_383) H := hP1
            have hD : va_D A (lwO cI h0 h0_1 h0_2 h0_3 h0_4 h0_5 h0_6 h0_7 h0_8 h0_9 h0_10 h0_11 h0_12 h0_13 h0_14 h0_15 h0_16 h0_17 h0_18 h0_19 h0_20 h0_21 h0_22 m_385 m_386 h0_25 h0_26 m_387 m_388 h0_29 h0_30 u_383) := hD1.weaken (fun _ _ _ h => hFc _ h)
            refine W.widen (k := 71) (n := 10075) (Nat.le_of_ble_eq_true rfl) (Nat.le_of_ble_eq_true rfl) ?_
            obtain ⟨ht_, hf_⟩ := h
            refine lv_if_ne (tgt := 118) hx hb dL_bounds_113 (by decide) (fun c_389 => ?_) (fun c_389 => ?_)
            · have h := ht_ c_389
              refine lv_iinc (v := (38 : Int32)) (lv' := [(1, .int (38 : Int32)), (0, .ref h0)]) hx hb dL_bounds_118 hl (k := 0) rfl (by decide) (by decide) rfl (fun ls hl => ?_)
              refine lv_goto (tgt := 38) hx hb dL_bounds_121 (by decide) ?_
              refine lv_iload_n hx hb dL_bounds_38 rfl (lv_at hl 0 rfl) ?_
              refine lv_bipush (v := (60 : Int32)) hx hb dL_bounds_39 (by decide) ?_
              refine lv_icmp_ge (tgt := 124) hx hb dL_bounds_41 (by decide) (fun c_390 => absurd c_390 (by decide)) (fun c_390 => ?_)
              refine lv_iload_n hx hb dL_bounds_44 rfl (lv_at hl 0 rfl) ?_
              refine lv_bipush (v := (44 : Int32)) hx hb dL_bounds_45 (by decide) ?_
              refine lv_icmp_ne (tgt := 96) hx hb dL_bounds_47 (by decide) (fun c_391 => ?_) (fun c_391 => absurd c_391 (by decide))
              refine lv_aload_n hx hb dL_bounds_96 rfl (lv_at hl 1 rfl) ?_
              refine lv_iload_n hx hb dL_bounds_97 rfl (lv_at hl 0 rfl) ?_
              refine lv_bipush (v := (9 : Int32)) hx hb dL_bounds_98 (by decide) ?_
              refine lv_idiv hx hb dL_bounds_100 (by decide) ?_
              refine lv_lit (b := (4 : Int32)) (by decide) ?_
              refine lv_bipush (v := (10 : Int32)) hx hb dL_bounds_101 (by decide) ?_
              refine lv_bipush (v := (20 : Int32)) hx hb dL_bounds_103 (by decide) ?_
              refine lv_iload_n hx hb dL_bounds_105 rfl (lv_at hl 0 rfl) ?_
              refine lv_bipush (v := (9 : Int32)) hx hb dL_bounds_106 (by decide) ?_
              refine lv_irem hx hb dL_bounds_108 (by decide) ?_
              refine lv_lit (b := (2 : Int32)) (by decide) ?_
              refine lv_iadd hx hb dL_bounds_109 ?_
              refine lv_lit (b := (22 : Int32)) (by decide) ?_
              have hFc := frw hD hS hA
              refine vx_calli (vx_runV (As := [.int (4 : Int32), .int (10 : Int32), .int (22 : Int32)]) (rest := []) ⟨hx, hb, hml, hown, hts⟩ (c_X7_state l hst dC dI cI h0 h0_1 h0_2 h0_3 h0_4 h0_5 h0_6 h0_7 h0_8 h0_9 h0_10 h0_11 h0_12 h0_13 h0_14 h0_15 h0_16 h0_17 h0_18 h0_19 h0_20 h0_21 h0_22 m_385 m_386 h0_25 h0_26 m_387 m_388 h0_29 h0_30 _ u_383 (4 : Int32) (10 : Int32) (22 : Int32) _ _ h) (cwV 3 hts (goodIn_up gB_X7_state) rfl rfl rfl (by decide +kernel) ⟨Nat.le_of_ble_eq_true rfl, Nat.le_of_ble_eq_true rfl⟩) (pbj_V hP hK hD hN hX hFc hS (ci := 7) (q0 := 0) rfl rfl) rfl rfl hl.1 rfl (lv_room (Nat.le_of_ble_eq_true rfl)) dL_bounds_110 ⟨Nat.le_of_ble_eq_true rfl, Nat.le_of_ble_eq_true rfl⟩) hS (fun q _ h => hFc q h) hFc (fun q _ h => hFc q h) (fun E9 ce9 q9 u t H locs ht hvm h hB hz1 hk1 hS hce hcv hcl => (show False from h).elim) (fun r_393 u_392 t H locs ht hvm h hB hz1 hk1 hS => ?_)
              obtain ⟨m_394, m_395, m_396, m_397, hP1, hD1⟩ := hB
              rw [ht] at hP1
              have hP : va_P (dC, dI) vwCl (lwO cI h0 h0_1 h0_2 h0_3 h0_4 h0_5 h0_6 h0_7 h0_8 h0_9 h0_10 h0_11 h0_12 h0_13 h0_14 h0_15 h0_16 h0_17 h0_18 h0_19 h0_20 h0_21 h0_22 m_394 m_395 h0_25 h0_26 m_396 m_397 h0_29 h0_30 u_392) H := hP1
              have hD : va_D A (lwO cI h0 h0_1 h0_2 h0_3 h0_4 h0_5 h0_6 h0_7 h0_8 h0_9 h0_10 h0_11 h0_12 h0_13 h0_14 h0_15 h0_16 h0_17 h0_18 h0_19 h0_20 h0_21 h0_22 m_394 m_395 h0_25 h0_26 m_396 m_397 h0_29 h0_30 u_392) := hD1.weaken (fun _ _ _ h => hFc _ h)
              refine W.widen (k := 72) (n := 10081) (Nat.le_of_ble_eq_true rfl) (Nat.le_of_ble_eq_true rfl) ?_
              obtain ⟨ht_, hf_⟩ := h
              refine lv_if_ne (tgt := 118) hx hb dL_bounds_113 (by decide) (fun c_398 => ?_) (fun c_398 => ?_)
              · have h := ht_ c_398
                have hl : lv_has ls 3 [(0, .ref h0), (1, .int (38 : Int32))] := lv_sub hl [1, 0] rfl
                refine W.widen (k := 72) (n := 10081) (Nat.le_of_ble_eq_true rfl) (Nat.le_of_ble_eq_true rfl) ?_
                exact sg_L_bounds_6 l hst C0 hK hN hX hC hA h0 h0_1 h0_2 h0_3 h0_4 h0_5 h0_6 h0_7 h0_8 h0_9 h0_10 h0_11 h0_12 h0_13 h0_14 h0_15 h0_16 h0_17 h0_18 h0_19 h0_20 h0_21 h0_22 h0_25 h0_26 h0_29 h0_30 _ u_392 h m_394 m_395 m_396 m_397 _ _ hP hD hS _ hl
              · have h := hf_ c_398
                exact (show False from h).elim
            · have h := hf_ c_389
              exact (show False from h).elim
          · have h := hf_ c_380
            exact (show False from h).elim
        · have h := hf_ c_371
          exact (show False from h).elim
      · have h := hf_ c_362
        exact (show False from h).elim
    · have h := hf_ c_353
      exact (show False from h).elim
  · have h := hf_ c_344
    exact (show False from h).elim
set_option maxHeartbeats 4000000 in
set_option maxRecDepth 100000 in
theorem sg_L_bounds_4 (l : Launch) (hst : l.stackTraces = false) {p : Program} {e : Env} {s : State} {m : MethodId} {below : List Frame} {meth : Method} {c : Code} (C0 : LC p s m (([] : List Value).toArray) meth c cL_bounds 3 wq_bounds) {dC : Nat → ClassId} {dI : Nat → Nat → Nat} {cI : ClassId} (hK : va_K (dC, dI) vwCl [(cI, .int)] s) (hN : nk s) {A : Nat → Prop} (hX : xj A s) (hC : xnc s) (hA : ∀ q : Nat, s.heap.size ≤ q → A q) (h0 h0_1 h0_2 h0_3 h0_4 h0_5 h0_6 h0_7 h0_8 h0_9 h0_10 h0_11 h0_12 h0_13 h0_14 h0_15 h0_16 h0_17 h0_18 h0_19 h0_20 h0_21 h0_22 h0_25 h0_26 h0_29 h0_30 : Nat) (post : Int32 → Prop) (s0 : TriS) (h : P_L_bounds_4 s0 post) (h0_23 h0_24 h0_27 h0_28 : Nat) (H : Heap) (locs : List Loc) (hP : va_P (dC, dI) vwCl (lwO cI h0 h0_1 h0_2 h0_3 h0_4 h0_5 h0_6 h0_7 h0_8 h0_9 h0_10 h0_11 h0_12 h0_13 h0_14 h0_15 h0_16 h0_17 h0_18 h0_19 h0_20 h0_21 h0_22 h0_23 h0_24 h0_25 h0_26 h0_27 h0_28 h0_29 h0_30 s0) H) (hD : va_D A (lwO cI h0 h0_1 h0_2 h0_3 h0_4 h0_5 h0_6 h0_7 h0_8 h0_9 h0_10 h0_11 h0_12 h0_13 h0_14 h0_15 h0_16 h0_17 h0_18 h0_19 h0_20 h0_21 h0_22 h0_23 h0_24 h0_25 h0_26 h0_27 h0_28 h0_29 h0_30 s0)) (hS : va_S A s.heap H locs) (ls : Array Slot) (hl : lv_has ls 3 [(0, .ref h0), (1, .int (24 : Int32))]) : W p l e rm_L_bounds s m (([] : List Value).toArray) below meth c H locs 58 9997 (MQ below (Q_L_bounds dC dI cI A post) (([] : List Value).toArray) s mc_L_bounds ms_L_bounds A) (F0 m 118 ls []) := by
  obtain ⟨hx, hb, hr, hml, hown, hts, hlocks⟩ := id C0
  refine lv_iinc (v := (25 : Int32)) (lv' := [(1, .int (25 : Int32)), (0, .ref h0)]) hx hb dL_bounds_118 hl (k := 1) rfl (by decide) (by decide) rfl (fun ls hl => ?_)
  refine lv_goto (tgt := 38) hx hb dL_bounds_121 (by decide) ?_
  refine lv_iload_n hx hb dL_bounds_38 rfl (lv_at hl 0 rfl) ?_
  refine lv_bipush (v := (60 : Int32)) hx hb dL_bounds_39 (by decide) ?_
  refine lv_icmp_ge (tgt := 124) hx hb dL_bounds_41 (by decide) (fun c_273 => absurd c_273 (by decide)) (fun c_273 => ?_)
  refine lv_iload_n hx hb dL_bounds_44 rfl (lv_at hl 0 rfl) ?_
  refine lv_bipush (v := (44 : Int32)) hx hb dL_bounds_45 (by decide) ?_
  refine lv_icmp_ne (tgt := 96) hx hb dL_bounds_47 (by decide) (fun c_274 => ?_) (fun c_274 => absurd c_274 (by decide))
  refine lv_aload_n hx hb dL_bounds_96 rfl (lv_at hl 1 rfl) ?_
  refine lv_iload_n hx hb dL_bounds_97 rfl (lv_at hl 0 rfl) ?_
  refine lv_bipush (v := (9 : Int32)) hx hb dL_bounds_98 (by decide) ?_
  refine lv_idiv hx hb dL_bounds_100 (by decide) ?_
  refine lv_lit (b := (2 : Int32)) (by decide) ?_
  refine lv_bipush (v := (10 : Int32)) hx hb dL_bounds_101 (by decide) ?_
  refine lv_bipush (v := (20 : Int32)) hx hb dL_bounds_103 (by decide) ?_
  refine lv_iload_n hx hb dL_bounds_105 rfl (lv_at hl 0 rfl) ?_
  refine lv_bipush (v := (9 : Int32)) hx hb dL_bounds_106 (by decide) ?_
  refine lv_irem hx hb dL_bounds_108 (by decide) ?_
  refine lv_lit (b := (7 : Int32)) (by decide) ?_
  refine lv_iadd hx hb dL_bounds_109 ?_
  refine lv_lit (b := (27 : Int32)) (by decide) ?_
  have hFc := frw hD hS hA
  refine vx_calli (vx_runV (As := [.int (2 : Int32), .int (10 : Int32), .int (27 : Int32)]) (rest := []) ⟨hx, hb, hml, hown, hts⟩ (c_X7_state l hst dC dI cI h0 h0_1 h0_2 h0_3 h0_4 h0_5 h0_6 h0_7 h0_8 h0_9 h0_10 h0_11 h0_12 h0_13 h0_14 h0_15 h0_16 h0_17 h0_18 h0_19 h0_20 h0_21 h0_22 h0_23 h0_24 h0_25 h0_26 h0_27 h0_28 h0_29 h0_30 _ s0 (2 : Int32) (10 : Int32) (27 : Int32) _ _ h) (cwV 3 hts (goodIn_up gB_X7_state) rfl rfl rfl (by decide +kernel) ⟨Nat.le_of_ble_eq_true rfl, Nat.le_of_ble_eq_true rfl⟩) (pbj_V hP hK hD hN hX hFc hS (ci := 7) (q0 := 0) rfl rfl) rfl rfl hl.1 rfl (lv_room (Nat.le_of_ble_eq_true rfl)) dL_bounds_110 ⟨Nat.le_of_ble_eq_true rfl, Nat.le_of_ble_eq_true rfl⟩) hS (fun q _ h => hFc q h) hFc (fun q _ h => hFc q h) (fun E9 ce9 q9 u t H locs ht hvm h hB hz1 hk1 hS hce hcv hcl => (show False from h).elim) (fun r_276 u_275 t H locs ht hvm h hB hz1 hk1 hS => ?_)
  obtain ⟨m_277, m_278, m_279, m_280, hP1, hD1⟩ := hB
  rw [ht] at hP1
  have hP : va_P (dC, dI) vwCl (lwO cI h0 h0_1 h0_2 h0_3 h0_4 h0_5 h0_6 h0_7 h0_8 h0_9 h0_10 h0_11 h0_12 h0_13 h0_14 h0_15 h0_16 h0_17 h0_18 h0_19 h0_20 h0_21 h0_22 m_277 m_278 h0_25 h0_26 m_279 m_280 h0_29 h0_30 u_275) H := hP1
  have hD : va_D A (lwO cI h0 h0_1 h0_2 h0_3 h0_4 h0_5 h0_6 h0_7 h0_8 h0_9 h0_10 h0_11 h0_12 h0_13 h0_14 h0_15 h0_16 h0_17 h0_18 h0_19 h0_20 h0_21 h0_22 m_277 m_278 h0_25 h0_26 m_279 m_280 h0_29 h0_30 u_275) := hD1.weaken (fun _ _ _ h => hFc _ h)
  refine W.widen (k := 59) (n := 10003) (Nat.le_of_ble_eq_true rfl) (Nat.le_of_ble_eq_true rfl) ?_
  obtain ⟨ht_, hf_⟩ := h
  refine lv_if_ne (tgt := 118) hx hb dL_bounds_113 (by decide) (fun c_281 => ?_) (fun c_281 => ?_)
  · have h := ht_ c_281
    refine lv_iinc (v := (26 : Int32)) (lv' := [(1, .int (26 : Int32)), (0, .ref h0)]) hx hb dL_bounds_118 hl (k := 0) rfl (by decide) (by decide) rfl (fun ls hl => ?_)
    refine lv_goto (tgt := 38) hx hb dL_bounds_121 (by decide) ?_
    refine lv_iload_n hx hb dL_bounds_38 rfl (lv_at hl 0 rfl) ?_
    refine lv_bipush (v := (60 : Int32)) hx hb dL_bounds_39 (by decide) ?_
    refine lv_icmp_ge (tgt := 124) hx hb dL_bounds_41 (by decide) (fun c_282 => absurd c_282 (by decide)) (fun c_282 => ?_)
    refine lv_iload_n hx hb dL_bounds_44 rfl (lv_at hl 0 rfl) ?_
    refine lv_bipush (v := (44 : Int32)) hx hb dL_bounds_45 (by decide) ?_
    refine lv_icmp_ne (tgt := 96) hx hb dL_bounds_47 (by decide) (fun c_283 => ?_) (fun c_283 => absurd c_283 (by decide))
    refine lv_aload_n hx hb dL_bounds_96 rfl (lv_at hl 1 rfl) ?_
    refine lv_iload_n hx hb dL_bounds_97 rfl (lv_at hl 0 rfl) ?_
    refine lv_bipush (v := (9 : Int32)) hx hb dL_bounds_98 (by decide) ?_
    refine lv_idiv hx hb dL_bounds_100 (by decide) ?_
    refine lv_lit (b := (2 : Int32)) (by decide) ?_
    refine lv_bipush (v := (10 : Int32)) hx hb dL_bounds_101 (by decide) ?_
    refine lv_bipush (v := (20 : Int32)) hx hb dL_bounds_103 (by decide) ?_
    refine lv_iload_n hx hb dL_bounds_105 rfl (lv_at hl 0 rfl) ?_
    refine lv_bipush (v := (9 : Int32)) hx hb dL_bounds_106 (by decide) ?_
    refine lv_irem hx hb dL_bounds_108 (by decide) ?_
    refine lv_lit (b := (8 : Int32)) (by decide) ?_
    refine lv_iadd hx hb dL_bounds_109 ?_
    refine lv_lit (b := (28 : Int32)) (by decide) ?_
    have hFc := frw hD hS hA
    refine vx_calli (vx_runV (As := [.int (2 : Int32), .int (10 : Int32), .int (28 : Int32)]) (rest := []) ⟨hx, hb, hml, hown, hts⟩ (c_X7_state l hst dC dI cI h0 h0_1 h0_2 h0_3 h0_4 h0_5 h0_6 h0_7 h0_8 h0_9 h0_10 h0_11 h0_12 h0_13 h0_14 h0_15 h0_16 h0_17 h0_18 h0_19 h0_20 h0_21 h0_22 m_277 m_278 h0_25 h0_26 m_279 m_280 h0_29 h0_30 _ u_275 (2 : Int32) (10 : Int32) (28 : Int32) _ _ h) (cwV 3 hts (goodIn_up gB_X7_state) rfl rfl rfl (by decide +kernel) ⟨Nat.le_of_ble_eq_true rfl, Nat.le_of_ble_eq_true rfl⟩) (pbj_V hP hK hD hN hX hFc hS (ci := 7) (q0 := 0) rfl rfl) rfl rfl hl.1 rfl (lv_room (Nat.le_of_ble_eq_true rfl)) dL_bounds_110 ⟨Nat.le_of_ble_eq_true rfl, Nat.le_of_ble_eq_true rfl⟩) hS (fun q _ h => hFc q h) hFc (fun q _ h => hFc q h) (fun E9 ce9 q9 u t H locs ht hvm h hB hz1 hk1 hS hce hcv hcl => (show False from h).elim) (fun r_285 u_284 t H locs ht hvm h hB hz1 hk1 hS => ?_)
    obtain ⟨m_286, m_287, m_288, m_289, hP1, hD1⟩ := hB
    rw [ht] at hP1
    have hP : va_P (dC, dI) vwCl (lwO cI h0 h0_1 h0_2 h0_3 h0_4 h0_5 h0_6 h0_7 h0_8 h0_9 h0_10 h0_11 h0_12 h0_13 h0_14 h0_15 h0_16 h0_17 h0_18 h0_19 h0_20 h0_21 h0_22 m_286 m_287 h0_25 h0_26 m_288 m_289 h0_29 h0_30 u_284) H := hP1
    have hD : va_D A (lwO cI h0 h0_1 h0_2 h0_3 h0_4 h0_5 h0_6 h0_7 h0_8 h0_9 h0_10 h0_11 h0_12 h0_13 h0_14 h0_15 h0_16 h0_17 h0_18 h0_19 h0_20 h0_21 h0_22 m_286 m_287 h0_25 h0_26 m_288 m_289 h0_29 h0_30 u_284) := hD1.weaken (fun _ _ _ h => hFc _ h)
    refine W.widen (k := 60) (n := 10009) (Nat.le_of_ble_eq_true rfl) (Nat.le_of_ble_eq_true rfl) ?_
    obtain ⟨ht_, hf_⟩ := h
    refine lv_if_ne (tgt := 118) hx hb dL_bounds_113 (by decide) (fun c_290 => ?_) (fun c_290 => ?_)
    · have h := ht_ c_290
      refine lv_iinc (v := (27 : Int32)) (lv' := [(1, .int (27 : Int32)), (0, .ref h0)]) hx hb dL_bounds_118 hl (k := 0) rfl (by decide) (by decide) rfl (fun ls hl => ?_)
      refine lv_goto (tgt := 38) hx hb dL_bounds_121 (by decide) ?_
      refine lv_iload_n hx hb dL_bounds_38 rfl (lv_at hl 0 rfl) ?_
      refine lv_bipush (v := (60 : Int32)) hx hb dL_bounds_39 (by decide) ?_
      refine lv_icmp_ge (tgt := 124) hx hb dL_bounds_41 (by decide) (fun c_291 => absurd c_291 (by decide)) (fun c_291 => ?_)
      refine lv_iload_n hx hb dL_bounds_44 rfl (lv_at hl 0 rfl) ?_
      refine lv_bipush (v := (44 : Int32)) hx hb dL_bounds_45 (by decide) ?_
      refine lv_icmp_ne (tgt := 96) hx hb dL_bounds_47 (by decide) (fun c_292 => ?_) (fun c_292 => absurd c_292 (by decide))
      refine lv_aload_n hx hb dL_bounds_96 rfl (lv_at hl 1 rfl) ?_
      refine lv_iload_n hx hb dL_bounds_97 rfl (lv_at hl 0 rfl) ?_
      refine lv_bipush (v := (9 : Int32)) hx hb dL_bounds_98 (by decide) ?_
      refine lv_idiv hx hb dL_bounds_100 (by decide) ?_
      refine lv_lit (b := (3 : Int32)) (by decide) ?_
      refine lv_bipush (v := (10 : Int32)) hx hb dL_bounds_101 (by decide) ?_
      refine lv_bipush (v := (20 : Int32)) hx hb dL_bounds_103 (by decide) ?_
      refine lv_iload_n hx hb dL_bounds_105 rfl (lv_at hl 0 rfl) ?_
      refine lv_bipush (v := (9 : Int32)) hx hb dL_bounds_106 (by decide) ?_
      refine lv_irem hx hb dL_bounds_108 (by decide) ?_
      refine lv_lit (b := (0 : Int32)) (by decide) ?_
      refine lv_iadd hx hb dL_bounds_109 ?_
      refine lv_lit (b := (20 : Int32)) (by decide) ?_
      have hFc := frw hD hS hA
      refine vx_calli (vx_runV (As := [.int (3 : Int32), .int (10 : Int32), .int (20 : Int32)]) (rest := []) ⟨hx, hb, hml, hown, hts⟩ (c_X7_state l hst dC dI cI h0 h0_1 h0_2 h0_3 h0_4 h0_5 h0_6 h0_7 h0_8 h0_9 h0_10 h0_11 h0_12 h0_13 h0_14 h0_15 h0_16 h0_17 h0_18 h0_19 h0_20 h0_21 h0_22 m_286 m_287 h0_25 h0_26 m_288 m_289 h0_29 h0_30 _ u_284 (3 : Int32) (10 : Int32) (20 : Int32) _ _ h) (cwV 3 hts (goodIn_up gB_X7_state) rfl rfl rfl (by decide +kernel) ⟨Nat.le_of_ble_eq_true rfl, Nat.le_of_ble_eq_true rfl⟩) (pbj_V hP hK hD hN hX hFc hS (ci := 7) (q0 := 0) rfl rfl) rfl rfl hl.1 rfl (lv_room (Nat.le_of_ble_eq_true rfl)) dL_bounds_110 ⟨Nat.le_of_ble_eq_true rfl, Nat.le_of_ble_eq_true rfl⟩) hS (fun q _ h => hFc q h) hFc (fun q _ h => hFc q h) (fun E9 ce9 q9 u t H locs ht hvm h hB hz1 hk1 hS hce hcv hcl => (show False from h).elim) (fun r_294 u_293 t H locs ht hvm h hB hz1 hk1 hS => ?_)
      obtain ⟨m_295, m_296, m_297, m_298, hP1, hD1⟩ := hB
      rw [ht] at hP1
      have hP : va_P (dC, dI) vwCl (lwO cI h0 h0_1 h0_2 h0_3 h0_4 h0_5 h0_6 h0_7 h0_8 h0_9 h0_10 h0_11 h0_12 h0_13 h0_14 h0_15 h0_16 h0_17 h0_18 h0_19 h0_20 h0_21 h0_22 m_295 m_296 h0_25 h0_26 m_297 m_298 h0_29 h0_30 u_293) H := hP1
      have hD : va_D A (lwO cI h0 h0_1 h0_2 h0_3 h0_4 h0_5 h0_6 h0_7 h0_8 h0_9 h0_10 h0_11 h0_12 h0_13 h0_14 h0_15 h0_16 h0_17 h0_18 h0_19 h0_20 h0_21 h0_22 m_295 m_296 h0_25 h0_26 m_297 m_298 h0_29 h0_30 u_293) := hD1.weaken (fun _ _ _ h => hFc _ h)
      refine W.widen (k := 61) (n := 10015) (Nat.le_of_ble_eq_true rfl) (Nat.le_of_ble_eq_true rfl) ?_
      obtain ⟨ht_, hf_⟩ := h
      refine lv_if_ne (tgt := 118) hx hb dL_bounds_113 (by decide) (fun c_299 => ?_) (fun c_299 => ?_)
      · have h := ht_ c_299
        refine lv_iinc (v := (28 : Int32)) (lv' := [(1, .int (28 : Int32)), (0, .ref h0)]) hx hb dL_bounds_118 hl (k := 0) rfl (by decide) (by decide) rfl (fun ls hl => ?_)
        refine lv_goto (tgt := 38) hx hb dL_bounds_121 (by decide) ?_
        refine lv_iload_n hx hb dL_bounds_38 rfl (lv_at hl 0 rfl) ?_
        refine lv_bipush (v := (60 : Int32)) hx hb dL_bounds_39 (by decide) ?_
        refine lv_icmp_ge (tgt := 124) hx hb dL_bounds_41 (by decide) (fun c_300 => absurd c_300 (by decide)) (fun c_300 => ?_)
        refine lv_iload_n hx hb dL_bounds_44 rfl (lv_at hl 0 rfl) ?_
        refine lv_bipush (v := (44 : Int32)) hx hb dL_bounds_45 (by decide) ?_
        refine lv_icmp_ne (tgt := 96) hx hb dL_bounds_47 (by decide) (fun c_301 => ?_) (fun c_301 => absurd c_301 (by decide))
        refine lv_aload_n hx hb dL_bounds_96 rfl (lv_at hl 1 rfl) ?_
        refine lv_iload_n hx hb dL_bounds_97 rfl (lv_at hl 0 rfl) ?_
        refine lv_bipush (v := (9 : Int32)) hx hb dL_bounds_98 (by decide) ?_
        refine lv_idiv hx hb dL_bounds_100 (by decide) ?_
        refine lv_lit (b := (3 : Int32)) (by decide) ?_
        refine lv_bipush (v := (10 : Int32)) hx hb dL_bounds_101 (by decide) ?_
        refine lv_bipush (v := (20 : Int32)) hx hb dL_bounds_103 (by decide) ?_
        refine lv_iload_n hx hb dL_bounds_105 rfl (lv_at hl 0 rfl) ?_
        refine lv_bipush (v := (9 : Int32)) hx hb dL_bounds_106 (by decide) ?_
        refine lv_irem hx hb dL_bounds_108 (by decide) ?_
        refine lv_lit (b := (1 : Int32)) (by decide) ?_
        refine lv_iadd hx hb dL_bounds_109 ?_
        refine lv_lit (b := (21 : Int32)) (by decide) ?_
        have hFc := frw hD hS hA
        refine vx_calli (vx_runV (As := [.int (3 : Int32), .int (10 : Int32), .int (21 : Int32)]) (rest := []) ⟨hx, hb, hml, hown, hts⟩ (c_X7_state l hst dC dI cI h0 h0_1 h0_2 h0_3 h0_4 h0_5 h0_6 h0_7 h0_8 h0_9 h0_10 h0_11 h0_12 h0_13 h0_14 h0_15 h0_16 h0_17 h0_18 h0_19 h0_20 h0_21 h0_22 m_295 m_296 h0_25 h0_26 m_297 m_298 h0_29 h0_30 _ u_293 (3 : Int32) (10 : Int32) (21 : Int32) _ _ h) (cwV 3 hts (goodIn_up gB_X7_state) rfl rfl rfl (by decide +kernel) ⟨Nat.le_of_ble_eq_true rfl, Nat.le_of_ble_eq_true rfl⟩) (pbj_V hP hK hD hN hX hFc hS (ci := 7) (q0 := 0) rfl rfl) rfl rfl hl.1 rfl (lv_room (Nat.le_of_ble_eq_true rfl)) dL_bounds_110 ⟨Nat.le_of_ble_eq_true rfl, Nat.le_of_ble_eq_true rfl⟩) hS (fun q _ h => hFc q h) hFc (fun q _ h => hFc q h) (fun E9 ce9 q9 u t H locs ht hvm h hB hz1 hk1 hS hce hcv hcl => (show False from h).elim) (fun r_303 u_302 t H locs ht hvm h hB hz1 hk1 hS => ?_)
        obtain ⟨m_304, m_305, m_306, m_307, hP1, hD1⟩ := hB
        rw [ht] at hP1
        have hP : va_P (dC, dI) vwCl (lwO cI h0 h0_1 h0_2 h0_3 h0_4 h0_5 h0_6 h0_7 h0_8 h0_9 h0_10 h0_11 h0_12 h0_13 h0_14 h0_15 h0_16 h0_17 h0_18 h0_19 h0_20 h0_21 h0_22 m_304 m_305 h0_25 h0_26 m_306 m_307 h0_29 h0_30 u_302) H := hP1
        have hD : va_D A (lwO cI h0 h0_1 h0_2 h0_3 h0_4 h0_5 h0_6 h0_7 h0_8 h0_9 h0_10 h0_11 h0_12 h0_13 h0_14 h0_15 h0_16 h0_17 h0_18 h0_19 h0_20 h0_21 h0_22 m_304 m_305 h0_25 h0_26 m_306 m_307 h0_29 h0_30 u_302) := hD1.weaken (fun _ _ _ h => hFc _ h)
        refine W.widen (k := 62) (n := 10021) (Nat.le_of_ble_eq_true rfl) (Nat.le_of_ble_eq_true rfl) ?_
        obtain ⟨ht_, hf_⟩ := h
        refine lv_if_ne (tgt := 118) hx hb dL_bounds_113 (by decide) (fun c_308 => ?_) (fun c_308 => ?_)
        · have h := ht_ c_308
          refine lv_iinc (v := (29 : Int32)) (lv' := [(1, .int (29 : Int32)), (0, .ref h0)]) hx hb dL_bounds_118 hl (k := 0) rfl (by decide) (by decide) rfl (fun ls hl => ?_)
          refine lv_goto (tgt := 38) hx hb dL_bounds_121 (by decide) ?_
          refine lv_iload_n hx hb dL_bounds_38 rfl (lv_at hl 0 rfl) ?_
          refine lv_bipush (v := (60 : Int32)) hx hb dL_bounds_39 (by decide) ?_
          refine lv_icmp_ge (tgt := 124) hx hb dL_bounds_41 (by decide) (fun c_309 => absurd c_309 (by decide)) (fun c_309 => ?_)
          refine lv_iload_n hx hb dL_bounds_44 rfl (lv_at hl 0 rfl) ?_
          refine lv_bipush (v := (44 : Int32)) hx hb dL_bounds_45 (by decide) ?_
          refine lv_icmp_ne (tgt := 96) hx hb dL_bounds_47 (by decide) (fun c_310 => ?_) (fun c_310 => absurd c_310 (by decide))
          refine lv_aload_n hx hb dL_bounds_96 rfl (lv_at hl 1 rfl) ?_
          refine lv_iload_n hx hb dL_bounds_97 rfl (lv_at hl 0 rfl) ?_
          refine lv_bipush (v := (9 : Int32)) hx hb dL_bounds_98 (by decide) ?_
          refine lv_idiv hx hb dL_bounds_100 (by decide) ?_
          refine lv_lit (b := (3 : Int32)) (by decide) ?_
          refine lv_bipush (v := (10 : Int32)) hx hb dL_bounds_101 (by decide) ?_
          refine lv_bipush (v := (20 : Int32)) hx hb dL_bounds_103 (by decide) ?_
          refine lv_iload_n hx hb dL_bounds_105 rfl (lv_at hl 0 rfl) ?_
          refine lv_bipush (v := (9 : Int32)) hx hb dL_bounds_106 (by decide) ?_
          refine lv_irem hx hb dL_bounds_108 (by decide) ?_
          refine lv_lit (b := (2 : Int32)) (by decide) ?_
          refine lv_iadd hx hb dL_bounds_109 ?_
          refine lv_lit (b := (22 : Int32)) (by decide) ?_
          have hFc := frw hD hS hA
          refine vx_calli (vx_runV (As := [.int (3 : Int32), .int (10 : Int32), .int (22 : Int32)]) (rest := []) ⟨hx, hb, hml, hown, hts⟩ (c_X7_state l hst dC dI cI h0 h0_1 h0_2 h0_3 h0_4 h0_5 h0_6 h0_7 h0_8 h0_9 h0_10 h0_11 h0_12 h0_13 h0_14 h0_15 h0_16 h0_17 h0_18 h0_19 h0_20 h0_21 h0_22 m_304 m_305 h0_25 h0_26 m_306 m_307 h0_29 h0_30 _ u_302 (3 : Int32) (10 : Int32) (22 : Int32) _ _ h) (cwV 3 hts (goodIn_up gB_X7_state) rfl rfl rfl (by decide +kernel) ⟨Nat.le_of_ble_eq_true rfl, Nat.le_of_ble_eq_true rfl⟩) (pbj_V hP hK hD hN hX hFc hS (ci := 7) (q0 := 0) rfl rfl) rfl rfl hl.1 rfl (lv_room (Nat.le_of_ble_eq_true rfl)) dL_bounds_110 ⟨Nat.le_of_ble_eq_true rfl, Nat.le_of_ble_eq_true rfl⟩) hS (fun q _ h => hFc q h) hFc (fun q _ h => hFc q h) (fun E9 ce9 q9 u t H locs ht hvm h hB hz1 hk1 hS hce hcv hcl => (show False from h).elim) (fun r_312 u_311 t H locs ht hvm h hB hz1 hk1 hS => ?_)
          obtain ⟨m_313, m_314, m_315, m_316, hP1, hD1⟩ := hB
          rw [ht] at hP1
          have hP : va_P (dC, dI) vwCl (lwO cI h0 h0_1 h0_2 h0_3 h0_4 h0_5 h0_6 h0_7 h0_8 h0_9 h0_10 h0_11 h0_12 h0_13 h0_14 h0_15 h0_16 h0_17 h0_18 h0_19 h0_20 h0_21 h0_22 m_313 m_314 h0_25 h0_26 m_315 m_316 h0_29 h0_30 u_311) H := hP1
          have hD : va_D A (lwO cI h0 h0_1 h0_2 h0_3 h0_4 h0_5 h0_6 h0_7 h0_8 h0_9 h0_10 h0_11 h0_12 h0_13 h0_14 h0_15 h0_16 h0_17 h0_18 h0_19 h0_20 h0_21 h0_22 m_313 m_314 h0_25 h0_26 m_315 m_316 h0_29 h0_30 u_311) := hD1.weaken (fun _ _ _ h => hFc _ h)
          refine W.widen (k := 63) (n := 10027) (Nat.le_of_ble_eq_true rfl) (Nat.le_of_ble_eq_true rfl) ?_
          obtain ⟨ht_, hf_⟩ := h
          refine lv_if_ne (tgt := 118) hx hb dL_bounds_113 (by decide) (fun c_317 => ?_) (fun c_317 => ?_)
          · have h := ht_ c_317
            refine lv_iinc (v := (30 : Int32)) (lv' := [(1, .int (30 : Int32)), (0, .ref h0)]) hx hb dL_bounds_118 hl (k := 0) rfl (by decide) (by decide) rfl (fun ls hl => ?_)
            refine lv_goto (tgt := 38) hx hb dL_bounds_121 (by decide) ?_
            refine lv_iload_n hx hb dL_bounds_38 rfl (lv_at hl 0 rfl) ?_
            refine lv_bipush (v := (60 : Int32)) hx hb dL_bounds_39 (by decide) ?_
            refine lv_icmp_ge (tgt := 124) hx hb dL_bounds_41 (by decide) (fun c_318 => absurd c_318 (by decide)) (fun c_318 => ?_)
            refine lv_iload_n hx hb dL_bounds_44 rfl (lv_at hl 0 rfl) ?_
            refine lv_bipush (v := (44 : Int32)) hx hb dL_bounds_45 (by decide) ?_
            refine lv_icmp_ne (tgt := 96) hx hb dL_bounds_47 (by decide) (fun c_319 => ?_) (fun c_319 => absurd c_319 (by decide))
            refine lv_aload_n hx hb dL_bounds_96 rfl (lv_at hl 1 rfl) ?_
            refine lv_iload_n hx hb dL_bounds_97 rfl (lv_at hl 0 rfl) ?_
            refine lv_bipush (v := (9 : Int32)) hx hb dL_bounds_98 (by decide) ?_
            refine lv_idiv hx hb dL_bounds_100 (by decide) ?_
            refine lv_lit (b := (3 : Int32)) (by decide) ?_
            refine lv_bipush (v := (10 : Int32)) hx hb dL_bounds_101 (by decide) ?_
            refine lv_bipush (v := (20 : Int32)) hx hb dL_bounds_103 (by decide) ?_
            refine lv_iload_n hx hb dL_bounds_105 rfl (lv_at hl 0 rfl) ?_
            refine lv_bipush (v := (9 : Int32)) hx hb dL_bounds_106 (by decide) ?_
            refine lv_irem hx hb dL_bounds_108 (by decide) ?_
            refine lv_lit (b := (3 : Int32)) (by decide) ?_
            refine lv_iadd hx hb dL_bounds_109 ?_
            refine lv_lit (b := (23 : Int32)) (by decide) ?_
            have hFc := frw hD hS hA
            refine vx_calli (vx_runV (As := [.int (3 : Int32), .int (10 : Int32), .int (23 : Int32)]) (rest := []) ⟨hx, hb, hml, hown, hts⟩ (c_X7_state l hst dC dI cI h0 h0_1 h0_2 h0_3 h0_4 h0_5 h0_6 h0_7 h0_8 h0_9 h0_10 h0_11 h0_12 h0_13 h0_14 h0_15 h0_16 h0_17 h0_18 h0_19 h0_20 h0_21 h0_22 m_313 m_314 h0_25 h0_26 m_315 m_316 h0_29 h0_30 _ u_311 (3 : Int32) (10 : Int32) (23 : Int32) _ _ h) (cwV 3 hts (goodIn_up gB_X7_state) rfl rfl rfl (by decide +kernel) ⟨Nat.le_of_ble_eq_true rfl, Nat.le_of_ble_eq_true rfl⟩) (pbj_V hP hK hD hN hX hFc hS (ci := 7) (q0 := 0) rfl rfl) rfl rfl hl.1 rfl (lv_room (Nat.le_of_ble_eq_true rfl)) dL_bounds_110 ⟨Nat.le_of_ble_eq_true rfl, Nat.le_of_ble_eq_true rfl⟩) hS (fun q _ h => hFc q h) hFc (fun q _ h => hFc q h) (fun E9 ce9 q9 u t H locs ht hvm h hB hz1 hk1 hS hce hcv hcl => (show False from h).elim) (fun r_321 u_320 t H locs ht hvm h hB hz1 hk1 hS => ?_)
            obtain ⟨m_322, m_323, m_324, m_325, hP1, hD1⟩ := hB
            rw [ht] at hP1
            have hP : va_P (dC, dI) vwCl (lwO cI h0 h0_1 h0_2 h0_3 h0_4 h0_5 h0_6 h0_7 h0_8 h0_9 h0_10 h0_11 h0_12 h0_13 h0_14 h0_15 h0_16 h0_17 h0_18 h0_19 h0_20 h0_21 h0_22 m_322 m_323 h0_25 h0_26 m_324 m_325 h0_29 h0_30 u_320) H := hP1
            have hD : va_D A (lwO cI h0 h0_1 h0_2 h0_3 h0_4 h0_5 h0_6 h0_7 h0_8 h0_9 h0_10 h0_11 h0_12 h0_13 h0_14 h0_15 h0_16 h0_17 h0_18 h0_19 h0_20 h0_21 h0_22 m_322 m_323 h0_25 h0_26 m_324 m_325 h0_29 h0_30 u_320) := hD1.weaken (fun _ _ _ h => hFc _ h)
            refine W.widen (k := 64) (n := 10033) (Nat.le_of_ble_eq_true rfl) (Nat.le_of_ble_eq_true rfl) ?_
            obtain ⟨ht_, hf_⟩ := h
            refine lv_if_ne (tgt := 118) hx hb dL_bounds_113 (by decide) (fun c_326 => ?_) (fun c_326 => ?_)
            · have h := ht_ c_326
              refine lv_iinc (v := (31 : Int32)) (lv' := [(1, .int (31 : Int32)), (0, .ref h0)]) hx hb dL_bounds_118 hl (k := 0) rfl (by decide) (by decide) rfl (fun ls hl => ?_)
              refine lv_goto (tgt := 38) hx hb dL_bounds_121 (by decide) ?_
              refine lv_iload_n hx hb dL_bounds_38 rfl (lv_at hl 0 rfl) ?_
              refine lv_bipush (v := (60 : Int32)) hx hb dL_bounds_39 (by decide) ?_
              refine lv_icmp_ge (tgt := 124) hx hb dL_bounds_41 (by decide) (fun c_327 => absurd c_327 (by decide)) (fun c_327 => ?_)
              refine lv_iload_n hx hb dL_bounds_44 rfl (lv_at hl 0 rfl) ?_
              refine lv_bipush (v := (44 : Int32)) hx hb dL_bounds_45 (by decide) ?_
              refine lv_icmp_ne (tgt := 96) hx hb dL_bounds_47 (by decide) (fun c_328 => ?_) (fun c_328 => absurd c_328 (by decide))
              refine lv_aload_n hx hb dL_bounds_96 rfl (lv_at hl 1 rfl) ?_
              refine lv_iload_n hx hb dL_bounds_97 rfl (lv_at hl 0 rfl) ?_
              refine lv_bipush (v := (9 : Int32)) hx hb dL_bounds_98 (by decide) ?_
              refine lv_idiv hx hb dL_bounds_100 (by decide) ?_
              refine lv_lit (b := (3 : Int32)) (by decide) ?_
              refine lv_bipush (v := (10 : Int32)) hx hb dL_bounds_101 (by decide) ?_
              refine lv_bipush (v := (20 : Int32)) hx hb dL_bounds_103 (by decide) ?_
              refine lv_iload_n hx hb dL_bounds_105 rfl (lv_at hl 0 rfl) ?_
              refine lv_bipush (v := (9 : Int32)) hx hb dL_bounds_106 (by decide) ?_
              refine lv_irem hx hb dL_bounds_108 (by decide) ?_
              refine lv_lit (b := (4 : Int32)) (by decide) ?_
              refine lv_iadd hx hb dL_bounds_109 ?_
              refine lv_lit (b := (24 : Int32)) (by decide) ?_
              have hFc := frw hD hS hA
              refine vx_calli (vx_runV (As := [.int (3 : Int32), .int (10 : Int32), .int (24 : Int32)]) (rest := []) ⟨hx, hb, hml, hown, hts⟩ (c_X7_state l hst dC dI cI h0 h0_1 h0_2 h0_3 h0_4 h0_5 h0_6 h0_7 h0_8 h0_9 h0_10 h0_11 h0_12 h0_13 h0_14 h0_15 h0_16 h0_17 h0_18 h0_19 h0_20 h0_21 h0_22 m_322 m_323 h0_25 h0_26 m_324 m_325 h0_29 h0_30 _ u_320 (3 : Int32) (10 : Int32) (24 : Int32) _ _ h) (cwV 3 hts (goodIn_up gB_X7_state) rfl rfl rfl (by decide +kernel) ⟨Nat.le_of_ble_eq_true rfl, Nat.le_of_ble_eq_true rfl⟩) (pbj_V hP hK hD hN hX hFc hS (ci := 7) (q0 := 0) rfl rfl) rfl rfl hl.1 rfl (lv_room (Nat.le_of_ble_eq_true rfl)) dL_bounds_110 ⟨Nat.le_of_ble_eq_true rfl, Nat.le_of_ble_eq_true rfl⟩) hS (fun q _ h => hFc q h) hFc (fun q _ h => hFc q h) (fun E9 ce9 q9 u t H locs ht hvm h hB hz1 hk1 hS hce hcv hcl => (show False from h).elim) (fun r_330 u_329 t H locs ht hvm h hB hz1 hk1 hS => ?_)
              obtain ⟨m_331, m_332, m_333, m_334, hP1, hD1⟩ := hB
              rw [ht] at hP1
              have hP : va_P (dC, dI) vwCl (lwO cI h0 h0_1 h0_2 h0_3 h0_4 h0_5 h0_6 h0_7 h0_8 h0_9 h0_10 h0_11 h0_12 h0_13 h0_14 h0_15 h0_16 h0_17 h0_18 h0_19 h0_20 h0_21 h0_22 m_331 m_332 h0_25 h0_26 m_333 m_334 h0_29 h0_30 u_329) H := hP1
              have hD : va_D A (lwO cI h0 h0_1 h0_2 h0_3 h0_4 h0_5 h0_6 h0_7 h0_8 h0_9 h0_10 h0_11 h0_12 h0_13 h0_14 h0_15 h0_16 h0_17 h0_18 h0_19 h0_20 h0_21 h0_22 m_331 m_332 h0_25 h0_26 m_333 m_334 h0_29 h0_30 u_329) := hD1.weaken (fun _ _ _ h => hFc _ h)
              refine W.widen (k := 65) (n := 10039) (Nat.le_of_ble_eq_true rfl) (Nat.le_of_ble_eq_true rfl) ?_
              obtain ⟨ht_, hf_⟩ := h
              refine lv_if_ne (tgt := 118) hx hb dL_bounds_113 (by decide) (fun c_335 => ?_) (fun c_335 => ?_)
              · have h := ht_ c_335
                have hl : lv_has ls 3 [(0, .ref h0), (1, .int (31 : Int32))] := lv_sub hl [1, 0] rfl
                refine W.widen (k := 65) (n := 10039) (Nat.le_of_ble_eq_true rfl) (Nat.le_of_ble_eq_true rfl) ?_
                exact sg_L_bounds_5 l hst C0 hK hN hX hC hA h0 h0_1 h0_2 h0_3 h0_4 h0_5 h0_6 h0_7 h0_8 h0_9 h0_10 h0_11 h0_12 h0_13 h0_14 h0_15 h0_16 h0_17 h0_18 h0_19 h0_20 h0_21 h0_22 h0_25 h0_26 h0_29 h0_30 _ u_329 h m_331 m_332 m_333 m_334 _ _ hP hD hS _ hl
              · have h := hf_ c_335
                exact (show False from h).elim
            · have h := hf_ c_326
              exact (show False from h).elim
          · have h := hf_ c_317
            exact (show False from h).elim
        · have h := hf_ c_308
          exact (show False from h).elim
      · have h := hf_ c_299
        exact (show False from h).elim
    · have h := hf_ c_290
      exact (show False from h).elim
  · have h := hf_ c_281
    exact (show False from h).elim
set_option maxHeartbeats 4000000 in
set_option maxRecDepth 100000 in
theorem sg_L_bounds_3 (l : Launch) (hst : l.stackTraces = false) {p : Program} {e : Env} {s : State} {m : MethodId} {below : List Frame} {meth : Method} {c : Code} (C0 : LC p s m (([] : List Value).toArray) meth c cL_bounds 3 wq_bounds) {dC : Nat → ClassId} {dI : Nat → Nat → Nat} {cI : ClassId} (hK : va_K (dC, dI) vwCl [(cI, .int)] s) (hN : nk s) {A : Nat → Prop} (hX : xj A s) (hC : xnc s) (hA : ∀ q : Nat, s.heap.size ≤ q → A q) (h0 h0_1 h0_2 h0_3 h0_4 h0_5 h0_6 h0_7 h0_8 h0_9 h0_10 h0_11 h0_12 h0_13 h0_14 h0_15 h0_16 h0_17 h0_18 h0_19 h0_20 h0_21 h0_22 h0_25 h0_26 h0_29 h0_30 : Nat) (post : Int32 → Prop) (s0 : TriS) (h : P_L_bounds_3 s0 post) (h0_23 h0_24 h0_27 h0_28 : Nat) (H : Heap) (locs : List Loc) (hP : va_P (dC, dI) vwCl (lwO cI h0 h0_1 h0_2 h0_3 h0_4 h0_5 h0_6 h0_7 h0_8 h0_9 h0_10 h0_11 h0_12 h0_13 h0_14 h0_15 h0_16 h0_17 h0_18 h0_19 h0_20 h0_21 h0_22 h0_23 h0_24 h0_25 h0_26 h0_27 h0_28 h0_29 h0_30 s0) H) (hD : va_D A (lwO cI h0 h0_1 h0_2 h0_3 h0_4 h0_5 h0_6 h0_7 h0_8 h0_9 h0_10 h0_11 h0_12 h0_13 h0_14 h0_15 h0_16 h0_17 h0_18 h0_19 h0_20 h0_21 h0_22 h0_23 h0_24 h0_25 h0_26 h0_27 h0_28 h0_29 h0_30 s0)) (hS : va_S A s.heap H locs) (ls : Array Slot) (hl : lv_has ls 3 [(0, .ref h0), (1, .int (17 : Int32))]) : W p l e rm_L_bounds s m (([] : List Value).toArray) below meth c H locs 51 9955 (MQ below (Q_L_bounds dC dI cI A post) (([] : List Value).toArray) s mc_L_bounds ms_L_bounds A) (F0 m 118 ls []) := by
  obtain ⟨hx, hb, hr, hml, hown, hts, hlocks⟩ := id C0
  refine lv_iinc (v := (18 : Int32)) (lv' := [(1, .int (18 : Int32)), (0, .ref h0)]) hx hb dL_bounds_118 hl (k := 1) rfl (by decide) (by decide) rfl (fun ls hl => ?_)
  refine lv_goto (tgt := 38) hx hb dL_bounds_121 (by decide) ?_
  refine lv_iload_n hx hb dL_bounds_38 rfl (lv_at hl 0 rfl) ?_
  refine lv_bipush (v := (60 : Int32)) hx hb dL_bounds_39 (by decide) ?_
  refine lv_icmp_ge (tgt := 124) hx hb dL_bounds_41 (by decide) (fun c_210 => absurd c_210 (by decide)) (fun c_210 => ?_)
  refine lv_iload_n hx hb dL_bounds_44 rfl (lv_at hl 0 rfl) ?_
  refine lv_bipush (v := (44 : Int32)) hx hb dL_bounds_45 (by decide) ?_
  refine lv_icmp_ne (tgt := 96) hx hb dL_bounds_47 (by decide) (fun c_211 => ?_) (fun c_211 => absurd c_211 (by decide))
  refine lv_aload_n hx hb dL_bounds_96 rfl (lv_at hl 1 rfl) ?_
  refine lv_iload_n hx hb dL_bounds_97 rfl (lv_at hl 0 rfl) ?_
  refine lv_bipush (v := (9 : Int32)) hx hb dL_bounds_98 (by decide) ?_
  refine lv_idiv hx hb dL_bounds_100 (by decide) ?_
  refine lv_lit (b := (2 : Int32)) (by decide) ?_
  refine lv_bipush (v := (10 : Int32)) hx hb dL_bounds_101 (by decide) ?_
  refine lv_bipush (v := (20 : Int32)) hx hb dL_bounds_103 (by decide) ?_
  refine lv_iload_n hx hb dL_bounds_105 rfl (lv_at hl 0 rfl) ?_
  refine lv_bipush (v := (9 : Int32)) hx hb dL_bounds_106 (by decide) ?_
  refine lv_irem hx hb dL_bounds_108 (by decide) ?_
  refine lv_lit (b := (0 : Int32)) (by decide) ?_
  refine lv_iadd hx hb dL_bounds_109 ?_
  refine lv_lit (b := (20 : Int32)) (by decide) ?_
  have hFc := frw hD hS hA
  refine vx_calli (vx_runV (As := [.int (2 : Int32), .int (10 : Int32), .int (20 : Int32)]) (rest := []) ⟨hx, hb, hml, hown, hts⟩ (c_X7_state l hst dC dI cI h0 h0_1 h0_2 h0_3 h0_4 h0_5 h0_6 h0_7 h0_8 h0_9 h0_10 h0_11 h0_12 h0_13 h0_14 h0_15 h0_16 h0_17 h0_18 h0_19 h0_20 h0_21 h0_22 h0_23 h0_24 h0_25 h0_26 h0_27 h0_28 h0_29 h0_30 _ s0 (2 : Int32) (10 : Int32) (20 : Int32) _ _ h) (cwV 3 hts (goodIn_up gB_X7_state) rfl rfl rfl (by decide +kernel) ⟨Nat.le_of_ble_eq_true rfl, Nat.le_of_ble_eq_true rfl⟩) (pbj_V hP hK hD hN hX hFc hS (ci := 7) (q0 := 0) rfl rfl) rfl rfl hl.1 rfl (lv_room (Nat.le_of_ble_eq_true rfl)) dL_bounds_110 ⟨Nat.le_of_ble_eq_true rfl, Nat.le_of_ble_eq_true rfl⟩) hS (fun q _ h => hFc q h) hFc (fun q _ h => hFc q h) (fun E9 ce9 q9 u t H locs ht hvm h hB hz1 hk1 hS hce hcv hcl => (show False from h).elim) (fun r_213 u_212 t H locs ht hvm h hB hz1 hk1 hS => ?_)
  obtain ⟨m_214, m_215, m_216, m_217, hP1, hD1⟩ := hB
  rw [ht] at hP1
  have hP : va_P (dC, dI) vwCl (lwO cI h0 h0_1 h0_2 h0_3 h0_4 h0_5 h0_6 h0_7 h0_8 h0_9 h0_10 h0_11 h0_12 h0_13 h0_14 h0_15 h0_16 h0_17 h0_18 h0_19 h0_20 h0_21 h0_22 m_214 m_215 h0_25 h0_26 m_216 m_217 h0_29 h0_30 u_212) H := hP1
  have hD : va_D A (lwO cI h0 h0_1 h0_2 h0_3 h0_4 h0_5 h0_6 h0_7 h0_8 h0_9 h0_10 h0_11 h0_12 h0_13 h0_14 h0_15 h0_16 h0_17 h0_18 h0_19 h0_20 h0_21 h0_22 m_214 m_215 h0_25 h0_26 m_216 m_217 h0_29 h0_30 u_212) := hD1.weaken (fun _ _ _ h => hFc _ h)
  refine W.widen (k := 52) (n := 9961) (Nat.le_of_ble_eq_true rfl) (Nat.le_of_ble_eq_true rfl) ?_
  obtain ⟨ht_, hf_⟩ := h
  refine lv_if_ne (tgt := 118) hx hb dL_bounds_113 (by decide) (fun c_218 => ?_) (fun c_218 => ?_)
  · have h := ht_ c_218
    refine lv_iinc (v := (19 : Int32)) (lv' := [(1, .int (19 : Int32)), (0, .ref h0)]) hx hb dL_bounds_118 hl (k := 0) rfl (by decide) (by decide) rfl (fun ls hl => ?_)
    refine lv_goto (tgt := 38) hx hb dL_bounds_121 (by decide) ?_
    refine lv_iload_n hx hb dL_bounds_38 rfl (lv_at hl 0 rfl) ?_
    refine lv_bipush (v := (60 : Int32)) hx hb dL_bounds_39 (by decide) ?_
    refine lv_icmp_ge (tgt := 124) hx hb dL_bounds_41 (by decide) (fun c_219 => absurd c_219 (by decide)) (fun c_219 => ?_)
    refine lv_iload_n hx hb dL_bounds_44 rfl (lv_at hl 0 rfl) ?_
    refine lv_bipush (v := (44 : Int32)) hx hb dL_bounds_45 (by decide) ?_
    refine lv_icmp_ne (tgt := 96) hx hb dL_bounds_47 (by decide) (fun c_220 => ?_) (fun c_220 => absurd c_220 (by decide))
    refine lv_aload_n hx hb dL_bounds_96 rfl (lv_at hl 1 rfl) ?_
    refine lv_iload_n hx hb dL_bounds_97 rfl (lv_at hl 0 rfl) ?_
    refine lv_bipush (v := (9 : Int32)) hx hb dL_bounds_98 (by decide) ?_
    refine lv_idiv hx hb dL_bounds_100 (by decide) ?_
    refine lv_lit (b := (2 : Int32)) (by decide) ?_
    refine lv_bipush (v := (10 : Int32)) hx hb dL_bounds_101 (by decide) ?_
    refine lv_bipush (v := (20 : Int32)) hx hb dL_bounds_103 (by decide) ?_
    refine lv_iload_n hx hb dL_bounds_105 rfl (lv_at hl 0 rfl) ?_
    refine lv_bipush (v := (9 : Int32)) hx hb dL_bounds_106 (by decide) ?_
    refine lv_irem hx hb dL_bounds_108 (by decide) ?_
    refine lv_lit (b := (1 : Int32)) (by decide) ?_
    refine lv_iadd hx hb dL_bounds_109 ?_
    refine lv_lit (b := (21 : Int32)) (by decide) ?_
    have hFc := frw hD hS hA
    refine vx_calli (vx_runV (As := [.int (2 : Int32), .int (10 : Int32), .int (21 : Int32)]) (rest := []) ⟨hx, hb, hml, hown, hts⟩ (c_X7_state l hst dC dI cI h0 h0_1 h0_2 h0_3 h0_4 h0_5 h0_6 h0_7 h0_8 h0_9 h0_10 h0_11 h0_12 h0_13 h0_14 h0_15 h0_16 h0_17 h0_18 h0_19 h0_20 h0_21 h0_22 m_214 m_215 h0_25 h0_26 m_216 m_217 h0_29 h0_30 _ u_212 (2 : Int32) (10 : Int32) (21 : Int32) _ _ h) (cwV 3 hts (goodIn_up gB_X7_state) rfl rfl rfl (by decide +kernel) ⟨Nat.le_of_ble_eq_true rfl, Nat.le_of_ble_eq_true rfl⟩) (pbj_V hP hK hD hN hX hFc hS (ci := 7) (q0 := 0) rfl rfl) rfl rfl hl.1 rfl (lv_room (Nat.le_of_ble_eq_true rfl)) dL_bounds_110 ⟨Nat.le_of_ble_eq_true rfl, Nat.le_of_ble_eq_true rfl⟩) hS (fun q _ h => hFc q h) hFc (fun q _ h => hFc q h) (fun E9 ce9 q9 u t H locs ht hvm h hB hz1 hk1 hS hce hcv hcl => (show False from h).elim) (fun r_222 u_221 t H locs ht hvm h hB hz1 hk1 hS => ?_)
    obtain ⟨m_223, m_224, m_225, m_226, hP1, hD1⟩ := hB
    rw [ht] at hP1
    have hP : va_P (dC, dI) vwCl (lwO cI h0 h0_1 h0_2 h0_3 h0_4 h0_5 h0_6 h0_7 h0_8 h0_9 h0_10 h0_11 h0_12 h0_13 h0_14 h0_15 h0_16 h0_17 h0_18 h0_19 h0_20 h0_21 h0_22 m_223 m_224 h0_25 h0_26 m_225 m_226 h0_29 h0_30 u_221) H := hP1
    have hD : va_D A (lwO cI h0 h0_1 h0_2 h0_3 h0_4 h0_5 h0_6 h0_7 h0_8 h0_9 h0_10 h0_11 h0_12 h0_13 h0_14 h0_15 h0_16 h0_17 h0_18 h0_19 h0_20 h0_21 h0_22 m_223 m_224 h0_25 h0_26 m_225 m_226 h0_29 h0_30 u_221) := hD1.weaken (fun _ _ _ h => hFc _ h)
    refine W.widen (k := 53) (n := 9967) (Nat.le_of_ble_eq_true rfl) (Nat.le_of_ble_eq_true rfl) ?_
    obtain ⟨ht_, hf_⟩ := h
    refine lv_if_ne (tgt := 118) hx hb dL_bounds_113 (by decide) (fun c_227 => ?_) (fun c_227 => ?_)
    · have h := ht_ c_227
      refine lv_iinc (v := (20 : Int32)) (lv' := [(1, .int (20 : Int32)), (0, .ref h0)]) hx hb dL_bounds_118 hl (k := 0) rfl (by decide) (by decide) rfl (fun ls hl => ?_)
      refine lv_goto (tgt := 38) hx hb dL_bounds_121 (by decide) ?_
      refine lv_iload_n hx hb dL_bounds_38 rfl (lv_at hl 0 rfl) ?_
      refine lv_bipush (v := (60 : Int32)) hx hb dL_bounds_39 (by decide) ?_
      refine lv_icmp_ge (tgt := 124) hx hb dL_bounds_41 (by decide) (fun c_228 => absurd c_228 (by decide)) (fun c_228 => ?_)
      refine lv_iload_n hx hb dL_bounds_44 rfl (lv_at hl 0 rfl) ?_
      refine lv_bipush (v := (44 : Int32)) hx hb dL_bounds_45 (by decide) ?_
      refine lv_icmp_ne (tgt := 96) hx hb dL_bounds_47 (by decide) (fun c_229 => ?_) (fun c_229 => absurd c_229 (by decide))
      refine lv_aload_n hx hb dL_bounds_96 rfl (lv_at hl 1 rfl) ?_
      refine lv_iload_n hx hb dL_bounds_97 rfl (lv_at hl 0 rfl) ?_
      refine lv_bipush (v := (9 : Int32)) hx hb dL_bounds_98 (by decide) ?_
      refine lv_idiv hx hb dL_bounds_100 (by decide) ?_
      refine lv_lit (b := (2 : Int32)) (by decide) ?_
      refine lv_bipush (v := (10 : Int32)) hx hb dL_bounds_101 (by decide) ?_
      refine lv_bipush (v := (20 : Int32)) hx hb dL_bounds_103 (by decide) ?_
      refine lv_iload_n hx hb dL_bounds_105 rfl (lv_at hl 0 rfl) ?_
      refine lv_bipush (v := (9 : Int32)) hx hb dL_bounds_106 (by decide) ?_
      refine lv_irem hx hb dL_bounds_108 (by decide) ?_
      refine lv_lit (b := (2 : Int32)) (by decide) ?_
      refine lv_iadd hx hb dL_bounds_109 ?_
      refine lv_lit (b := (22 : Int32)) (by decide) ?_
      have hFc := frw hD hS hA
      refine vx_calli (vx_runV (As := [.int (2 : Int32), .int (10 : Int32), .int (22 : Int32)]) (rest := []) ⟨hx, hb, hml, hown, hts⟩ (c_X7_state l hst dC dI cI h0 h0_1 h0_2 h0_3 h0_4 h0_5 h0_6 h0_7 h0_8 h0_9 h0_10 h0_11 h0_12 h0_13 h0_14 h0_15 h0_16 h0_17 h0_18 h0_19 h0_20 h0_21 h0_22 m_223 m_224 h0_25 h0_26 m_225 m_226 h0_29 h0_30 _ u_221 (2 : Int32) (10 : Int32) (22 : Int32) _ _ h) (cwV 3 hts (goodIn_up gB_X7_state) rfl rfl rfl (by decide +kernel) ⟨Nat.le_of_ble_eq_true rfl, Nat.le_of_ble_eq_true rfl⟩) (pbj_V hP hK hD hN hX hFc hS (ci := 7) (q0 := 0) rfl rfl) rfl rfl hl.1 rfl (lv_room (Nat.le_of_ble_eq_true rfl)) dL_bounds_110 ⟨Nat.le_of_ble_eq_true rfl, Nat.le_of_ble_eq_true rfl⟩) hS (fun q _ h => hFc q h) hFc (fun q _ h => hFc q h) (fun E9 ce9 q9 u t H locs ht hvm h hB hz1 hk1 hS hce hcv hcl => (show False from h).elim) (fun r_231 u_230 t H locs ht hvm h hB hz1 hk1 hS => ?_)
      obtain ⟨m_232, m_233, m_234, m_235, hP1, hD1⟩ := hB
      rw [ht] at hP1
      have hP : va_P (dC, dI) vwCl (lwO cI h0 h0_1 h0_2 h0_3 h0_4 h0_5 h0_6 h0_7 h0_8 h0_9 h0_10 h0_11 h0_12 h0_13 h0_14 h0_15 h0_16 h0_17 h0_18 h0_19 h0_20 h0_21 h0_22 m_232 m_233 h0_25 h0_26 m_234 m_235 h0_29 h0_30 u_230) H := hP1
      have hD : va_D A (lwO cI h0 h0_1 h0_2 h0_3 h0_4 h0_5 h0_6 h0_7 h0_8 h0_9 h0_10 h0_11 h0_12 h0_13 h0_14 h0_15 h0_16 h0_17 h0_18 h0_19 h0_20 h0_21 h0_22 m_232 m_233 h0_25 h0_26 m_234 m_235 h0_29 h0_30 u_230) := hD1.weaken (fun _ _ _ h => hFc _ h)
      refine W.widen (k := 54) (n := 9973) (Nat.le_of_ble_eq_true rfl) (Nat.le_of_ble_eq_true rfl) ?_
      obtain ⟨ht_, hf_⟩ := h
      refine lv_if_ne (tgt := 118) hx hb dL_bounds_113 (by decide) (fun c_236 => ?_) (fun c_236 => ?_)
      · have h := ht_ c_236
        refine lv_iinc (v := (21 : Int32)) (lv' := [(1, .int (21 : Int32)), (0, .ref h0)]) hx hb dL_bounds_118 hl (k := 0) rfl (by decide) (by decide) rfl (fun ls hl => ?_)
        refine lv_goto (tgt := 38) hx hb dL_bounds_121 (by decide) ?_
        refine lv_iload_n hx hb dL_bounds_38 rfl (lv_at hl 0 rfl) ?_
        refine lv_bipush (v := (60 : Int32)) hx hb dL_bounds_39 (by decide) ?_
        refine lv_icmp_ge (tgt := 124) hx hb dL_bounds_41 (by decide) (fun c_237 => absurd c_237 (by decide)) (fun c_237 => ?_)
        refine lv_iload_n hx hb dL_bounds_44 rfl (lv_at hl 0 rfl) ?_
        refine lv_bipush (v := (44 : Int32)) hx hb dL_bounds_45 (by decide) ?_
        refine lv_icmp_ne (tgt := 96) hx hb dL_bounds_47 (by decide) (fun c_238 => ?_) (fun c_238 => absurd c_238 (by decide))
        refine lv_aload_n hx hb dL_bounds_96 rfl (lv_at hl 1 rfl) ?_
        refine lv_iload_n hx hb dL_bounds_97 rfl (lv_at hl 0 rfl) ?_
        refine lv_bipush (v := (9 : Int32)) hx hb dL_bounds_98 (by decide) ?_
        refine lv_idiv hx hb dL_bounds_100 (by decide) ?_
        refine lv_lit (b := (2 : Int32)) (by decide) ?_
        refine lv_bipush (v := (10 : Int32)) hx hb dL_bounds_101 (by decide) ?_
        refine lv_bipush (v := (20 : Int32)) hx hb dL_bounds_103 (by decide) ?_
        refine lv_iload_n hx hb dL_bounds_105 rfl (lv_at hl 0 rfl) ?_
        refine lv_bipush (v := (9 : Int32)) hx hb dL_bounds_106 (by decide) ?_
        refine lv_irem hx hb dL_bounds_108 (by decide) ?_
        refine lv_lit (b := (3 : Int32)) (by decide) ?_
        refine lv_iadd hx hb dL_bounds_109 ?_
        refine lv_lit (b := (23 : Int32)) (by decide) ?_
        have hFc := frw hD hS hA
        refine vx_calli (vx_runV (As := [.int (2 : Int32), .int (10 : Int32), .int (23 : Int32)]) (rest := []) ⟨hx, hb, hml, hown, hts⟩ (c_X7_state l hst dC dI cI h0 h0_1 h0_2 h0_3 h0_4 h0_5 h0_6 h0_7 h0_8 h0_9 h0_10 h0_11 h0_12 h0_13 h0_14 h0_15 h0_16 h0_17 h0_18 h0_19 h0_20 h0_21 h0_22 m_232 m_233 h0_25 h0_26 m_234 m_235 h0_29 h0_30 _ u_230 (2 : Int32) (10 : Int32) (23 : Int32) _ _ h) (cwV 3 hts (goodIn_up gB_X7_state) rfl rfl rfl (by decide +kernel) ⟨Nat.le_of_ble_eq_true rfl, Nat.le_of_ble_eq_true rfl⟩) (pbj_V hP hK hD hN hX hFc hS (ci := 7) (q0 := 0) rfl rfl) rfl rfl hl.1 rfl (lv_room (Nat.le_of_ble_eq_true rfl)) dL_bounds_110 ⟨Nat.le_of_ble_eq_true rfl, Nat.le_of_ble_eq_true rfl⟩) hS (fun q _ h => hFc q h) hFc (fun q _ h => hFc q h) (fun E9 ce9 q9 u t H locs ht hvm h hB hz1 hk1 hS hce hcv hcl => (show False from h).elim) (fun r_240 u_239 t H locs ht hvm h hB hz1 hk1 hS => ?_)
        obtain ⟨m_241, m_242, m_243, m_244, hP1, hD1⟩ := hB
        rw [ht] at hP1
        have hP : va_P (dC, dI) vwCl (lwO cI h0 h0_1 h0_2 h0_3 h0_4 h0_5 h0_6 h0_7 h0_8 h0_9 h0_10 h0_11 h0_12 h0_13 h0_14 h0_15 h0_16 h0_17 h0_18 h0_19 h0_20 h0_21 h0_22 m_241 m_242 h0_25 h0_26 m_243 m_244 h0_29 h0_30 u_239) H := hP1
        have hD : va_D A (lwO cI h0 h0_1 h0_2 h0_3 h0_4 h0_5 h0_6 h0_7 h0_8 h0_9 h0_10 h0_11 h0_12 h0_13 h0_14 h0_15 h0_16 h0_17 h0_18 h0_19 h0_20 h0_21 h0_22 m_241 m_242 h0_25 h0_26 m_243 m_244 h0_29 h0_30 u_239) := hD1.weaken (fun _ _ _ h => hFc _ h)
        refine W.widen (k := 55) (n := 9979) (Nat.le_of_ble_eq_true rfl) (Nat.le_of_ble_eq_true rfl) ?_
        obtain ⟨ht_, hf_⟩ := h
        refine lv_if_ne (tgt := 118) hx hb dL_bounds_113 (by decide) (fun c_245 => ?_) (fun c_245 => ?_)
        · have h := ht_ c_245
          refine lv_iinc (v := (22 : Int32)) (lv' := [(1, .int (22 : Int32)), (0, .ref h0)]) hx hb dL_bounds_118 hl (k := 0) rfl (by decide) (by decide) rfl (fun ls hl => ?_)
          refine lv_goto (tgt := 38) hx hb dL_bounds_121 (by decide) ?_
          refine lv_iload_n hx hb dL_bounds_38 rfl (lv_at hl 0 rfl) ?_
          refine lv_bipush (v := (60 : Int32)) hx hb dL_bounds_39 (by decide) ?_
          refine lv_icmp_ge (tgt := 124) hx hb dL_bounds_41 (by decide) (fun c_246 => absurd c_246 (by decide)) (fun c_246 => ?_)
          refine lv_iload_n hx hb dL_bounds_44 rfl (lv_at hl 0 rfl) ?_
          refine lv_bipush (v := (44 : Int32)) hx hb dL_bounds_45 (by decide) ?_
          refine lv_icmp_ne (tgt := 96) hx hb dL_bounds_47 (by decide) (fun c_247 => ?_) (fun c_247 => absurd c_247 (by decide))
          refine lv_aload_n hx hb dL_bounds_96 rfl (lv_at hl 1 rfl) ?_
          refine lv_iload_n hx hb dL_bounds_97 rfl (lv_at hl 0 rfl) ?_
          refine lv_bipush (v := (9 : Int32)) hx hb dL_bounds_98 (by decide) ?_
          refine lv_idiv hx hb dL_bounds_100 (by decide) ?_
          refine lv_lit (b := (2 : Int32)) (by decide) ?_
          refine lv_bipush (v := (10 : Int32)) hx hb dL_bounds_101 (by decide) ?_
          refine lv_bipush (v := (20 : Int32)) hx hb dL_bounds_103 (by decide) ?_
          refine lv_iload_n hx hb dL_bounds_105 rfl (lv_at hl 0 rfl) ?_
          refine lv_bipush (v := (9 : Int32)) hx hb dL_bounds_106 (by decide) ?_
          refine lv_irem hx hb dL_bounds_108 (by decide) ?_
          refine lv_lit (b := (4 : Int32)) (by decide) ?_
          refine lv_iadd hx hb dL_bounds_109 ?_
          refine lv_lit (b := (24 : Int32)) (by decide) ?_
          have hFc := frw hD hS hA
          refine vx_calli (vx_runV (As := [.int (2 : Int32), .int (10 : Int32), .int (24 : Int32)]) (rest := []) ⟨hx, hb, hml, hown, hts⟩ (c_X7_state l hst dC dI cI h0 h0_1 h0_2 h0_3 h0_4 h0_5 h0_6 h0_7 h0_8 h0_9 h0_10 h0_11 h0_12 h0_13 h0_14 h0_15 h0_16 h0_17 h0_18 h0_19 h0_20 h0_21 h0_22 m_241 m_242 h0_25 h0_26 m_243 m_244 h0_29 h0_30 _ u_239 (2 : Int32) (10 : Int32) (24 : Int32) _ _ h) (cwV 3 hts (goodIn_up gB_X7_state) rfl rfl rfl (by decide +kernel) ⟨Nat.le_of_ble_eq_true rfl, Nat.le_of_ble_eq_true rfl⟩) (pbj_V hP hK hD hN hX hFc hS (ci := 7) (q0 := 0) rfl rfl) rfl rfl hl.1 rfl (lv_room (Nat.le_of_ble_eq_true rfl)) dL_bounds_110 ⟨Nat.le_of_ble_eq_true rfl, Nat.le_of_ble_eq_true rfl⟩) hS (fun q _ h => hFc q h) hFc (fun q _ h => hFc q h) (fun E9 ce9 q9 u t H locs ht hvm h hB hz1 hk1 hS hce hcv hcl => (show False from h).elim) (fun r_249 u_248 t H locs ht hvm h hB hz1 hk1 hS => ?_)
          obtain ⟨m_250, m_251, m_252, m_253, hP1, hD1⟩ := hB
          rw [ht] at hP1
          have hP : va_P (dC, dI) vwCl (lwO cI h0 h0_1 h0_2 h0_3 h0_4 h0_5 h0_6 h0_7 h0_8 h0_9 h0_10 h0_11 h0_12 h0_13 h0_14 h0_15 h0_16 h0_17 h0_18 h0_19 h0_20 h0_21 h0_22 m_250 m_251 h0_25 h0_26 m_252 m_253 h0_29 h0_30 u_248) H := hP1
          have hD : va_D A (lwO cI h0 h0_1 h0_2 h0_3 h0_4 h0_5 h0_6 h0_7 h0_8 h0_9 h0_10 h0_11 h0_12 h0_13 h0_14 h0_15 h0_16 h0_17 h0_18 h0_19 h0_20 h0_21 h0_22 m_250 m_251 h0_25 h0_26 m_252 m_253 h0_29 h0_30 u_248) := hD1.weaken (fun _ _ _ h => hFc _ h)
          refine W.widen (k := 56) (n := 9985) (Nat.le_of_ble_eq_true rfl) (Nat.le_of_ble_eq_true rfl) ?_
          obtain ⟨ht_, hf_⟩ := h
          refine lv_if_ne (tgt := 118) hx hb dL_bounds_113 (by decide) (fun c_254 => ?_) (fun c_254 => ?_)
          · have h := ht_ c_254
            refine lv_iinc (v := (23 : Int32)) (lv' := [(1, .int (23 : Int32)), (0, .ref h0)]) hx hb dL_bounds_118 hl (k := 0) rfl (by decide) (by decide) rfl (fun ls hl => ?_)
            refine lv_goto (tgt := 38) hx hb dL_bounds_121 (by decide) ?_
            refine lv_iload_n hx hb dL_bounds_38 rfl (lv_at hl 0 rfl) ?_
            refine lv_bipush (v := (60 : Int32)) hx hb dL_bounds_39 (by decide) ?_
            refine lv_icmp_ge (tgt := 124) hx hb dL_bounds_41 (by decide) (fun c_255 => absurd c_255 (by decide)) (fun c_255 => ?_)
            refine lv_iload_n hx hb dL_bounds_44 rfl (lv_at hl 0 rfl) ?_
            refine lv_bipush (v := (44 : Int32)) hx hb dL_bounds_45 (by decide) ?_
            refine lv_icmp_ne (tgt := 96) hx hb dL_bounds_47 (by decide) (fun c_256 => ?_) (fun c_256 => absurd c_256 (by decide))
            refine lv_aload_n hx hb dL_bounds_96 rfl (lv_at hl 1 rfl) ?_
            refine lv_iload_n hx hb dL_bounds_97 rfl (lv_at hl 0 rfl) ?_
            refine lv_bipush (v := (9 : Int32)) hx hb dL_bounds_98 (by decide) ?_
            refine lv_idiv hx hb dL_bounds_100 (by decide) ?_
            refine lv_lit (b := (2 : Int32)) (by decide) ?_
            refine lv_bipush (v := (10 : Int32)) hx hb dL_bounds_101 (by decide) ?_
            refine lv_bipush (v := (20 : Int32)) hx hb dL_bounds_103 (by decide) ?_
            refine lv_iload_n hx hb dL_bounds_105 rfl (lv_at hl 0 rfl) ?_
            refine lv_bipush (v := (9 : Int32)) hx hb dL_bounds_106 (by decide) ?_
            refine lv_irem hx hb dL_bounds_108 (by decide) ?_
            refine lv_lit (b := (5 : Int32)) (by decide) ?_
            refine lv_iadd hx hb dL_bounds_109 ?_
            refine lv_lit (b := (25 : Int32)) (by decide) ?_
            have hFc := frw hD hS hA
            refine vx_calli (vx_runV (As := [.int (2 : Int32), .int (10 : Int32), .int (25 : Int32)]) (rest := []) ⟨hx, hb, hml, hown, hts⟩ (c_X7_state l hst dC dI cI h0 h0_1 h0_2 h0_3 h0_4 h0_5 h0_6 h0_7 h0_8 h0_9 h0_10 h0_11 h0_12 h0_13 h0_14 h0_15 h0_16 h0_17 h0_18 h0_19 h0_20 h0_21 h0_22 m_250 m_251 h0_25 h0_26 m_252 m_253 h0_29 h0_30 _ u_248 (2 : Int32) (10 : Int32) (25 : Int32) _ _ h) (cwV 3 hts (goodIn_up gB_X7_state) rfl rfl rfl (by decide +kernel) ⟨Nat.le_of_ble_eq_true rfl, Nat.le_of_ble_eq_true rfl⟩) (pbj_V hP hK hD hN hX hFc hS (ci := 7) (q0 := 0) rfl rfl) rfl rfl hl.1 rfl (lv_room (Nat.le_of_ble_eq_true rfl)) dL_bounds_110 ⟨Nat.le_of_ble_eq_true rfl, Nat.le_of_ble_eq_true rfl⟩) hS (fun q _ h => hFc q h) hFc (fun q _ h => hFc q h) (fun E9 ce9 q9 u t H locs ht hvm h hB hz1 hk1 hS hce hcv hcl => (show False from h).elim) (fun r_258 u_257 t H locs ht hvm h hB hz1 hk1 hS => ?_)
            obtain ⟨m_259, m_260, m_261, m_262, hP1, hD1⟩ := hB
            rw [ht] at hP1
            have hP : va_P (dC, dI) vwCl (lwO cI h0 h0_1 h0_2 h0_3 h0_4 h0_5 h0_6 h0_7 h0_8 h0_9 h0_10 h0_11 h0_12 h0_13 h0_14 h0_15 h0_16 h0_17 h0_18 h0_19 h0_20 h0_21 h0_22 m_259 m_260 h0_25 h0_26 m_261 m_262 h0_29 h0_30 u_257) H := hP1
            have hD : va_D A (lwO cI h0 h0_1 h0_2 h0_3 h0_4 h0_5 h0_6 h0_7 h0_8 h0_9 h0_10 h0_11 h0_12 h0_13 h0_14 h0_15 h0_16 h0_17 h0_18 h0_19 h0_20 h0_21 h0_22 m_259 m_260 h0_25 h0_26 m_261 m_262 h0_29 h0_30 u_257) := hD1.weaken (fun _ _ _ h => hFc _ h)
            refine W.widen (k := 57) (n := 9991) (Nat.le_of_ble_eq_true rfl) (Nat.le_of_ble_eq_true rfl) ?_
            obtain ⟨ht_, hf_⟩ := h
            refine lv_if_ne (tgt := 118) hx hb dL_bounds_113 (by decide) (fun c_263 => ?_) (fun c_263 => ?_)
            · have h := ht_ c_263
              refine lv_iinc (v := (24 : Int32)) (lv' := [(1, .int (24 : Int32)), (0, .ref h0)]) hx hb dL_bounds_118 hl (k := 0) rfl (by decide) (by decide) rfl (fun ls hl => ?_)
              refine lv_goto (tgt := 38) hx hb dL_bounds_121 (by decide) ?_
              refine lv_iload_n hx hb dL_bounds_38 rfl (lv_at hl 0 rfl) ?_
              refine lv_bipush (v := (60 : Int32)) hx hb dL_bounds_39 (by decide) ?_
              refine lv_icmp_ge (tgt := 124) hx hb dL_bounds_41 (by decide) (fun c_264 => absurd c_264 (by decide)) (fun c_264 => ?_)
              refine lv_iload_n hx hb dL_bounds_44 rfl (lv_at hl 0 rfl) ?_
              refine lv_bipush (v := (44 : Int32)) hx hb dL_bounds_45 (by decide) ?_
              refine lv_icmp_ne (tgt := 96) hx hb dL_bounds_47 (by decide) (fun c_265 => ?_) (fun c_265 => absurd c_265 (by decide))
              refine lv_aload_n hx hb dL_bounds_96 rfl (lv_at hl 1 rfl) ?_
              refine lv_iload_n hx hb dL_bounds_97 rfl (lv_at hl 0 rfl) ?_
              refine lv_bipush (v := (9 : Int32)) hx hb dL_bounds_98 (by decide) ?_
              refine lv_idiv hx hb dL_bounds_100 (by decide) ?_
              refine lv_lit (b := (2 : Int32)) (by decide) ?_
              refine lv_bipush (v := (10 : Int32)) hx hb dL_bounds_101 (by decide) ?_
              refine lv_bipush (v := (20 : Int32)) hx hb dL_bounds_103 (by decide) ?_
              refine lv_iload_n hx hb dL_bounds_105 rfl (lv_at hl 0 rfl) ?_
              refine lv_bipush (v := (9 : Int32)) hx hb dL_bounds_106 (by decide) ?_
              refine lv_irem hx hb dL_bounds_108 (by decide) ?_
              refine lv_lit (b := (6 : Int32)) (by decide) ?_
              refine lv_iadd hx hb dL_bounds_109 ?_
              refine lv_lit (b := (26 : Int32)) (by decide) ?_
              have hFc := frw hD hS hA
              refine vx_calli (vx_runV (As := [.int (2 : Int32), .int (10 : Int32), .int (26 : Int32)]) (rest := []) ⟨hx, hb, hml, hown, hts⟩ (c_X7_state l hst dC dI cI h0 h0_1 h0_2 h0_3 h0_4 h0_5 h0_6 h0_7 h0_8 h0_9 h0_10 h0_11 h0_12 h0_13 h0_14 h0_15 h0_16 h0_17 h0_18 h0_19 h0_20 h0_21 h0_22 m_259 m_260 h0_25 h0_26 m_261 m_262 h0_29 h0_30 _ u_257 (2 : Int32) (10 : Int32) (26 : Int32) _ _ h) (cwV 3 hts (goodIn_up gB_X7_state) rfl rfl rfl (by decide +kernel) ⟨Nat.le_of_ble_eq_true rfl, Nat.le_of_ble_eq_true rfl⟩) (pbj_V hP hK hD hN hX hFc hS (ci := 7) (q0 := 0) rfl rfl) rfl rfl hl.1 rfl (lv_room (Nat.le_of_ble_eq_true rfl)) dL_bounds_110 ⟨Nat.le_of_ble_eq_true rfl, Nat.le_of_ble_eq_true rfl⟩) hS (fun q _ h => hFc q h) hFc (fun q _ h => hFc q h) (fun E9 ce9 q9 u t H locs ht hvm h hB hz1 hk1 hS hce hcv hcl => (show False from h).elim) (fun r_267 u_266 t H locs ht hvm h hB hz1 hk1 hS => ?_)
              obtain ⟨m_268, m_269, m_270, m_271, hP1, hD1⟩ := hB
              rw [ht] at hP1
              have hP : va_P (dC, dI) vwCl (lwO cI h0 h0_1 h0_2 h0_3 h0_4 h0_5 h0_6 h0_7 h0_8 h0_9 h0_10 h0_11 h0_12 h0_13 h0_14 h0_15 h0_16 h0_17 h0_18 h0_19 h0_20 h0_21 h0_22 m_268 m_269 h0_25 h0_26 m_270 m_271 h0_29 h0_30 u_266) H := hP1
              have hD : va_D A (lwO cI h0 h0_1 h0_2 h0_3 h0_4 h0_5 h0_6 h0_7 h0_8 h0_9 h0_10 h0_11 h0_12 h0_13 h0_14 h0_15 h0_16 h0_17 h0_18 h0_19 h0_20 h0_21 h0_22 m_268 m_269 h0_25 h0_26 m_270 m_271 h0_29 h0_30 u_266) := hD1.weaken (fun _ _ _ h => hFc _ h)
              refine W.widen (k := 58) (n := 9997) (Nat.le_of_ble_eq_true rfl) (Nat.le_of_ble_eq_true rfl) ?_
              obtain ⟨ht_, hf_⟩ := h
              refine lv_if_ne (tgt := 118) hx hb dL_bounds_113 (by decide) (fun c_272 => ?_) (fun c_272 => ?_)
              · have h := ht_ c_272
                have hl : lv_has ls 3 [(0, .ref h0), (1, .int (24 : Int32))] := lv_sub hl [1, 0] rfl
                refine W.widen (k := 58) (n := 9997) (Nat.le_of_ble_eq_true rfl) (Nat.le_of_ble_eq_true rfl) ?_
                exact sg_L_bounds_4 l hst C0 hK hN hX hC hA h0 h0_1 h0_2 h0_3 h0_4 h0_5 h0_6 h0_7 h0_8 h0_9 h0_10 h0_11 h0_12 h0_13 h0_14 h0_15 h0_16 h0_17 h0_18 h0_19 h0_20 h0_21 h0_22 h0_25 h0_26 h0_29 h0_30 _ u_266 h m_268 m_269 m_270 m_271 _ _ hP hD hS _ hl
              · have h := hf_ c_272
                exact (show False from h).elim
            · have h := hf_ c_263
              exact (show False from h).elim
          · have h := hf_ c_254
            exact (show False from h).elim
        · have h := hf_ c_245
          exact (show False from h).elim
      · have h := hf_ c_236
        exact (show False from h).elim
    · have h := hf_ c_227
      exact (show False from h).elim
  · have h := hf_ c_218
    exact (show False from h).elim
