set_option maxHeartbeats 4000000 in
set_option maxRecDepth 100000 in
theorem sg_L_refuses_7 (l : Launch) (hst : l.stackTraces = false) {p : Program} {e : Env} {s : State} {m : MethodId} {below : List Frame} {meth : Method} {c : Code} {h0 : Nat} (C0 : LC p s m (([.ref h0] : List Value).toArray) meth c cL_refuses 15 wq_refuses) {dC : Nat → ClassId} {dI : Nat → Nat → Nat} {cI : ClassId} (hK : va_K (dC, dI) vwCl [(cI, .int)] s) (hN : nk s) {A : Nat → Prop} (hX : xj A s) (hC : xnc s) (hA : ∀ q : Nat, s.heap.size ≤ q → A q) (h0_1 h0_2 h0_3 h0_4 h0_5 h0_6 h0_7 h0_8 h0_9 h0_10 h0_11 h0_12 h0_13 h0_14 h0_15 h0_16 h0_17 h0_18 h0_19 h0_20 h0_21 h0_22 h0_25 h0_26 h0_29 h0_30 : Nat) (post : Int32 → TriS → Prop) (s0 : TriS) (v1 : Int32) (v2 : Int32) (v3 : Int32) (v4 : Int32) (h : P_L_refuses_7 s0 v1 v2 v3 v4 post) (h0_23 h0_24 h0_27 h0_28 : Nat) (H : Heap) (locs : List Loc) (hP : va_P (dC, dI) vwCl (lwO cI h0 h0_1 h0_2 h0_3 h0_4 h0_5 h0_6 h0_7 h0_8 h0_9 h0_10 h0_11 h0_12 h0_13 h0_14 h0_15 h0_16 h0_17 h0_18 h0_19 h0_20 h0_21 h0_22 h0_23 h0_24 h0_25 h0_26 h0_27 h0_28 h0_29 h0_30 s0) H) (hD : va_D A (lwO cI h0 h0_1 h0_2 h0_3 h0_4 h0_5 h0_6 h0_7 h0_8 h0_9 h0_10 h0_11 h0_12 h0_13 h0_14 h0_15 h0_16 h0_17 h0_18 h0_19 h0_20 h0_21 h0_22 h0_23 h0_24 h0_25 h0_26 h0_27 h0_28 h0_29 h0_30 s0)) (hS : va_S A s.heap H locs) (ls : Array Slot) (hl : lv_has ls 15 [(0, .ref h0), (1, .int v1), (2, .int v2), (3, .int v3), (4, .int v4), (5, .int (2147483647 : Int32)), (6, .int (1 : Int32)), (7, .int (-2147483648 : Int32)), (12, .int (4 : Int32))]) : W p l e rm_L_refuses s m (([.ref h0] : List Value).toArray) below meth c H locs 88 528 (MQ below (Q_L_refuses dC dI cI h0 h0_1 h0_2 h0_3 h0_4 h0_5 h0_6 h0_7 h0_8 h0_9 h0_10 h0_11 h0_12 h0_13 h0_14 h0_15 h0_16 h0_17 h0_18 h0_19 h0_20 h0_21 h0_22 h0_23 h0_24 h0_25 h0_26 h0_27 h0_28 h0_29 h0_30 A post) (([.ref h0] : List Value).toArray) s mc_L_refuses ms_L_refuses A) (F0 m 456 ls []) := by
  obtain ⟨hx, hb, hr, hml, hown, hts, hlocks⟩ := id C0
  refine lv_aload_n hx hb dL_refuses_456 rfl (lv_at hl 0 rfl) ?_
  refine lv_bipush (v := (9 : Int32)) hx hb dL_refuses_457 (by decide) ?_
  refine lv_iload hx hb dL_refuses_459 (lv_at hl 6 rfl) ?_
  refine lv_iconst (v := (1 : Int32)) hx hb dL_refuses_461 (by decide) ?_
  refine lv_icmp_ne (tgt := 469) hx hb dL_refuses_462 (by decide) (fun c_356 => absurd c_356 (by decide)) (fun c_356 => ?_)
  refine lv_iload_n hx hb dL_refuses_465 rfl (lv_at hl 3 rfl) ?_
  refine lv_goto (tgt := 471) hx hb dL_refuses_466 (by decide) ?_
  refine lv_iconst (v := (0 : Int32)) hx hb dL_refuses_471 (by decide) ?_
  refine lv_iconst (v := (0 : Int32)) hx hb dL_refuses_472 (by decide) ?_
  have hFc := frw hD hS hA
  refine vx_calli (SX := Unit) (px := fun _ => False) (BX := fun _ _ _ => True) (AX := A) (vx_runSX0 (vx_runSX (As := [.ref h0, .int (9 : Int32), .int v3, .int (0 : Int32), .int (0 : Int32)]) (rest := []) ⟨hx, hb, hml, hown, hts⟩ (c_L_act l hst dC dI cI h0 h0_1 h0_2 h0_3 h0_4 h0_5 h0_6 h0_7 h0_8 h0_9 h0_10 h0_11 h0_12 h0_13 h0_14 h0_15 h0_16 h0_17 h0_18 h0_19 h0_20 h0_21 h0_22 h0_23 h0_24 h0_25 h0_26 h0_27 h0_28 h0_29 h0_30 _ s0 (9 : Int32) v3 (0 : Int32) (0 : Int32) _ h) (vx_cwSW 5 hts (goodIn_up gB_L_act) rfl rfl rfl (by decide +kernel) ⟨Nat.le_of_ble_eq_true rfl, Nat.le_of_ble_eq_true rfl⟩) (pbl_S hP hK hD hN hX hC hFc hS) rfl rfl hl.1 rfl (lv_room (Nat.le_of_ble_eq_true rfl)) dL_refuses_473 ⟨Nat.le_of_ble_eq_true rfl, Nat.le_of_ble_eq_true rfl⟩)) hS (fun q _ h => hFc q h) hFc (fun q _ h => h) (fun E9 ce9 q9 u t H locs ht hvm h hB hz1 hk1 hS hce hcv hcl => h.elim) (fun r_358 u_357 t H locs ht hvm h hB hz1 hk1 hS => ?_)
  obtain ⟨m_359, m_360, m_361, m_362, hP1, hD1⟩ := hB
  rw [ht] at hP1
  have hP : va_P (dC, dI) vwCl (lwO cI h0 h0_1 h0_2 h0_3 h0_4 h0_5 h0_6 h0_7 h0_8 h0_9 h0_10 h0_11 h0_12 h0_13 h0_14 h0_15 h0_16 h0_17 h0_18 h0_19 h0_20 h0_21 h0_22 m_359 m_360 h0_25 h0_26 m_361 m_362 h0_29 h0_30 u_357) H := hP1
  have hD : va_D A (lwO cI h0 h0_1 h0_2 h0_3 h0_4 h0_5 h0_6 h0_7 h0_8 h0_9 h0_10 h0_11 h0_12 h0_13 h0_14 h0_15 h0_16 h0_17 h0_18 h0_19 h0_20 h0_21 h0_22 m_359 m_360 h0_25 h0_26 m_361 m_362 h0_29 h0_30 u_357) := hD1.weaken (fun _ _ _ h => hFc _ h)
  refine W.widen (k := 90) (n := 540) (Nat.le_of_ble_eq_true rfl) (Nat.le_of_ble_eq_true rfl) ?_
  refine lv_bipush (v := (-91 : Int32)) hx hb dL_refuses_476 (by decide) ?_
  obtain ⟨ht_, hf_⟩ := h
  refine lv_icmp_ne (tgt := 547) hx hb dL_refuses_478 (by decide) (fun c_363 => ?_) (fun c_363 => ?_)
  · have h := ht_ c_363
    exact (show False from h).elim
  · have h := hf_ c_363
    refine lv_aload_n hx hb dL_refuses_481 rfl (lv_at hl 0 rfl) ?_
    refine lv_bipush (v := (13 : Int32)) hx hb dL_refuses_482 (by decide) ?_
    refine lv_iload hx hb dL_refuses_484 (lv_at hl 6 rfl) ?_
    refine lv_iconst (v := (1 : Int32)) hx hb dL_refuses_486 (by decide) ?_
    refine lv_icmp_ne (tgt := 495) hx hb dL_refuses_487 (by decide) (fun c_364 => absurd c_364 (by decide)) (fun c_364 => ?_)
    refine lv_iload hx hb dL_refuses_490 (lv_at hl 4 rfl) ?_
    refine lv_goto (tgt := 497) hx hb dL_refuses_492 (by decide) ?_
    refine lv_iload hx hb dL_refuses_497 (lv_at hl 8 rfl) ?_
    refine lv_iconst (v := (0 : Int32)) hx hb dL_refuses_499 (by decide) ?_
    have hFc := frw hD hS hA
    refine vx_calli (SX := Unit) (px := fun _ => False) (BX := fun _ _ _ => True) (AX := A) (vx_runSX0 (vx_runSX (As := [.ref h0, .int (13 : Int32), .int v4, .int (4 : Int32), .int (0 : Int32)]) (rest := []) ⟨hx, hb, hml, hown, hts⟩ (c_L_act l hst dC dI cI h0 h0_1 h0_2 h0_3 h0_4 h0_5 h0_6 h0_7 h0_8 h0_9 h0_10 h0_11 h0_12 h0_13 h0_14 h0_15 h0_16 h0_17 h0_18 h0_19 h0_20 h0_21 h0_22 m_359 m_360 h0_25 h0_26 m_361 m_362 h0_29 h0_30 _ u_357 (13 : Int32) v4 (4 : Int32) (0 : Int32) _ h) (vx_cwSW 5 hts (goodIn_up gB_L_act) rfl rfl rfl (by decide +kernel) ⟨Nat.le_of_ble_eq_true rfl, Nat.le_of_ble_eq_true rfl⟩) (pbl_S hP hK hD hN hX hC hFc hS) rfl rfl hl.1 rfl (lv_room (Nat.le_of_ble_eq_true rfl)) dL_refuses_500 ⟨Nat.le_of_ble_eq_true rfl, Nat.le_of_ble_eq_true rfl⟩)) hS (fun q _ h => hFc q h) hFc (fun q _ h => h) (fun E9 ce9 q9 u t H locs ht hvm h hB hz1 hk1 hS hce hcv hcl => h.elim) (fun r_366 u_365 t H locs ht hvm h hB hz1 hk1 hS => ?_)
    obtain ⟨m_367, m_368, m_369, m_370, hP1, hD1⟩ := hB
    rw [ht] at hP1
    have hP : va_P (dC, dI) vwCl (lwO cI h0 h0_1 h0_2 h0_3 h0_4 h0_5 h0_6 h0_7 h0_8 h0_9 h0_10 h0_11 h0_12 h0_13 h0_14 h0_15 h0_16 h0_17 h0_18 h0_19 h0_20 h0_21 h0_22 m_367 m_368 h0_25 h0_26 m_369 m_370 h0_29 h0_30 u_365) H := hP1
    have hD : va_D A (lwO cI h0 h0_1 h0_2 h0_3 h0_4 h0_5 h0_6 h0_7 h0_8 h0_9 h0_10 h0_11 h0_12 h0_13 h0_14 h0_15 h0_16 h0_17 h0_18 h0_19 h0_20 h0_21 h0_22 m_367 m_368 h0_25 h0_26 m_369 m_370 h0_29 h0_30 u_365) := hD1.weaken (fun _ _ _ h => hFc _ h)
    refine W.widen (k := 92) (n := 552) (Nat.le_of_ble_eq_true rfl) (Nat.le_of_ble_eq_true rfl) ?_
    refine lv_bipush (v := (-91 : Int32)) hx hb dL_refuses_503 (by decide) ?_
    obtain ⟨ht_, hf_⟩ := h
    refine lv_icmp_ne (tgt := 547) hx hb dL_refuses_505 (by decide) (fun c_371 => ?_) (fun c_371 => ?_)
    · have h := ht_ c_371
      exact (show False from h).elim
    · have h := hf_ c_371
      refine lv_iload hx hb dL_refuses_508 (lv_at hl 4 rfl) ?_
      obtain ⟨ht_, hf_⟩ := h
      refine lv_if_eq (tgt := 528) hx hb dL_refuses_510 (by decide) (fun c_372 => ?_) (fun c_372 => ?_)
      · have h := ht_ c_372
        have hl : lv_has ls 15 [(0, .ref h0), (1, .int v1), (2, .int v2), (3, .int v3), (4, .int v4), (5, .int (2147483647 : Int32)), (6, .int (1 : Int32)), (12, .int (4 : Int32))] := lv_sub hl [0, 1, 2, 3, 4, 5, 6, 8] rfl
        refine W.widen (k := 94) (n := 564) (Nat.le_of_ble_eq_true rfl) (Nat.le_of_ble_eq_true rfl) ?_
        exact sg_L_refuses_8 l hst C0 hK hN hX hC hA h0_1 h0_2 h0_3 h0_4 h0_5 h0_6 h0_7 h0_8 h0_9 h0_10 h0_11 h0_12 h0_13 h0_14 h0_15 h0_16 h0_17 h0_18 h0_19 h0_20 h0_21 h0_22 h0_25 h0_26 h0_29 h0_30 _ u_365 v1 v2 v3 v4 h m_367 m_368 m_369 m_370 _ _ hP hD hS _ hl
      · have h := hf_ c_372
        refine lv_aload_n hx hb dL_refuses_513 rfl (lv_at hl 0 rfl) ?_
        refine lv_bipush (v := (13 : Int32)) hx hb dL_refuses_514 (by decide) ?_
        refine lv_iconst (v := (0 : Int32)) hx hb dL_refuses_516 (by decide) ?_
        refine lv_iload hx hb dL_refuses_517 (lv_at hl 8 rfl) ?_
        refine lv_iconst (v := (0 : Int32)) hx hb dL_refuses_519 (by decide) ?_
        have hFc := frw hD hS hA
        refine vx_calli (SX := Unit) (px := fun _ => False) (BX := fun _ _ _ => True) (AX := A) (vx_runSX0 (vx_runSX (As := [.ref h0, .int (13 : Int32), .int (0 : Int32), .int (4 : Int32), .int (0 : Int32)]) (rest := []) ⟨hx, hb, hml, hown, hts⟩ (c_L_act l hst dC dI cI h0 h0_1 h0_2 h0_3 h0_4 h0_5 h0_6 h0_7 h0_8 h0_9 h0_10 h0_11 h0_12 h0_13 h0_14 h0_15 h0_16 h0_17 h0_18 h0_19 h0_20 h0_21 h0_22 m_367 m_368 h0_25 h0_26 m_369 m_370 h0_29 h0_30 _ u_365 (13 : Int32) (0 : Int32) (4 : Int32) (0 : Int32) _ h) (vx_cwSW 5 hts (goodIn_up gB_L_act) rfl rfl rfl (by decide +kernel) ⟨Nat.le_of_ble_eq_true rfl, Nat.le_of_ble_eq_true rfl⟩) (pbl_S hP hK hD hN hX hC hFc hS) rfl rfl hl.1 rfl (lv_room (Nat.le_of_ble_eq_true rfl)) dL_refuses_520 ⟨Nat.le_of_ble_eq_true rfl, Nat.le_of_ble_eq_true rfl⟩)) hS (fun q _ h => hFc q h) hFc (fun q _ h => h) (fun E9 ce9 q9 u t H locs ht hvm h hB hz1 hk1 hS hce hcv hcl => h.elim) (fun r_374 u_373 t H locs ht hvm h hB hz1 hk1 hS => ?_)
        obtain ⟨m_375, m_376, m_377, m_378, hP1, hD1⟩ := hB
        rw [ht] at hP1
        have hP : va_P (dC, dI) vwCl (lwO cI h0 h0_1 h0_2 h0_3 h0_4 h0_5 h0_6 h0_7 h0_8 h0_9 h0_10 h0_11 h0_12 h0_13 h0_14 h0_15 h0_16 h0_17 h0_18 h0_19 h0_20 h0_21 h0_22 m_375 m_376 h0_25 h0_26 m_377 m_378 h0_29 h0_30 u_373) H := hP1
        have hD : va_D A (lwO cI h0 h0_1 h0_2 h0_3 h0_4 h0_5 h0_6 h0_7 h0_8 h0_9 h0_10 h0_11 h0_12 h0_13 h0_14 h0_15 h0_16 h0_17 h0_18 h0_19 h0_20 h0_21 h0_22 m_375 m_376 h0_25 h0_26 m_377 m_378 h0_29 h0_30 u_373) := hD1.weaken (fun _ _ _ h => hFc _ h)
        refine W.widen (k := 94) (n := 564) (Nat.le_of_ble_eq_true rfl) (Nat.le_of_ble_eq_true rfl) ?_
        refine lv_bipush (v := (-92 : Int32)) hx hb dL_refuses_523 (by decide) ?_
        obtain ⟨ht_, hf_⟩ := h
        refine lv_icmp_ne (tgt := 547) hx hb dL_refuses_525 (by decide) (fun c_379 => ?_) (fun c_379 => ?_)
        · have h := ht_ c_379
          exact (show False from h).elim
        · have h := hf_ c_379
          have hl : lv_has ls 15 [(0, .ref h0), (1, .int v1), (2, .int v2), (3, .int v3), (4, .int v4), (5, .int (2147483647 : Int32)), (6, .int (1 : Int32)), (12, .int (4 : Int32))] := lv_sub hl [0, 1, 2, 3, 4, 5, 6, 8] rfl
          refine W.widen (k := 94) (n := 564) (Nat.le_of_ble_eq_true rfl) (Nat.le_of_ble_eq_true rfl) ?_
          exact sg_L_refuses_8 l hst C0 hK hN hX hC hA h0_1 h0_2 h0_3 h0_4 h0_5 h0_6 h0_7 h0_8 h0_9 h0_10 h0_11 h0_12 h0_13 h0_14 h0_15 h0_16 h0_17 h0_18 h0_19 h0_20 h0_21 h0_22 h0_25 h0_26 h0_29 h0_30 _ u_373 v1 v2 v3 v4 h m_375 m_376 m_377 m_378 _ _ hP hD hS _ hl
set_option maxHeartbeats 4000000 in
set_option maxRecDepth 100000 in
theorem sg_L_refuses_6 (l : Launch) (hst : l.stackTraces = false) {p : Program} {e : Env} {s : State} {m : MethodId} {below : List Frame} {meth : Method} {c : Code} {h0 : Nat} (C0 : LC p s m (([.ref h0] : List Value).toArray) meth c cL_refuses 15 wq_refuses) {dC : Nat → ClassId} {dI : Nat → Nat → Nat} {cI : ClassId} (hK : va_K (dC, dI) vwCl [(cI, .int)] s) (hN : nk s) {A : Nat → Prop} (hX : xj A s) (hC : xnc s) (hA : ∀ q : Nat, s.heap.size ≤ q → A q) (h0_1 h0_2 h0_3 h0_4 h0_5 h0_6 h0_7 h0_8 h0_9 h0_10 h0_11 h0_12 h0_13 h0_14 h0_15 h0_16 h0_17 h0_18 h0_19 h0_20 h0_21 h0_22 h0_25 h0_26 h0_29 h0_30 : Nat) (post : Int32 → TriS → Prop) (s0 : TriS) (v1 : Int32) (v2 : Int32) (v3 : Int32) (v4 : Int32) (h : P_L_refuses_6 s0 v1 v2 v3 v4 post) (h0_23 h0_24 h0_27 h0_28 : Nat) (H : Heap) (locs : List Loc) (hP : va_P (dC, dI) vwCl (lwO cI h0 h0_1 h0_2 h0_3 h0_4 h0_5 h0_6 h0_7 h0_8 h0_9 h0_10 h0_11 h0_12 h0_13 h0_14 h0_15 h0_16 h0_17 h0_18 h0_19 h0_20 h0_21 h0_22 h0_23 h0_24 h0_25 h0_26 h0_27 h0_28 h0_29 h0_30 s0) H) (hD : va_D A (lwO cI h0 h0_1 h0_2 h0_3 h0_4 h0_5 h0_6 h0_7 h0_8 h0_9 h0_10 h0_11 h0_12 h0_13 h0_14 h0_15 h0_16 h0_17 h0_18 h0_19 h0_20 h0_21 h0_22 h0_23 h0_24 h0_25 h0_26 h0_27 h0_28 h0_29 h0_30 s0)) (hS : va_S A s.heap H locs) (ls : Array Slot) (hl : lv_has ls 15 [(0, .ref h0), (1, .int v1), (2, .int v2), (3, .int v3), (4, .int v4), (5, .int (2147483647 : Int32)), (6, .int (1 : Int32)), (7, .int (-2147483648 : Int32)), (8, .int (100 : Int32)), (9, .int (100 : Int32)), (10, .int (100 : Int32)), (11, .int (3 : Int32)), (12, .int (4 : Int32))]) : W p l e rm_L_refuses s m (([.ref h0] : List Value).toArray) below meth c H locs 74 444 (MQ below (Q_L_refuses dC dI cI h0 h0_1 h0_2 h0_3 h0_4 h0_5 h0_6 h0_7 h0_8 h0_9 h0_10 h0_11 h0_12 h0_13 h0_14 h0_15 h0_16 h0_17 h0_18 h0_19 h0_20 h0_21 h0_22 h0_23 h0_24 h0_25 h0_26 h0_27 h0_28 h0_29 h0_30 A post) (([.ref h0] : List Value).toArray) s mc_L_refuses ms_L_refuses A) (F0 m 330 ls []) := by
  obtain ⟨hx, hb, hr, hml, hown, hts, hlocks⟩ := id C0
  refine lv_aload_n hx hb dL_refuses_330 rfl (lv_at hl 0 rfl) ?_
  refine lv_iconst (v := (5 : Int32)) hx hb dL_refuses_331 (by decide) ?_
  refine lv_iconst (v := (0 : Int32)) hx hb dL_refuses_332 (by decide) ?_
  refine lv_iconst (v := (0 : Int32)) hx hb dL_refuses_333 (by decide) ?_
  refine lv_iload hx hb dL_refuses_334 (lv_at hl 9 rfl) ?_
  have hFc := frw hD hS hA
  refine vx_calli (SX := Unit) (px := fun _ => False) (BX := fun _ _ _ => True) (AX := A) (vx_runSX0 (vx_runSX (As := [.ref h0, .int (5 : Int32), .int (0 : Int32), .int (0 : Int32), .int (100 : Int32)]) (rest := []) ⟨hx, hb, hml, hown, hts⟩ (c_L_act l hst dC dI cI h0 h0_1 h0_2 h0_3 h0_4 h0_5 h0_6 h0_7 h0_8 h0_9 h0_10 h0_11 h0_12 h0_13 h0_14 h0_15 h0_16 h0_17 h0_18 h0_19 h0_20 h0_21 h0_22 h0_23 h0_24 h0_25 h0_26 h0_27 h0_28 h0_29 h0_30 _ s0 (5 : Int32) (0 : Int32) (0 : Int32) (100 : Int32) _ h) (vx_cwSW 5 hts (goodIn_up gB_L_act) rfl rfl rfl (by decide +kernel) ⟨Nat.le_of_ble_eq_true rfl, Nat.le_of_ble_eq_true rfl⟩) (pbl_S hP hK hD hN hX hC hFc hS) rfl rfl hl.1 rfl (lv_room (Nat.le_of_ble_eq_true rfl)) dL_refuses_336 ⟨Nat.le_of_ble_eq_true rfl, Nat.le_of_ble_eq_true rfl⟩)) hS (fun q _ h => hFc q h) hFc (fun q _ h => h) (fun E9 ce9 q9 u t H locs ht hvm h hB hz1 hk1 hS hce hcv hcl => h.elim) (fun r_306 u_305 t H locs ht hvm h hB hz1 hk1 hS => ?_)
  obtain ⟨m_307, m_308, m_309, m_310, hP1, hD1⟩ := hB
  rw [ht] at hP1
  have hP : va_P (dC, dI) vwCl (lwO cI h0 h0_1 h0_2 h0_3 h0_4 h0_5 h0_6 h0_7 h0_8 h0_9 h0_10 h0_11 h0_12 h0_13 h0_14 h0_15 h0_16 h0_17 h0_18 h0_19 h0_20 h0_21 h0_22 m_307 m_308 h0_25 h0_26 m_309 m_310 h0_29 h0_30 u_305) H := hP1
  have hD : va_D A (lwO cI h0 h0_1 h0_2 h0_3 h0_4 h0_5 h0_6 h0_7 h0_8 h0_9 h0_10 h0_11 h0_12 h0_13 h0_14 h0_15 h0_16 h0_17 h0_18 h0_19 h0_20 h0_21 h0_22 m_307 m_308 h0_25 h0_26 m_309 m_310 h0_29 h0_30 u_305) := hD1.weaken (fun _ _ _ h => hFc _ h)
  refine W.widen (k := 76) (n := 456) (Nat.le_of_ble_eq_true rfl) (Nat.le_of_ble_eq_true rfl) ?_
  refine lv_bipush (v := (-92 : Int32)) hx hb dL_refuses_339 (by decide) ?_
  obtain ⟨ht_, hf_⟩ := h
  refine lv_icmp_ne (tgt := 378) hx hb dL_refuses_341 (by decide) (fun c_311 => ?_) (fun c_311 => ?_)
  · have h := ht_ c_311
    exact (show False from h).elim
  · have h := hf_ c_311
    refine lv_aload_n hx hb dL_refuses_344 rfl (lv_at hl 0 rfl) ?_
    refine lv_bipush (v := (6 : Int32)) hx hb dL_refuses_345 (by decide) ?_
    refine lv_iload hx hb dL_refuses_347 (lv_at hl 11 rfl) ?_
    refine lv_iconst (v := (0 : Int32)) hx hb dL_refuses_349 (by decide) ?_
    refine lv_iconst (v := (0 : Int32)) hx hb dL_refuses_350 (by decide) ?_
    have hFc := frw hD hS hA
    refine vx_calli (SX := Unit) (px := fun _ => False) (BX := fun _ _ _ => True) (AX := A) (vx_runSX0 (vx_runSX (As := [.ref h0, .int (6 : Int32), .int (3 : Int32), .int (0 : Int32), .int (0 : Int32)]) (rest := []) ⟨hx, hb, hml, hown, hts⟩ (c_L_act l hst dC dI cI h0 h0_1 h0_2 h0_3 h0_4 h0_5 h0_6 h0_7 h0_8 h0_9 h0_10 h0_11 h0_12 h0_13 h0_14 h0_15 h0_16 h0_17 h0_18 h0_19 h0_20 h0_21 h0_22 m_307 m_308 h0_25 h0_26 m_309 m_310 h0_29 h0_30 _ u_305 (6 : Int32) (3 : Int32) (0 : Int32) (0 : Int32) _ h) (vx_cwSW 5 hts (goodIn_up gB_L_act) rfl rfl rfl (by decide +kernel) ⟨Nat.le_of_ble_eq_true rfl, Nat.le_of_ble_eq_true rfl⟩) (pbl_S hP hK hD hN hX hC hFc hS) rfl rfl hl.1 rfl (lv_room (Nat.le_of_ble_eq_true rfl)) dL_refuses_351 ⟨Nat.le_of_ble_eq_true rfl, Nat.le_of_ble_eq_true rfl⟩)) hS (fun q _ h => hFc q h) hFc (fun q _ h => h) (fun E9 ce9 q9 u t H locs ht hvm h hB hz1 hk1 hS hce hcv hcl => h.elim) (fun r_313 u_312 t H locs ht hvm h hB hz1 hk1 hS => ?_)
    obtain ⟨m_314, m_315, m_316, m_317, hP1, hD1⟩ := hB
    rw [ht] at hP1
    have hP : va_P (dC, dI) vwCl (lwO cI h0 h0_1 h0_2 h0_3 h0_4 h0_5 h0_6 h0_7 h0_8 h0_9 h0_10 h0_11 h0_12 h0_13 h0_14 h0_15 h0_16 h0_17 h0_18 h0_19 h0_20 h0_21 h0_22 m_314 m_315 h0_25 h0_26 m_316 m_317 h0_29 h0_30 u_312) H := hP1
    have hD : va_D A (lwO cI h0 h0_1 h0_2 h0_3 h0_4 h0_5 h0_6 h0_7 h0_8 h0_9 h0_10 h0_11 h0_12 h0_13 h0_14 h0_15 h0_16 h0_17 h0_18 h0_19 h0_20 h0_21 h0_22 m_314 m_315 h0_25 h0_26 m_316 m_317 h0_29 h0_30 u_312) := hD1.weaken (fun _ _ _ h => hFc _ h)
    refine W.widen (k := 78) (n := 468) (Nat.le_of_ble_eq_true rfl) (Nat.le_of_ble_eq_true rfl) ?_
    refine lv_bipush (v := (-92 : Int32)) hx hb dL_refuses_354 (by decide) ?_
    obtain ⟨ht_, hf_⟩ := h
    refine lv_icmp_ne (tgt := 378) hx hb dL_refuses_356 (by decide) (fun c_318 => ?_) (fun c_318 => ?_)
    · have h := ht_ c_318
      exact (show False from h).elim
    · have h := hf_ c_318
      refine lv_aload_n hx hb dL_refuses_359 rfl (lv_at hl 0 rfl) ?_
      refine lv_bipush (v := (6 : Int32)) hx hb dL_refuses_360 (by decide) ?_
      refine lv_iconst (v := (0 : Int32)) hx hb dL_refuses_362 (by decide) ?_
      refine lv_iload hx hb dL_refuses_363 (lv_at hl 8 rfl) ?_
      refine lv_iconst (v := (0 : Int32)) hx hb dL_refuses_365 (by decide) ?_
      have hFc := frw hD hS hA
      refine vx_calli (SX := Unit) (px := fun _ => False) (BX := fun _ _ _ => True) (AX := A) (vx_runSX0 (vx_runSX (As := [.ref h0, .int (6 : Int32), .int (0 : Int32), .int (100 : Int32), .int (0 : Int32)]) (rest := []) ⟨hx, hb, hml, hown, hts⟩ (c_L_act l hst dC dI cI h0 h0_1 h0_2 h0_3 h0_4 h0_5 h0_6 h0_7 h0_8 h0_9 h0_10 h0_11 h0_12 h0_13 h0_14 h0_15 h0_16 h0_17 h0_18 h0_19 h0_20 h0_21 h0_22 m_314 m_315 h0_25 h0_26 m_316 m_317 h0_29 h0_30 _ u_312 (6 : Int32) (0 : Int32) (100 : Int32) (0 : Int32) _ h) (vx_cwSW 5 hts (goodIn_up gB_L_act) rfl rfl rfl (by decide +kernel) ⟨Nat.le_of_ble_eq_true rfl, Nat.le_of_ble_eq_true rfl⟩) (pbl_S hP hK hD hN hX hC hFc hS) rfl rfl hl.1 rfl (lv_room (Nat.le_of_ble_eq_true rfl)) dL_refuses_366 ⟨Nat.le_of_ble_eq_true rfl, Nat.le_of_ble_eq_true rfl⟩)) hS (fun q _ h => hFc q h) hFc (fun q _ h => h) (fun E9 ce9 q9 u t H locs ht hvm h hB hz1 hk1 hS hce hcv hcl => h.elim) (fun r_320 u_319 t H locs ht hvm h hB hz1 hk1 hS => ?_)
      obtain ⟨m_321, m_322, m_323, m_324, hP1, hD1⟩ := hB
      rw [ht] at hP1
      have hP : va_P (dC, dI) vwCl (lwO cI h0 h0_1 h0_2 h0_3 h0_4 h0_5 h0_6 h0_7 h0_8 h0_9 h0_10 h0_11 h0_12 h0_13 h0_14 h0_15 h0_16 h0_17 h0_18 h0_19 h0_20 h0_21 h0_22 m_321 m_322 h0_25 h0_26 m_323 m_324 h0_29 h0_30 u_319) H := hP1
      have hD : va_D A (lwO cI h0 h0_1 h0_2 h0_3 h0_4 h0_5 h0_6 h0_7 h0_8 h0_9 h0_10 h0_11 h0_12 h0_13 h0_14 h0_15 h0_16 h0_17 h0_18 h0_19 h0_20 h0_21 h0_22 m_321 m_322 h0_25 h0_26 m_323 m_324 h0_29 h0_30 u_319) := hD1.weaken (fun _ _ _ h => hFc _ h)
      refine W.widen (k := 80) (n := 480) (Nat.le_of_ble_eq_true rfl) (Nat.le_of_ble_eq_true rfl) ?_
      refine lv_bipush (v := (-92 : Int32)) hx hb dL_refuses_369 (by decide) ?_
      obtain ⟨ht_, hf_⟩ := h
      refine lv_icmp_ne (tgt := 378) hx hb dL_refuses_371 (by decide) (fun c_325 => ?_) (fun c_325 => ?_)
      · have h := ht_ c_325
        exact (show False from h).elim
      · have h := hf_ c_325
        refine lv_iconst (v := (1 : Int32)) hx hb dL_refuses_374 (by decide) ?_
        refine lv_goto (tgt := 379) hx hb dL_refuses_375 (by decide) ?_
        refine lv_istore (lv' := [(13, .int (1 : Int32)), (0, .ref h0), (1, .int v1), (2, .int v2), (3, .int v3), (4, .int v4), (5, .int (2147483647 : Int32)), (6, .int (1 : Int32)), (7, .int (-2147483648 : Int32)), (8, .int (100 : Int32)), (9, .int (100 : Int32)), (10, .int (100 : Int32)), (11, .int (3 : Int32)), (12, .int (4 : Int32))]) hx hb dL_refuses_379 hl (by decide) rfl (fun ls hl => ?_)
        refine lv_iload hx hb dL_refuses_381 (lv_at hl 0 rfl) ?_
        refine lv_if_eq (tgt := 547) hx hb dL_refuses_383 (by decide) (fun c_326 => absurd c_326 (by decide)) (fun c_326 => ?_)
        refine lv_aload_n hx hb dL_refuses_386 rfl (lv_at hl 1 rfl) ?_
        refine lv_bipush (v := (7 : Int32)) hx hb dL_refuses_387 (by decide) ?_
        refine lv_iload hx hb dL_refuses_389 (lv_at hl 11 rfl) ?_
        refine lv_iconst (v := (0 : Int32)) hx hb dL_refuses_391 (by decide) ?_
        refine lv_iconst (v := (0 : Int32)) hx hb dL_refuses_392 (by decide) ?_
        have hFc := frw hD hS hA
        refine vx_calli (SX := Unit) (px := fun _ => False) (BX := fun _ _ _ => True) (AX := A) (vx_runSX0 (vx_runSX (As := [.ref h0, .int (7 : Int32), .int (100 : Int32), .int (0 : Int32), .int (0 : Int32)]) (rest := []) ⟨hx, hb, hml, hown, hts⟩ (c_L_act l hst dC dI cI h0 h0_1 h0_2 h0_3 h0_4 h0_5 h0_6 h0_7 h0_8 h0_9 h0_10 h0_11 h0_12 h0_13 h0_14 h0_15 h0_16 h0_17 h0_18 h0_19 h0_20 h0_21 h0_22 m_321 m_322 h0_25 h0_26 m_323 m_324 h0_29 h0_30 _ u_319 (7 : Int32) (100 : Int32) (0 : Int32) (0 : Int32) _ h) (vx_cwSW 5 hts (goodIn_up gB_L_act) rfl rfl rfl (by decide +kernel) ⟨Nat.le_of_ble_eq_true rfl, Nat.le_of_ble_eq_true rfl⟩) (pbl_S hP hK hD hN hX hC hFc hS) rfl rfl hl.1 rfl (lv_room (Nat.le_of_ble_eq_true rfl)) dL_refuses_393 ⟨Nat.le_of_ble_eq_true rfl, Nat.le_of_ble_eq_true rfl⟩)) hS (fun q _ h => hFc q h) hFc (fun q _ h => h) (fun E9 ce9 q9 u t H locs ht hvm h hB hz1 hk1 hS hce hcv hcl => h.elim) (fun r_328 u_327 t H locs ht hvm h hB hz1 hk1 hS => ?_)
        obtain ⟨m_329, m_330, m_331, m_332, hP1, hD1⟩ := hB
        rw [ht] at hP1
        have hP : va_P (dC, dI) vwCl (lwO cI h0 h0_1 h0_2 h0_3 h0_4 h0_5 h0_6 h0_7 h0_8 h0_9 h0_10 h0_11 h0_12 h0_13 h0_14 h0_15 h0_16 h0_17 h0_18 h0_19 h0_20 h0_21 h0_22 m_329 m_330 h0_25 h0_26 m_331 m_332 h0_29 h0_30 u_327) H := hP1
        have hD : va_D A (lwO cI h0 h0_1 h0_2 h0_3 h0_4 h0_5 h0_6 h0_7 h0_8 h0_9 h0_10 h0_11 h0_12 h0_13 h0_14 h0_15 h0_16 h0_17 h0_18 h0_19 h0_20 h0_21 h0_22 m_329 m_330 h0_25 h0_26 m_331 m_332 h0_29 h0_30 u_327) := hD1.weaken (fun _ _ _ h => hFc _ h)
        refine W.widen (k := 82) (n := 492) (Nat.le_of_ble_eq_true rfl) (Nat.le_of_ble_eq_true rfl) ?_
        refine lv_bipush (v := (-92 : Int32)) hx hb dL_refuses_396 (by decide) ?_
        obtain ⟨ht_, hf_⟩ := h
        refine lv_icmp_ne (tgt := 547) hx hb dL_refuses_398 (by decide) (fun c_333 => ?_) (fun c_333 => ?_)
        · have h := ht_ c_333
          exact (show False from h).elim
        · have h := hf_ c_333
          refine lv_aload_n hx hb dL_refuses_401 rfl (lv_at hl 1 rfl) ?_
          refine lv_bipush (v := (7 : Int32)) hx hb dL_refuses_402 (by decide) ?_
          refine lv_iconst (v := (0 : Int32)) hx hb dL_refuses_404 (by decide) ?_
          refine lv_iload hx hb dL_refuses_405 (lv_at hl 11 rfl) ?_
          refine lv_iconst (v := (0 : Int32)) hx hb dL_refuses_407 (by decide) ?_
          have hFc := frw hD hS hA
          refine vx_calli (SX := Unit) (px := fun _ => False) (BX := fun _ _ _ => True) (AX := A) (vx_runSX0 (vx_runSX (As := [.ref h0, .int (7 : Int32), .int (0 : Int32), .int (100 : Int32), .int (0 : Int32)]) (rest := []) ⟨hx, hb, hml, hown, hts⟩ (c_L_act l hst dC dI cI h0 h0_1 h0_2 h0_3 h0_4 h0_5 h0_6 h0_7 h0_8 h0_9 h0_10 h0_11 h0_12 h0_13 h0_14 h0_15 h0_16 h0_17 h0_18 h0_19 h0_20 h0_21 h0_22 m_329 m_330 h0_25 h0_26 m_331 m_332 h0_29 h0_30 _ u_327 (7 : Int32) (0 : Int32) (100 : Int32) (0 : Int32) _ h) (vx_cwSW 5 hts (goodIn_up gB_L_act) rfl rfl rfl (by decide +kernel) ⟨Nat.le_of_ble_eq_true rfl, Nat.le_of_ble_eq_true rfl⟩) (pbl_S hP hK hD hN hX hC hFc hS) rfl rfl hl.1 rfl (lv_room (Nat.le_of_ble_eq_true rfl)) dL_refuses_408 ⟨Nat.le_of_ble_eq_true rfl, Nat.le_of_ble_eq_true rfl⟩)) hS (fun q _ h => hFc q h) hFc (fun q _ h => h) (fun E9 ce9 q9 u t H locs ht hvm h hB hz1 hk1 hS hce hcv hcl => h.elim) (fun r_335 u_334 t H locs ht hvm h hB hz1 hk1 hS => ?_)
          obtain ⟨m_336, m_337, m_338, m_339, hP1, hD1⟩ := hB
          rw [ht] at hP1
          have hP : va_P (dC, dI) vwCl (lwO cI h0 h0_1 h0_2 h0_3 h0_4 h0_5 h0_6 h0_7 h0_8 h0_9 h0_10 h0_11 h0_12 h0_13 h0_14 h0_15 h0_16 h0_17 h0_18 h0_19 h0_20 h0_21 h0_22 m_336 m_337 h0_25 h0_26 m_338 m_339 h0_29 h0_30 u_334) H := hP1
          have hD : va_D A (lwO cI h0 h0_1 h0_2 h0_3 h0_4 h0_5 h0_6 h0_7 h0_8 h0_9 h0_10 h0_11 h0_12 h0_13 h0_14 h0_15 h0_16 h0_17 h0_18 h0_19 h0_20 h0_21 h0_22 m_336 m_337 h0_25 h0_26 m_338 m_339 h0_29 h0_30 u_334) := hD1.weaken (fun _ _ _ h => hFc _ h)
          refine W.widen (k := 84) (n := 504) (Nat.le_of_ble_eq_true rfl) (Nat.le_of_ble_eq_true rfl) ?_
          refine lv_bipush (v := (-92 : Int32)) hx hb dL_refuses_411 (by decide) ?_
          obtain ⟨ht_, hf_⟩ := h
          refine lv_icmp_ne (tgt := 547) hx hb dL_refuses_413 (by decide) (fun c_340 => ?_) (fun c_340 => ?_)
          · have h := ht_ c_340
            exact (show False from h).elim
          · have h := hf_ c_340
            refine lv_aload_n hx hb dL_refuses_416 rfl (lv_at hl 1 rfl) ?_
            refine lv_bipush (v := (7 : Int32)) hx hb dL_refuses_417 (by decide) ?_
            refine lv_iconst (v := (0 : Int32)) hx hb dL_refuses_419 (by decide) ?_
            refine lv_iconst (v := (0 : Int32)) hx hb dL_refuses_420 (by decide) ?_
            refine lv_iload hx hb dL_refuses_421 (lv_at hl 11 rfl) ?_
            have hFc := frw hD hS hA
            refine vx_calli (SX := Unit) (px := fun _ => False) (BX := fun _ _ _ => True) (AX := A) (vx_runSX0 (vx_runSX (As := [.ref h0, .int (7 : Int32), .int (0 : Int32), .int (0 : Int32), .int (100 : Int32)]) (rest := []) ⟨hx, hb, hml, hown, hts⟩ (c_L_act l hst dC dI cI h0 h0_1 h0_2 h0_3 h0_4 h0_5 h0_6 h0_7 h0_8 h0_9 h0_10 h0_11 h0_12 h0_13 h0_14 h0_15 h0_16 h0_17 h0_18 h0_19 h0_20 h0_21 h0_22 m_336 m_337 h0_25 h0_26 m_338 m_339 h0_29 h0_30 _ u_334 (7 : Int32) (0 : Int32) (0 : Int32) (100 : Int32) _ h) (vx_cwSW 5 hts (goodIn_up gB_L_act) rfl rfl rfl (by decide +kernel) ⟨Nat.le_of_ble_eq_true rfl, Nat.le_of_ble_eq_true rfl⟩) (pbl_S hP hK hD hN hX hC hFc hS) rfl rfl hl.1 rfl (lv_room (Nat.le_of_ble_eq_true rfl)) dL_refuses_423 ⟨Nat.le_of_ble_eq_true rfl, Nat.le_of_ble_eq_true rfl⟩)) hS (fun q _ h => hFc q h) hFc (fun q _ h => h) (fun E9 ce9 q9 u t H locs ht hvm h hB hz1 hk1 hS hce hcv hcl => h.elim) (fun r_342 u_341 t H locs ht hvm h hB hz1 hk1 hS => ?_)
            obtain ⟨m_343, m_344, m_345, m_346, hP1, hD1⟩ := hB
            rw [ht] at hP1
            have hP : va_P (dC, dI) vwCl (lwO cI h0 h0_1 h0_2 h0_3 h0_4 h0_5 h0_6 h0_7 h0_8 h0_9 h0_10 h0_11 h0_12 h0_13 h0_14 h0_15 h0_16 h0_17 h0_18 h0_19 h0_20 h0_21 h0_22 m_343 m_344 h0_25 h0_26 m_345 m_346 h0_29 h0_30 u_341) H := hP1
            have hD : va_D A (lwO cI h0 h0_1 h0_2 h0_3 h0_4 h0_5 h0_6 h0_7 h0_8 h0_9 h0_10 h0_11 h0_12 h0_13 h0_14 h0_15 h0_16 h0_17 h0_18 h0_19 h0_20 h0_21 h0_22 m_343 m_344 h0_25 h0_26 m_345 m_346 h0_29 h0_30 u_341) := hD1.weaken (fun _ _ _ h => hFc _ h)
            refine W.widen (k := 86) (n := 516) (Nat.le_of_ble_eq_true rfl) (Nat.le_of_ble_eq_true rfl) ?_
            refine lv_bipush (v := (-92 : Int32)) hx hb dL_refuses_426 (by decide) ?_
            obtain ⟨ht_, hf_⟩ := h
            refine lv_icmp_ne (tgt := 547) hx hb dL_refuses_428 (by decide) (fun c_347 => ?_) (fun c_347 => ?_)
            · have h := ht_ c_347
              exact (show False from h).elim
            · have h := hf_ c_347
              refine lv_aload_n hx hb dL_refuses_431 rfl (lv_at hl 1 rfl) ?_
              refine lv_bipush (v := (8 : Int32)) hx hb dL_refuses_432 (by decide) ?_
              refine lv_iload hx hb dL_refuses_434 (lv_at hl 7 rfl) ?_
              refine lv_iconst (v := (1 : Int32)) hx hb dL_refuses_436 (by decide) ?_
              refine lv_icmp_ne (tgt := 444) hx hb dL_refuses_437 (by decide) (fun c_348 => absurd c_348 (by decide)) (fun c_348 => ?_)
              refine lv_iload_n hx hb dL_refuses_440 rfl (lv_at hl 4 rfl) ?_
              refine lv_goto (tgt := 446) hx hb dL_refuses_441 (by decide) ?_
              refine lv_iconst (v := (0 : Int32)) hx hb dL_refuses_446 (by decide) ?_
              refine lv_iconst (v := (0 : Int32)) hx hb dL_refuses_447 (by decide) ?_
              have hFc := frw hD hS hA
              refine vx_calli (SX := Unit) (px := fun _ => False) (BX := fun _ _ _ => True) (AX := A) (vx_runSX0 (vx_runSX (As := [.ref h0, .int (8 : Int32), .int v3, .int (0 : Int32), .int (0 : Int32)]) (rest := []) ⟨hx, hb, hml, hown, hts⟩ (c_L_act l hst dC dI cI h0 h0_1 h0_2 h0_3 h0_4 h0_5 h0_6 h0_7 h0_8 h0_9 h0_10 h0_11 h0_12 h0_13 h0_14 h0_15 h0_16 h0_17 h0_18 h0_19 h0_20 h0_21 h0_22 m_343 m_344 h0_25 h0_26 m_345 m_346 h0_29 h0_30 _ u_341 (8 : Int32) v3 (0 : Int32) (0 : Int32) _ h) (vx_cwSW 5 hts (goodIn_up gB_L_act) rfl rfl rfl (by decide +kernel) ⟨Nat.le_of_ble_eq_true rfl, Nat.le_of_ble_eq_true rfl⟩) (pbl_S hP hK hD hN hX hC hFc hS) rfl rfl hl.1 rfl (lv_room (Nat.le_of_ble_eq_true rfl)) dL_refuses_448 ⟨Nat.le_of_ble_eq_true rfl, Nat.le_of_ble_eq_true rfl⟩)) hS (fun q _ h => hFc q h) hFc (fun q _ h => h) (fun E9 ce9 q9 u t H locs ht hvm h hB hz1 hk1 hS hce hcv hcl => h.elim) (fun r_350 u_349 t H locs ht hvm h hB hz1 hk1 hS => ?_)
              obtain ⟨m_351, m_352, m_353, m_354, hP1, hD1⟩ := hB
              rw [ht] at hP1
              have hP : va_P (dC, dI) vwCl (lwO cI h0 h0_1 h0_2 h0_3 h0_4 h0_5 h0_6 h0_7 h0_8 h0_9 h0_10 h0_11 h0_12 h0_13 h0_14 h0_15 h0_16 h0_17 h0_18 h0_19 h0_20 h0_21 h0_22 m_351 m_352 h0_25 h0_26 m_353 m_354 h0_29 h0_30 u_349) H := hP1
              have hD : va_D A (lwO cI h0 h0_1 h0_2 h0_3 h0_4 h0_5 h0_6 h0_7 h0_8 h0_9 h0_10 h0_11 h0_12 h0_13 h0_14 h0_15 h0_16 h0_17 h0_18 h0_19 h0_20 h0_21 h0_22 m_351 m_352 h0_25 h0_26 m_353 m_354 h0_29 h0_30 u_349) := hD1.weaken (fun _ _ _ h => hFc _ h)
              refine W.widen (k := 88) (n := 528) (Nat.le_of_ble_eq_true rfl) (Nat.le_of_ble_eq_true rfl) ?_
              refine lv_bipush (v := (-91 : Int32)) hx hb dL_refuses_451 (by decide) ?_
              obtain ⟨ht_, hf_⟩ := h
              refine lv_icmp_ne (tgt := 547) hx hb dL_refuses_453 (by decide) (fun c_355 => ?_) (fun c_355 => ?_)
              · have h := ht_ c_355
                exact (show False from h).elim
              · have h := hf_ c_355
                have hl : lv_has ls 15 [(0, .ref h0), (1, .int v1), (2, .int v2), (3, .int v3), (4, .int v4), (5, .int (2147483647 : Int32)), (6, .int (1 : Int32)), (7, .int (-2147483648 : Int32)), (12, .int (4 : Int32))] := lv_sub hl [1, 2, 3, 4, 5, 6, 7, 8, 13] rfl
                refine W.widen (k := 88) (n := 528) (Nat.le_of_ble_eq_true rfl) (Nat.le_of_ble_eq_true rfl) ?_
                exact sg_L_refuses_7 l hst C0 hK hN hX hC hA h0_1 h0_2 h0_3 h0_4 h0_5 h0_6 h0_7 h0_8 h0_9 h0_10 h0_11 h0_12 h0_13 h0_14 h0_15 h0_16 h0_17 h0_18 h0_19 h0_20 h0_21 h0_22 h0_25 h0_26 h0_29 h0_30 _ u_349 v1 v2 v3 v4 h m_351 m_352 m_353 m_354 _ _ hP hD hS _ hl
set_option maxHeartbeats 4000000 in
set_option maxRecDepth 100000 in
theorem sg_L_refuses_5 (l : Launch) (hst : l.stackTraces = false) {p : Program} {e : Env} {s : State} {m : MethodId} {below : List Frame} {meth : Method} {c : Code} {h0 : Nat} (C0 : LC p s m (([.ref h0] : List Value).toArray) meth c cL_refuses 15 wq_refuses) {dC : Nat → ClassId} {dI : Nat → Nat → Nat} {cI : ClassId} (hK : va_K (dC, dI) vwCl [(cI, .int)] s) (hN : nk s) {A : Nat → Prop} (hX : xj A s) (hC : xnc s) (hA : ∀ q : Nat, s.heap.size ≤ q → A q) (h0_1 h0_2 h0_3 h0_4 h0_5 h0_6 h0_7 h0_8 h0_9 h0_10 h0_11 h0_12 h0_13 h0_14 h0_15 h0_16 h0_17 h0_18 h0_19 h0_20 h0_21 h0_22 h0_25 h0_26 h0_29 h0_30 : Nat) (post : Int32 → TriS → Prop) (s0 : TriS) (v1 : Int32) (v2 : Int32) (v3 : Int32) (v4 : Int32) (h : P_L_refuses_5 s0 v1 v2 v3 v4 post) (h0_23 h0_24 h0_27 h0_28 : Nat) (H : Heap) (locs : List Loc) (hP : va_P (dC, dI) vwCl (lwO cI h0 h0_1 h0_2 h0_3 h0_4 h0_5 h0_6 h0_7 h0_8 h0_9 h0_10 h0_11 h0_12 h0_13 h0_14 h0_15 h0_16 h0_17 h0_18 h0_19 h0_20 h0_21 h0_22 h0_23 h0_24 h0_25 h0_26 h0_27 h0_28 h0_29 h0_30 s0) H) (hD : va_D A (lwO cI h0 h0_1 h0_2 h0_3 h0_4 h0_5 h0_6 h0_7 h0_8 h0_9 h0_10 h0_11 h0_12 h0_13 h0_14 h0_15 h0_16 h0_17 h0_18 h0_19 h0_20 h0_21 h0_22 h0_23 h0_24 h0_25 h0_26 h0_27 h0_28 h0_29 h0_30 s0)) (hS : va_S A s.heap H locs) (ls : Array Slot) (hl : lv_has ls 15 [(0, .ref h0), (1, .int v1), (2, .int v2), (3, .int v3), (4, .int v4), (5, .int (2147483647 : Int32)), (6, .int (1 : Int32)), (7, .int (-2147483648 : Int32)), (8, .int (100 : Int32)), (9, .int (100 : Int32)), (10, .int (100 : Int32)), (11, .int (3 : Int32)), (12, .int (4 : Int32)), (14, .int (1 : Int32))]) : W p l e rm_L_refuses s m (([.ref h0] : List Value).toArray) below meth c H locs 60 360 (MQ below (Q_L_refuses dC dI cI h0 h0_1 h0_2 h0_3 h0_4 h0_5 h0_6 h0_7 h0_8 h0_9 h0_10 h0_11 h0_12 h0_13 h0_14 h0_15 h0_16 h0_17 h0_18 h0_19 h0_20 h0_21 h0_22 h0_23 h0_24 h0_25 h0_26 h0_27 h0_28 h0_29 h0_30 A post) (([.ref h0] : List Value).toArray) s mc_L_refuses ms_L_refuses A) (F0 m 194 ls []) := by
  obtain ⟨hx, hb, hr, hml, hown, hts, hlocks⟩ := id C0
  refine lv_iconst (v := (1 : Int32)) hx hb dL_refuses_194 (by decide) ?_
  refine lv_goto (tgt := 199) hx hb dL_refuses_195 (by decide) ?_
  refine lv_istore (lv' := [(13, .int (1 : Int32)), (0, .ref h0), (1, .int v1), (2, .int v2), (3, .int v3), (4, .int v4), (5, .int (2147483647 : Int32)), (6, .int (1 : Int32)), (7, .int (-2147483648 : Int32)), (8, .int (100 : Int32)), (9, .int (100 : Int32)), (10, .int (100 : Int32)), (11, .int (3 : Int32)), (12, .int (4 : Int32)), (14, .int (1 : Int32))]) hx hb dL_refuses_199 hl (by decide) rfl (fun ls hl => ?_)
  refine lv_iinc (v := (2 : Int32)) (lv' := [(14, .int (2 : Int32)), (13, .int (1 : Int32)), (0, .ref h0), (1, .int v1), (2, .int v2), (3, .int v3), (4, .int v4), (5, .int (2147483647 : Int32)), (6, .int (1 : Int32)), (7, .int (-2147483648 : Int32)), (8, .int (100 : Int32)), (9, .int (100 : Int32)), (10, .int (100 : Int32)), (11, .int (3 : Int32)), (12, .int (4 : Int32))]) hx hb dL_refuses_201 hl (k := 14) rfl (by decide) (by decide) rfl (fun ls hl => ?_)
  refine lv_goto (tgt := 138) hx hb dL_refuses_204 (by decide) ?_
  refine lv_iload hx hb dL_refuses_138 (lv_at hl 0 rfl) ?_
  refine lv_iconst (v := (2 : Int32)) hx hb dL_refuses_140 (by decide) ?_
  refine lv_icmp_ge (tgt := 207) hx hb dL_refuses_141 (by decide) (fun c_252 => ?_) (fun c_252 => absurd c_252 (by decide))
  refine lv_iload hx hb dL_refuses_207 (lv_at hl 1 rfl) ?_
  refine lv_if_eq (tgt := 378) hx hb dL_refuses_209 (by decide) (fun c_253 => absurd c_253 (by decide)) (fun c_253 => ?_)
  refine lv_aload_n hx hb dL_refuses_212 rfl (lv_at hl 2 rfl) ?_
  refine lv_iconst (v := (2 : Int32)) hx hb dL_refuses_213 (by decide) ?_
  refine lv_iload hx hb dL_refuses_214 (lv_at hl 13 rfl) ?_
  refine lv_iconst (v := (-1 : Int32)) hx hb dL_refuses_216 (by decide) ?_
  refine lv_iconst (v := (0 : Int32)) hx hb dL_refuses_217 (by decide) ?_
  have hFc := frw hD hS hA
  refine vx_calli (SX := Unit) (px := fun _ => False) (BX := fun _ _ _ => True) (AX := A) (vx_runSX0 (vx_runSX (As := [.ref h0, .int (2 : Int32), .int (3 : Int32), .int (-1 : Int32), .int (0 : Int32)]) (rest := []) ⟨hx, hb, hml, hown, hts⟩ (c_L_act l hst dC dI cI h0 h0_1 h0_2 h0_3 h0_4 h0_5 h0_6 h0_7 h0_8 h0_9 h0_10 h0_11 h0_12 h0_13 h0_14 h0_15 h0_16 h0_17 h0_18 h0_19 h0_20 h0_21 h0_22 h0_23 h0_24 h0_25 h0_26 h0_27 h0_28 h0_29 h0_30 _ s0 (2 : Int32) (3 : Int32) (-1 : Int32) (0 : Int32) _ h) (vx_cwSW 5 hts (goodIn_up gB_L_act) rfl rfl rfl (by decide +kernel) ⟨Nat.le_of_ble_eq_true rfl, Nat.le_of_ble_eq_true rfl⟩) (pbl_S hP hK hD hN hX hC hFc hS) rfl rfl hl.1 rfl (lv_room (Nat.le_of_ble_eq_true rfl)) dL_refuses_218 ⟨Nat.le_of_ble_eq_true rfl, Nat.le_of_ble_eq_true rfl⟩)) hS (fun q _ h => hFc q h) hFc (fun q _ h => h) (fun E9 ce9 q9 u t H locs ht hvm h hB hz1 hk1 hS hce hcv hcl => h.elim) (fun r_255 u_254 t H locs ht hvm h hB hz1 hk1 hS => ?_)
  obtain ⟨m_256, m_257, m_258, m_259, hP1, hD1⟩ := hB
  rw [ht] at hP1
  have hP : va_P (dC, dI) vwCl (lwO cI h0 h0_1 h0_2 h0_3 h0_4 h0_5 h0_6 h0_7 h0_8 h0_9 h0_10 h0_11 h0_12 h0_13 h0_14 h0_15 h0_16 h0_17 h0_18 h0_19 h0_20 h0_21 h0_22 m_256 m_257 h0_25 h0_26 m_258 m_259 h0_29 h0_30 u_254) H := hP1
  have hD : va_D A (lwO cI h0 h0_1 h0_2 h0_3 h0_4 h0_5 h0_6 h0_7 h0_8 h0_9 h0_10 h0_11 h0_12 h0_13 h0_14 h0_15 h0_16 h0_17 h0_18 h0_19 h0_20 h0_21 h0_22 m_256 m_257 h0_25 h0_26 m_258 m_259 h0_29 h0_30 u_254) := hD1.weaken (fun _ _ _ h => hFc _ h)
  refine W.widen (k := 62) (n := 372) (Nat.le_of_ble_eq_true rfl) (Nat.le_of_ble_eq_true rfl) ?_
  refine lv_bipush (v := (-92 : Int32)) hx hb dL_refuses_221 (by decide) ?_
  obtain ⟨ht_, hf_⟩ := h
  refine lv_icmp_ne (tgt := 378) hx hb dL_refuses_223 (by decide) (fun c_260 => ?_) (fun c_260 => ?_)
  · have h := ht_ c_260
    exact (show False from h).elim
  · have h := hf_ c_260
    refine lv_aload_n hx hb dL_refuses_226 rfl (lv_at hl 2 rfl) ?_
    refine lv_iconst (v := (2 : Int32)) hx hb dL_refuses_227 (by decide) ?_
    refine lv_iconst (v := (0 : Int32)) hx hb dL_refuses_228 (by decide) ?_
    refine lv_iconst (v := (-1 : Int32)) hx hb dL_refuses_229 (by decide) ?_
    refine lv_iload hx hb dL_refuses_230 (lv_at hl 13 rfl) ?_
    have hFc := frw hD hS hA
    refine vx_calli (SX := Unit) (px := fun _ => False) (BX := fun _ _ _ => True) (AX := A) (vx_runSX0 (vx_runSX (As := [.ref h0, .int (2 : Int32), .int (0 : Int32), .int (-1 : Int32), .int (3 : Int32)]) (rest := []) ⟨hx, hb, hml, hown, hts⟩ (c_L_act l hst dC dI cI h0 h0_1 h0_2 h0_3 h0_4 h0_5 h0_6 h0_7 h0_8 h0_9 h0_10 h0_11 h0_12 h0_13 h0_14 h0_15 h0_16 h0_17 h0_18 h0_19 h0_20 h0_21 h0_22 m_256 m_257 h0_25 h0_26 m_258 m_259 h0_29 h0_30 _ u_254 (2 : Int32) (0 : Int32) (-1 : Int32) (3 : Int32) _ h) (vx_cwSW 5 hts (goodIn_up gB_L_act) rfl rfl rfl (by decide +kernel) ⟨Nat.le_of_ble_eq_true rfl, Nat.le_of_ble_eq_true rfl⟩) (pbl_S hP hK hD hN hX hC hFc hS) rfl rfl hl.1 rfl (lv_room (Nat.le_of_ble_eq_true rfl)) dL_refuses_232 ⟨Nat.le_of_ble_eq_true rfl, Nat.le_of_ble_eq_true rfl⟩)) hS (fun q _ h => hFc q h) hFc (fun q _ h => h) (fun E9 ce9 q9 u t H locs ht hvm h hB hz1 hk1 hS hce hcv hcl => h.elim) (fun r_262 u_261 t H locs ht hvm h hB hz1 hk1 hS => ?_)
    obtain ⟨m_263, m_264, m_265, m_266, hP1, hD1⟩ := hB
    rw [ht] at hP1
    have hP : va_P (dC, dI) vwCl (lwO cI h0 h0_1 h0_2 h0_3 h0_4 h0_5 h0_6 h0_7 h0_8 h0_9 h0_10 h0_11 h0_12 h0_13 h0_14 h0_15 h0_16 h0_17 h0_18 h0_19 h0_20 h0_21 h0_22 m_263 m_264 h0_25 h0_26 m_265 m_266 h0_29 h0_30 u_261) H := hP1
    have hD : va_D A (lwO cI h0 h0_1 h0_2 h0_3 h0_4 h0_5 h0_6 h0_7 h0_8 h0_9 h0_10 h0_11 h0_12 h0_13 h0_14 h0_15 h0_16 h0_17 h0_18 h0_19 h0_20 h0_21 h0_22 m_263 m_264 h0_25 h0_26 m_265 m_266 h0_29 h0_30 u_261) := hD1.weaken (fun _ _ _ h => hFc _ h)
    refine W.widen (k := 64) (n := 384) (Nat.le_of_ble_eq_true rfl) (Nat.le_of_ble_eq_true rfl) ?_
    refine lv_bipush (v := (-92 : Int32)) hx hb dL_refuses_235 (by decide) ?_
    obtain ⟨ht_, hf_⟩ := h
    refine lv_icmp_ne (tgt := 378) hx hb dL_refuses_237 (by decide) (fun c_267 => ?_) (fun c_267 => ?_)
    · have h := ht_ c_267
      exact (show False from h).elim
    · have h := hf_ c_267
      refine lv_aload_n hx hb dL_refuses_240 rfl (lv_at hl 2 rfl) ?_
      refine lv_iconst (v := (2 : Int32)) hx hb dL_refuses_241 (by decide) ?_
      refine lv_iconst (v := (2 : Int32)) hx hb dL_refuses_242 (by decide) ?_
      refine lv_iload hx hb dL_refuses_243 (lv_at hl 8 rfl) ?_
      refine lv_iconst (v := (1 : Int32)) hx hb dL_refuses_245 (by decide) ?_
      refine lv_icmp_ne (tgt := 253) hx hb dL_refuses_246 (by decide) (fun c_268 => absurd c_268 (by decide)) (fun c_268 => ?_)
      refine lv_iload_n hx hb dL_refuses_249 rfl (lv_at hl 3 rfl) ?_
      refine lv_goto (tgt := 255) hx hb dL_refuses_250 (by decide) ?_
      refine lv_iconst (v := (2 : Int32)) hx hb dL_refuses_255 (by decide) ?_
      have hFc := frw hD hS hA
      refine vx_calli (SX := Unit) (px := fun _ => False) (BX := fun _ _ _ => True) (AX := A) (vx_runSX0 (vx_runSX (As := [.ref h0, .int (2 : Int32), .int (2 : Int32), .int v1, .int (2 : Int32)]) (rest := []) ⟨hx, hb, hml, hown, hts⟩ (c_L_act l hst dC dI cI h0 h0_1 h0_2 h0_3 h0_4 h0_5 h0_6 h0_7 h0_8 h0_9 h0_10 h0_11 h0_12 h0_13 h0_14 h0_15 h0_16 h0_17 h0_18 h0_19 h0_20 h0_21 h0_22 m_263 m_264 h0_25 h0_26 m_265 m_266 h0_29 h0_30 _ u_261 (2 : Int32) (2 : Int32) v1 (2 : Int32) _ h) (vx_cwSW 5 hts (goodIn_up gB_L_act) rfl rfl rfl (by decide +kernel) ⟨Nat.le_of_ble_eq_true rfl, Nat.le_of_ble_eq_true rfl⟩) (pbl_S hP hK hD hN hX hC hFc hS) rfl rfl hl.1 rfl (lv_room (Nat.le_of_ble_eq_true rfl)) dL_refuses_256 ⟨Nat.le_of_ble_eq_true rfl, Nat.le_of_ble_eq_true rfl⟩)) hS (fun q _ h => hFc q h) hFc (fun q _ h => h) (fun E9 ce9 q9 u t H locs ht hvm h hB hz1 hk1 hS hce hcv hcl => h.elim) (fun r_270 u_269 t H locs ht hvm h hB hz1 hk1 hS => ?_)
      obtain ⟨m_271, m_272, m_273, m_274, hP1, hD1⟩ := hB
      rw [ht] at hP1
      have hP : va_P (dC, dI) vwCl (lwO cI h0 h0_1 h0_2 h0_3 h0_4 h0_5 h0_6 h0_7 h0_8 h0_9 h0_10 h0_11 h0_12 h0_13 h0_14 h0_15 h0_16 h0_17 h0_18 h0_19 h0_20 h0_21 h0_22 m_271 m_272 h0_25 h0_26 m_273 m_274 h0_29 h0_30 u_269) H := hP1
      have hD : va_D A (lwO cI h0 h0_1 h0_2 h0_3 h0_4 h0_5 h0_6 h0_7 h0_8 h0_9 h0_10 h0_11 h0_12 h0_13 h0_14 h0_15 h0_16 h0_17 h0_18 h0_19 h0_20 h0_21 h0_22 m_271 m_272 h0_25 h0_26 m_273 m_274 h0_29 h0_30 u_269) := hD1.weaken (fun _ _ _ h => hFc _ h)
      refine W.widen (k := 66) (n := 396) (Nat.le_of_ble_eq_true rfl) (Nat.le_of_ble_eq_true rfl) ?_
      refine lv_bipush (v := (-91 : Int32)) hx hb dL_refuses_259 (by decide) ?_
      obtain ⟨ht_, hf_⟩ := h
      refine lv_icmp_ne (tgt := 378) hx hb dL_refuses_261 (by decide) (fun c_275 => ?_) (fun c_275 => ?_)
      · have h := ht_ c_275
        exact (show False from h).elim
      · have h := hf_ c_275
        refine lv_aload_n hx hb dL_refuses_264 rfl (lv_at hl 2 rfl) ?_
        refine lv_iconst (v := (3 : Int32)) hx hb dL_refuses_265 (by decide) ?_
        refine lv_iload hx hb dL_refuses_266 (lv_at hl 10 rfl) ?_
        refine lv_iconst (v := (0 : Int32)) hx hb dL_refuses_268 (by decide) ?_
        refine lv_iconst (v := (0 : Int32)) hx hb dL_refuses_269 (by decide) ?_
        have hFc := frw hD hS hA
        refine vx_calli (SX := Unit) (px := fun _ => False) (BX := fun _ _ _ => True) (AX := A) (vx_runSX0 (vx_runSX (As := [.ref h0, .int (3 : Int32), .int (100 : Int32), .int (0 : Int32), .int (0 : Int32)]) (rest := []) ⟨hx, hb, hml, hown, hts⟩ (c_L_act l hst dC dI cI h0 h0_1 h0_2 h0_3 h0_4 h0_5 h0_6 h0_7 h0_8 h0_9 h0_10 h0_11 h0_12 h0_13 h0_14 h0_15 h0_16 h0_17 h0_18 h0_19 h0_20 h0_21 h0_22 m_271 m_272 h0_25 h0_26 m_273 m_274 h0_29 h0_30 _ u_269 (3 : Int32) (100 : Int32) (0 : Int32) (0 : Int32) _ h) (vx_cwSW 5 hts (goodIn_up gB_L_act) rfl rfl rfl (by decide +kernel) ⟨Nat.le_of_ble_eq_true rfl, Nat.le_of_ble_eq_true rfl⟩) (pbl_S hP hK hD hN hX hC hFc hS) rfl rfl hl.1 rfl (lv_room (Nat.le_of_ble_eq_true rfl)) dL_refuses_270 ⟨Nat.le_of_ble_eq_true rfl, Nat.le_of_ble_eq_true rfl⟩)) hS (fun q _ h => hFc q h) hFc (fun q _ h => h) (fun E9 ce9 q9 u t H locs ht hvm h hB hz1 hk1 hS hce hcv hcl => h.elim) (fun r_277 u_276 t H locs ht hvm h hB hz1 hk1 hS => ?_)
        obtain ⟨m_278, m_279, m_280, m_281, hP1, hD1⟩ := hB
        rw [ht] at hP1
        have hP : va_P (dC, dI) vwCl (lwO cI h0 h0_1 h0_2 h0_3 h0_4 h0_5 h0_6 h0_7 h0_8 h0_9 h0_10 h0_11 h0_12 h0_13 h0_14 h0_15 h0_16 h0_17 h0_18 h0_19 h0_20 h0_21 h0_22 m_278 m_279 h0_25 h0_26 m_280 m_281 h0_29 h0_30 u_276) H := hP1
        have hD : va_D A (lwO cI h0 h0_1 h0_2 h0_3 h0_4 h0_5 h0_6 h0_7 h0_8 h0_9 h0_10 h0_11 h0_12 h0_13 h0_14 h0_15 h0_16 h0_17 h0_18 h0_19 h0_20 h0_21 h0_22 m_278 m_279 h0_25 h0_26 m_280 m_281 h0_29 h0_30 u_276) := hD1.weaken (fun _ _ _ h => hFc _ h)
        refine W.widen (k := 68) (n := 408) (Nat.le_of_ble_eq_true rfl) (Nat.le_of_ble_eq_true rfl) ?_
        refine lv_bipush (v := (-92 : Int32)) hx hb dL_refuses_273 (by decide) ?_
        obtain ⟨ht_, hf_⟩ := h
        refine lv_icmp_ne (tgt := 378) hx hb dL_refuses_275 (by decide) (fun c_282 => ?_) (fun c_282 => ?_)
        · have h := ht_ c_282
          exact (show False from h).elim
        · have h := hf_ c_282
          refine lv_aload_n hx hb dL_refuses_278 rfl (lv_at hl 2 rfl) ?_
          refine lv_iconst (v := (4 : Int32)) hx hb dL_refuses_279 (by decide) ?_
          refine lv_iload hx hb dL_refuses_280 (lv_at hl 8 rfl) ?_
          refine lv_iconst (v := (1 : Int32)) hx hb dL_refuses_282 (by decide) ?_
          refine lv_icmp_ne (tgt := 290) hx hb dL_refuses_283 (by decide) (fun c_283 => absurd c_283 (by decide)) (fun c_283 => ?_)
          refine lv_iload_n hx hb dL_refuses_286 rfl (lv_at hl 4 rfl) ?_
          refine lv_goto (tgt := 292) hx hb dL_refuses_287 (by decide) ?_
          refine lv_iconst (v := (0 : Int32)) hx hb dL_refuses_292 (by decide) ?_
          refine lv_iconst (v := (0 : Int32)) hx hb dL_refuses_293 (by decide) ?_
          have hFc := frw hD hS hA
          refine vx_calli (SX := Unit) (px := fun _ => False) (BX := fun _ _ _ => True) (AX := A) (vx_runSX0 (vx_runSX (As := [.ref h0, .int (4 : Int32), .int v2, .int (0 : Int32), .int (0 : Int32)]) (rest := []) ⟨hx, hb, hml, hown, hts⟩ (c_L_act l hst dC dI cI h0 h0_1 h0_2 h0_3 h0_4 h0_5 h0_6 h0_7 h0_8 h0_9 h0_10 h0_11 h0_12 h0_13 h0_14 h0_15 h0_16 h0_17 h0_18 h0_19 h0_20 h0_21 h0_22 m_278 m_279 h0_25 h0_26 m_280 m_281 h0_29 h0_30 _ u_276 (4 : Int32) v2 (0 : Int32) (0 : Int32) _ h) (vx_cwSW 5 hts (goodIn_up gB_L_act) rfl rfl rfl (by decide +kernel) ⟨Nat.le_of_ble_eq_true rfl, Nat.le_of_ble_eq_true rfl⟩) (pbl_S hP hK hD hN hX hC hFc hS) rfl rfl hl.1 rfl (lv_room (Nat.le_of_ble_eq_true rfl)) dL_refuses_294 ⟨Nat.le_of_ble_eq_true rfl, Nat.le_of_ble_eq_true rfl⟩)) hS (fun q _ h => hFc q h) hFc (fun q _ h => h) (fun E9 ce9 q9 u t H locs ht hvm h hB hz1 hk1 hS hce hcv hcl => h.elim) (fun r_285 u_284 t H locs ht hvm h hB hz1 hk1 hS => ?_)
          obtain ⟨m_286, m_287, m_288, m_289, hP1, hD1⟩ := hB
          rw [ht] at hP1
          have hP : va_P (dC, dI) vwCl (lwO cI h0 h0_1 h0_2 h0_3 h0_4 h0_5 h0_6 h0_7 h0_8 h0_9 h0_10 h0_11 h0_12 h0_13 h0_14 h0_15 h0_16 h0_17 h0_18 h0_19 h0_20 h0_21 h0_22 m_286 m_287 h0_25 h0_26 m_288 m_289 h0_29 h0_30 u_284) H := hP1
          have hD : va_D A (lwO cI h0 h0_1 h0_2 h0_3 h0_4 h0_5 h0_6 h0_7 h0_8 h0_9 h0_10 h0_11 h0_12 h0_13 h0_14 h0_15 h0_16 h0_17 h0_18 h0_19 h0_20 h0_21 h0_22 m_286 m_287 h0_25 h0_26 m_288 m_289 h0_29 h0_30 u_284) := hD1.weaken (fun _ _ _ h => hFc _ h)
          refine W.widen (k := 70) (n := 420) (Nat.le_of_ble_eq_true rfl) (Nat.le_of_ble_eq_true rfl) ?_
          refine lv_bipush (v := (-91 : Int32)) hx hb dL_refuses_297 (by decide) ?_
          obtain ⟨ht_, hf_⟩ := h
          refine lv_icmp_ne (tgt := 378) hx hb dL_refuses_299 (by decide) (fun c_290 => ?_) (fun c_290 => ?_)
          · have h := ht_ c_290
            exact (show False from h).elim
          · have h := hf_ c_290
            refine lv_aload_n hx hb dL_refuses_302 rfl (lv_at hl 2 rfl) ?_
            refine lv_iconst (v := (5 : Int32)) hx hb dL_refuses_303 (by decide) ?_
            refine lv_iload hx hb dL_refuses_304 (lv_at hl 11 rfl) ?_
            refine lv_iconst (v := (0 : Int32)) hx hb dL_refuses_306 (by decide) ?_
            refine lv_iconst (v := (0 : Int32)) hx hb dL_refuses_307 (by decide) ?_
            have hFc := frw hD hS hA
            refine vx_calli (SX := Unit) (px := fun _ => False) (BX := fun _ _ _ => True) (AX := A) (vx_runSX0 (vx_runSX (As := [.ref h0, .int (5 : Int32), .int (100 : Int32), .int (0 : Int32), .int (0 : Int32)]) (rest := []) ⟨hx, hb, hml, hown, hts⟩ (c_L_act l hst dC dI cI h0 h0_1 h0_2 h0_3 h0_4 h0_5 h0_6 h0_7 h0_8 h0_9 h0_10 h0_11 h0_12 h0_13 h0_14 h0_15 h0_16 h0_17 h0_18 h0_19 h0_20 h0_21 h0_22 m_286 m_287 h0_25 h0_26 m_288 m_289 h0_29 h0_30 _ u_284 (5 : Int32) (100 : Int32) (0 : Int32) (0 : Int32) _ h) (vx_cwSW 5 hts (goodIn_up gB_L_act) rfl rfl rfl (by decide +kernel) ⟨Nat.le_of_ble_eq_true rfl, Nat.le_of_ble_eq_true rfl⟩) (pbl_S hP hK hD hN hX hC hFc hS) rfl rfl hl.1 rfl (lv_room (Nat.le_of_ble_eq_true rfl)) dL_refuses_308 ⟨Nat.le_of_ble_eq_true rfl, Nat.le_of_ble_eq_true rfl⟩)) hS (fun q _ h => hFc q h) hFc (fun q _ h => h) (fun E9 ce9 q9 u t H locs ht hvm h hB hz1 hk1 hS hce hcv hcl => h.elim) (fun r_292 u_291 t H locs ht hvm h hB hz1 hk1 hS => ?_)
            obtain ⟨m_293, m_294, m_295, m_296, hP1, hD1⟩ := hB
            rw [ht] at hP1
            have hP : va_P (dC, dI) vwCl (lwO cI h0 h0_1 h0_2 h0_3 h0_4 h0_5 h0_6 h0_7 h0_8 h0_9 h0_10 h0_11 h0_12 h0_13 h0_14 h0_15 h0_16 h0_17 h0_18 h0_19 h0_20 h0_21 h0_22 m_293 m_294 h0_25 h0_26 m_295 m_296 h0_29 h0_30 u_291) H := hP1
            have hD : va_D A (lwO cI h0 h0_1 h0_2 h0_3 h0_4 h0_5 h0_6 h0_7 h0_8 h0_9 h0_10 h0_11 h0_12 h0_13 h0_14 h0_15 h0_16 h0_17 h0_18 h0_19 h0_20 h0_21 h0_22 m_293 m_294 h0_25 h0_26 m_295 m_296 h0_29 h0_30 u_291) := hD1.weaken (fun _ _ _ h => hFc _ h)
            refine W.widen (k := 72) (n := 432) (Nat.le_of_ble_eq_true rfl) (Nat.le_of_ble_eq_true rfl) ?_
            refine lv_bipush (v := (-92 : Int32)) hx hb dL_refuses_311 (by decide) ?_
            obtain ⟨ht_, hf_⟩ := h
            refine lv_icmp_ne (tgt := 378) hx hb dL_refuses_313 (by decide) (fun c_297 => ?_) (fun c_297 => ?_)
            · have h := ht_ c_297
              exact (show False from h).elim
            · have h := hf_ c_297
              refine lv_aload_n hx hb dL_refuses_316 rfl (lv_at hl 2 rfl) ?_
              refine lv_iconst (v := (5 : Int32)) hx hb dL_refuses_317 (by decide) ?_
              refine lv_iconst (v := (0 : Int32)) hx hb dL_refuses_318 (by decide) ?_
              refine lv_iload hx hb dL_refuses_319 (lv_at hl 11 rfl) ?_
              refine lv_iconst (v := (0 : Int32)) hx hb dL_refuses_321 (by decide) ?_
              have hFc := frw hD hS hA
              refine vx_calli (SX := Unit) (px := fun _ => False) (BX := fun _ _ _ => True) (AX := A) (vx_runSX0 (vx_runSX (As := [.ref h0, .int (5 : Int32), .int (0 : Int32), .int (100 : Int32), .int (0 : Int32)]) (rest := []) ⟨hx, hb, hml, hown, hts⟩ (c_L_act l hst dC dI cI h0 h0_1 h0_2 h0_3 h0_4 h0_5 h0_6 h0_7 h0_8 h0_9 h0_10 h0_11 h0_12 h0_13 h0_14 h0_15 h0_16 h0_17 h0_18 h0_19 h0_20 h0_21 h0_22 m_293 m_294 h0_25 h0_26 m_295 m_296 h0_29 h0_30 _ u_291 (5 : Int32) (0 : Int32) (100 : Int32) (0 : Int32) _ h) (vx_cwSW 5 hts (goodIn_up gB_L_act) rfl rfl rfl (by decide +kernel) ⟨Nat.le_of_ble_eq_true rfl, Nat.le_of_ble_eq_true rfl⟩) (pbl_S hP hK hD hN hX hC hFc hS) rfl rfl hl.1 rfl (lv_room (Nat.le_of_ble_eq_true rfl)) dL_refuses_322 ⟨Nat.le_of_ble_eq_true rfl, Nat.le_of_ble_eq_true rfl⟩)) hS (fun q _ h => hFc q h) hFc (fun q _ h => h) (fun E9 ce9 q9 u t H locs ht hvm h hB hz1 hk1 hS hce hcv hcl => h.elim) (fun r_299 u_298 t H locs ht hvm h hB hz1 hk1 hS => ?_)
              obtain ⟨m_300, m_301, m_302, m_303, hP1, hD1⟩ := hB
              rw [ht] at hP1
              have hP : va_P (dC, dI) vwCl (lwO cI h0 h0_1 h0_2 h0_3 h0_4 h0_5 h0_6 h0_7 h0_8 h0_9 h0_10 h0_11 h0_12 h0_13 h0_14 h0_15 h0_16 h0_17 h0_18 h0_19 h0_20 h0_21 h0_22 m_300 m_301 h0_25 h0_26 m_302 m_303 h0_29 h0_30 u_298) H := hP1
              have hD : va_D A (lwO cI h0 h0_1 h0_2 h0_3 h0_4 h0_5 h0_6 h0_7 h0_8 h0_9 h0_10 h0_11 h0_12 h0_13 h0_14 h0_15 h0_16 h0_17 h0_18 h0_19 h0_20 h0_21 h0_22 m_300 m_301 h0_25 h0_26 m_302 m_303 h0_29 h0_30 u_298) := hD1.weaken (fun _ _ _ h => hFc _ h)
              refine W.widen (k := 74) (n := 444) (Nat.le_of_ble_eq_true rfl) (Nat.le_of_ble_eq_true rfl) ?_
              refine lv_bipush (v := (-92 : Int32)) hx hb dL_refuses_325 (by decide) ?_
              obtain ⟨ht_, hf_⟩ := h
              refine lv_icmp_ne (tgt := 378) hx hb dL_refuses_327 (by decide) (fun c_304 => ?_) (fun c_304 => ?_)
              · have h := ht_ c_304
                exact (show False from h).elim
              · have h := hf_ c_304
                have hl : lv_has ls 15 [(0, .ref h0), (1, .int v1), (2, .int v2), (3, .int v3), (4, .int v4), (5, .int (2147483647 : Int32)), (6, .int (1 : Int32)), (7, .int (-2147483648 : Int32)), (8, .int (100 : Int32)), (9, .int (100 : Int32)), (10, .int (100 : Int32)), (11, .int (3 : Int32)), (12, .int (4 : Int32))] := lv_sub hl [2, 3, 4, 5, 6, 7, 8, 9, 10, 11, 12, 13, 14] rfl
                refine W.widen (k := 74) (n := 444) (Nat.le_of_ble_eq_true rfl) (Nat.le_of_ble_eq_true rfl) ?_
                exact sg_L_refuses_6 l hst C0 hK hN hX hC hA h0_1 h0_2 h0_3 h0_4 h0_5 h0_6 h0_7 h0_8 h0_9 h0_10 h0_11 h0_12 h0_13 h0_14 h0_15 h0_16 h0_17 h0_18 h0_19 h0_20 h0_21 h0_22 h0_25 h0_26 h0_29 h0_30 _ u_298 v1 v2 v3 v4 h m_300 m_301 m_302 m_303 _ _ hP hD hS _ hl
