set_option maxHeartbeats 4000000 in
set_option maxRecDepth 100000 in
theorem sg_L_refuses_10 (l : Launch) (hst : l.stackTraces = false) {p : Program} {e : Env} {s : State} {m : MethodId} {below : List Frame} {meth : Method} {c : Code} {h0 : Nat} (C0 : LC p s m (([.ref h0] : List Value).toArray) meth c cL_refuses 15 wq_refuses) {dC : Nat → ClassId} {dI : Nat → Nat → Nat} {cI : ClassId} (hK : va_K (dC, dI) vwCl [(cI, .int)] s) (hN : nk s) {A : Nat → Prop} (hX : xj A s) (hC : xnc s) (hA : ∀ q : Nat, s.heap.size ≤ q → A q) (h0_1 h0_2 h0_3 h0_4 h0_5 h0_6 h0_7 h0_8 h0_9 h0_10 h0_11 h0_12 h0_13 h0_14 h0_15 h0_16 h0_17 h0_18 h0_19 h0_20 h0_21 h0_22 h0_25 h0_26 h0_29 h0_30 : Nat) (post : Int32 → TriS → Prop) (s0 : TriS) (v1 : Int32) (v2 : Int32) (v3 : Int32) (v4 : Int32) (h : P_L_refuses_10 s0 v1 v2 v3 v4 post) (h0_23 h0_24 h0_27 h0_28 : Nat) (H : Heap) (locs : List Loc) (hP : va_P (dC, dI) vwCl (lwO cI h0 h0_1 h0_2 h0_3 h0_4 h0_5 h0_6 h0_7 h0_8 h0_9 h0_10 h0_11 h0_12 h0_13 h0_14 h0_15 h0_16 h0_17 h0_18 h0_19 h0_20 h0_21 h0_22 h0_23 h0_24 h0_25 h0_26 h0_27 h0_28 h0_29 h0_30 s0) H) (hD : va_D A (lwO cI h0 h0_1 h0_2 h0_3 h0_4 h0_5 h0_6 h0_7 h0_8 h0_9 h0_10 h0_11 h0_12 h0_13 h0_14 h0_15 h0_16 h0_17 h0_18 h0_19 h0_20 h0_21 h0_22 h0_23 h0_24 h0_25 h0_26 h0_27 h0_28 h0_29 h0_30 s0)) (hS : va_S A s.heap H locs) (ls : Array Slot) (hl : lv_has ls 15 [(0, .ref h0), (1, .int v1), (2, .int v2), (3, .int v3), (4, .int v4), (5, .int (2147483647 : Int32)), (6, .int (2 : Int32)), (7, .int (2147483647 : Int32)), (8, .int (2147483647 : Int32)), (9, .int (2147483647 : Int32)), (10, .int (2147483647 : Int32)), (11, .int (2147483647 : Int32)), (12, .int (2147483647 : Int32))]) : W p l e rm_L_refuses s m (([.ref h0] : List Value).toArray) below meth c H locs 122 732 (MQ below (Q_L_refuses dC dI cI h0 h0_1 h0_2 h0_3 h0_4 h0_5 h0_6 h0_7 h0_8 h0_9 h0_10 h0_11 h0_12 h0_13 h0_14 h0_15 h0_16 h0_17 h0_18 h0_19 h0_20 h0_21 h0_22 h0_23 h0_24 h0_25 h0_26 h0_27 h0_28 h0_29 h0_30 A post) (([.ref h0] : List Value).toArray) s mc_L_refuses ms_L_refuses A) (F0 m 330 ls []) := by
  obtain ⟨hx, hb, hr, hml, hown, hts, hlocks⟩ := id C0
  refine lv_aload_n hx hb dL_refuses_330 rfl (lv_at hl 0 rfl) ?_
  refine lv_iconst (v := (5 : Int32)) hx hb dL_refuses_331 (by decide) ?_
  refine lv_iconst (v := (0 : Int32)) hx hb dL_refuses_332 (by decide) ?_
  refine lv_iconst (v := (0 : Int32)) hx hb dL_refuses_333 (by decide) ?_
  refine lv_iload hx hb dL_refuses_334 (lv_at hl 9 rfl) ?_
  have hFc := frw hD hS hA
  refine vx_calli (SX := Unit) (px := fun _ => False) (BX := fun _ _ _ => True) (AX := A) (vx_runSX0 (vx_runSX (As := [.ref h0, .int (5 : Int32), .int (0 : Int32), .int (0 : Int32), .int (2147483647 : Int32)]) (rest := []) ⟨hx, hb, hml, hown, hts⟩ (c_L_act l hst dC dI cI h0 h0_1 h0_2 h0_3 h0_4 h0_5 h0_6 h0_7 h0_8 h0_9 h0_10 h0_11 h0_12 h0_13 h0_14 h0_15 h0_16 h0_17 h0_18 h0_19 h0_20 h0_21 h0_22 h0_23 h0_24 h0_25 h0_26 h0_27 h0_28 h0_29 h0_30 _ s0 (5 : Int32) (0 : Int32) (0 : Int32) (2147483647 : Int32) _ h) (vx_cwSW 5 hts (goodIn_up gB_L_act) rfl rfl rfl (by decide +kernel) ⟨Nat.le_of_ble_eq_true rfl, Nat.le_of_ble_eq_true rfl⟩) (pbl_S hP hK hD hN hX hC hFc hS) rfl rfl hl.1 rfl (lv_room (Nat.le_of_ble_eq_true rfl)) dL_refuses_336 ⟨Nat.le_of_ble_eq_true rfl, Nat.le_of_ble_eq_true rfl⟩)) hS (fun q _ h => hFc q h) hFc (fun q _ h => h) (fun E9 ce9 q9 u t H locs ht hvm h hB hz1 hk1 hS hce hcv hcl => h.elim) (fun r_496 u_495 t H locs ht hvm h hB hz1 hk1 hS => ?_)
  obtain ⟨m_497, m_498, m_499, m_500, hP1, hD1⟩ := hB
  rw [ht] at hP1
  have hP : va_P (dC, dI) vwCl (lwO cI h0 h0_1 h0_2 h0_3 h0_4 h0_5 h0_6 h0_7 h0_8 h0_9 h0_10 h0_11 h0_12 h0_13 h0_14 h0_15 h0_16 h0_17 h0_18 h0_19 h0_20 h0_21 h0_22 m_497 m_498 h0_25 h0_26 m_499 m_500 h0_29 h0_30 u_495) H := hP1
  have hD : va_D A (lwO cI h0 h0_1 h0_2 h0_3 h0_4 h0_5 h0_6 h0_7 h0_8 h0_9 h0_10 h0_11 h0_12 h0_13 h0_14 h0_15 h0_16 h0_17 h0_18 h0_19 h0_20 h0_21 h0_22 m_497 m_498 h0_25 h0_26 m_499 m_500 h0_29 h0_30 u_495) := hD1.weaken (fun _ _ _ h => hFc _ h)
  refine W.widen (k := 124) (n := 744) (Nat.le_of_ble_eq_true rfl) (Nat.le_of_ble_eq_true rfl) ?_
  refine lv_bipush (v := (-92 : Int32)) hx hb dL_refuses_339 (by decide) ?_
  obtain ⟨ht_, hf_⟩ := h
  refine lv_icmp_ne (tgt := 378) hx hb dL_refuses_341 (by decide) (fun c_501 => ?_) (fun c_501 => ?_)
  · have h := ht_ c_501
    exact (show False from h).elim
  · have h := hf_ c_501
    refine lv_aload_n hx hb dL_refuses_344 rfl (lv_at hl 0 rfl) ?_
    refine lv_bipush (v := (6 : Int32)) hx hb dL_refuses_345 (by decide) ?_
    refine lv_iload hx hb dL_refuses_347 (lv_at hl 11 rfl) ?_
    refine lv_iconst (v := (0 : Int32)) hx hb dL_refuses_349 (by decide) ?_
    refine lv_iconst (v := (0 : Int32)) hx hb dL_refuses_350 (by decide) ?_
    have hFc := frw hD hS hA
    refine vx_calli (SX := Unit) (px := fun _ => False) (BX := fun _ _ _ => True) (AX := A) (vx_runSX0 (vx_runSX (As := [.ref h0, .int (6 : Int32), .int (2147483647 : Int32), .int (0 : Int32), .int (0 : Int32)]) (rest := []) ⟨hx, hb, hml, hown, hts⟩ (c_L_act l hst dC dI cI h0 h0_1 h0_2 h0_3 h0_4 h0_5 h0_6 h0_7 h0_8 h0_9 h0_10 h0_11 h0_12 h0_13 h0_14 h0_15 h0_16 h0_17 h0_18 h0_19 h0_20 h0_21 h0_22 m_497 m_498 h0_25 h0_26 m_499 m_500 h0_29 h0_30 _ u_495 (6 : Int32) (2147483647 : Int32) (0 : Int32) (0 : Int32) _ h) (vx_cwSW 5 hts (goodIn_up gB_L_act) rfl rfl rfl (by decide +kernel) ⟨Nat.le_of_ble_eq_true rfl, Nat.le_of_ble_eq_true rfl⟩) (pbl_S hP hK hD hN hX hC hFc hS) rfl rfl hl.1 rfl (lv_room (Nat.le_of_ble_eq_true rfl)) dL_refuses_351 ⟨Nat.le_of_ble_eq_true rfl, Nat.le_of_ble_eq_true rfl⟩)) hS (fun q _ h => hFc q h) hFc (fun q _ h => h) (fun E9 ce9 q9 u t H locs ht hvm h hB hz1 hk1 hS hce hcv hcl => h.elim) (fun r_503 u_502 t H locs ht hvm h hB hz1 hk1 hS => ?_)
    obtain ⟨m_504, m_505, m_506, m_507, hP1, hD1⟩ := hB
    rw [ht] at hP1
    have hP : va_P (dC, dI) vwCl (lwO cI h0 h0_1 h0_2 h0_3 h0_4 h0_5 h0_6 h0_7 h0_8 h0_9 h0_10 h0_11 h0_12 h0_13 h0_14 h0_15 h0_16 h0_17 h0_18 h0_19 h0_20 h0_21 h0_22 m_504 m_505 h0_25 h0_26 m_506 m_507 h0_29 h0_30 u_502) H := hP1
    have hD : va_D A (lwO cI h0 h0_1 h0_2 h0_3 h0_4 h0_5 h0_6 h0_7 h0_8 h0_9 h0_10 h0_11 h0_12 h0_13 h0_14 h0_15 h0_16 h0_17 h0_18 h0_19 h0_20 h0_21 h0_22 m_504 m_505 h0_25 h0_26 m_506 m_507 h0_29 h0_30 u_502) := hD1.weaken (fun _ _ _ h => hFc _ h)
    refine W.widen (k := 126) (n := 756) (Nat.le_of_ble_eq_true rfl) (Nat.le_of_ble_eq_true rfl) ?_
    refine lv_bipush (v := (-92 : Int32)) hx hb dL_refuses_354 (by decide) ?_
    obtain ⟨ht_, hf_⟩ := h
    refine lv_icmp_ne (tgt := 378) hx hb dL_refuses_356 (by decide) (fun c_508 => ?_) (fun c_508 => ?_)
    · have h := ht_ c_508
      exact (show False from h).elim
    · have h := hf_ c_508
      refine lv_aload_n hx hb dL_refuses_359 rfl (lv_at hl 0 rfl) ?_
      refine lv_bipush (v := (6 : Int32)) hx hb dL_refuses_360 (by decide) ?_
      refine lv_iconst (v := (0 : Int32)) hx hb dL_refuses_362 (by decide) ?_
      refine lv_iload hx hb dL_refuses_363 (lv_at hl 8 rfl) ?_
      refine lv_iconst (v := (0 : Int32)) hx hb dL_refuses_365 (by decide) ?_
      have hFc := frw hD hS hA
      refine vx_calli (SX := Unit) (px := fun _ => False) (BX := fun _ _ _ => True) (AX := A) (vx_runSX0 (vx_runSX (As := [.ref h0, .int (6 : Int32), .int (0 : Int32), .int (2147483647 : Int32), .int (0 : Int32)]) (rest := []) ⟨hx, hb, hml, hown, hts⟩ (c_L_act l hst dC dI cI h0 h0_1 h0_2 h0_3 h0_4 h0_5 h0_6 h0_7 h0_8 h0_9 h0_10 h0_11 h0_12 h0_13 h0_14 h0_15 h0_16 h0_17 h0_18 h0_19 h0_20 h0_21 h0_22 m_504 m_505 h0_25 h0_26 m_506 m_507 h0_29 h0_30 _ u_502 (6 : Int32) (0 : Int32) (2147483647 : Int32) (0 : Int32) _ h) (vx_cwSW 5 hts (goodIn_up gB_L_act) rfl rfl rfl (by decide +kernel) ⟨Nat.le_of_ble_eq_true rfl, Nat.le_of_ble_eq_true rfl⟩) (pbl_S hP hK hD hN hX hC hFc hS) rfl rfl hl.1 rfl (lv_room (Nat.le_of_ble_eq_true rfl)) dL_refuses_366 ⟨Nat.le_of_ble_eq_true rfl, Nat.le_of_ble_eq_true rfl⟩)) hS (fun q _ h => hFc q h) hFc (fun q _ h => h) (fun E9 ce9 q9 u t H locs ht hvm h hB hz1 hk1 hS hce hcv hcl => h.elim) (fun r_510 u_509 t H locs ht hvm h hB hz1 hk1 hS => ?_)
      obtain ⟨m_511, m_512, m_513, m_514, hP1, hD1⟩ := hB
      rw [ht] at hP1
      have hP : va_P (dC, dI) vwCl (lwO cI h0 h0_1 h0_2 h0_3 h0_4 h0_5 h0_6 h0_7 h0_8 h0_9 h0_10 h0_11 h0_12 h0_13 h0_14 h0_15 h0_16 h0_17 h0_18 h0_19 h0_20 h0_21 h0_22 m_511 m_512 h0_25 h0_26 m_513 m_514 h0_29 h0_30 u_509) H := hP1
      have hD : va_D A (lwO cI h0 h0_1 h0_2 h0_3 h0_4 h0_5 h0_6 h0_7 h0_8 h0_9 h0_10 h0_11 h0_12 h0_13 h0_14 h0_15 h0_16 h0_17 h0_18 h0_19 h0_20 h0_21 h0_22 m_511 m_512 h0_25 h0_26 m_513 m_514 h0_29 h0_30 u_509) := hD1.weaken (fun _ _ _ h => hFc _ h)
      refine W.widen (k := 128) (n := 768) (Nat.le_of_ble_eq_true rfl) (Nat.le_of_ble_eq_true rfl) ?_
      refine lv_bipush (v := (-92 : Int32)) hx hb dL_refuses_369 (by decide) ?_
      obtain ⟨ht_, hf_⟩ := h
      refine lv_icmp_ne (tgt := 378) hx hb dL_refuses_371 (by decide) (fun c_515 => ?_) (fun c_515 => ?_)
      · have h := ht_ c_515
        exact (show False from h).elim
      · have h := hf_ c_515
        refine lv_iconst (v := (1 : Int32)) hx hb dL_refuses_374 (by decide) ?_
        refine lv_goto (tgt := 379) hx hb dL_refuses_375 (by decide) ?_
        refine lv_istore (lv' := [(13, .int (1 : Int32)), (0, .ref h0), (1, .int v1), (2, .int v2), (3, .int v3), (4, .int v4), (5, .int (2147483647 : Int32)), (6, .int (2 : Int32)), (7, .int (2147483647 : Int32)), (8, .int (2147483647 : Int32)), (9, .int (2147483647 : Int32)), (10, .int (2147483647 : Int32)), (11, .int (2147483647 : Int32)), (12, .int (2147483647 : Int32))]) hx hb dL_refuses_379 hl (by decide) rfl (fun ls hl => ?_)
        refine lv_iload hx hb dL_refuses_381 (lv_at hl 0 rfl) ?_
        refine lv_if_eq (tgt := 547) hx hb dL_refuses_383 (by decide) (fun c_516 => absurd c_516 (by decide)) (fun c_516 => ?_)
        refine lv_aload_n hx hb dL_refuses_386 rfl (lv_at hl 1 rfl) ?_
        refine lv_bipush (v := (7 : Int32)) hx hb dL_refuses_387 (by decide) ?_
        refine lv_iload hx hb dL_refuses_389 (lv_at hl 11 rfl) ?_
        refine lv_iconst (v := (0 : Int32)) hx hb dL_refuses_391 (by decide) ?_
        refine lv_iconst (v := (0 : Int32)) hx hb dL_refuses_392 (by decide) ?_
        have hFc := frw hD hS hA
        refine vx_calli (SX := Unit) (px := fun _ => False) (BX := fun _ _ _ => True) (AX := A) (vx_runSX0 (vx_runSX (As := [.ref h0, .int (7 : Int32), .int (2147483647 : Int32), .int (0 : Int32), .int (0 : Int32)]) (rest := []) ⟨hx, hb, hml, hown, hts⟩ (c_L_act l hst dC dI cI h0 h0_1 h0_2 h0_3 h0_4 h0_5 h0_6 h0_7 h0_8 h0_9 h0_10 h0_11 h0_12 h0_13 h0_14 h0_15 h0_16 h0_17 h0_18 h0_19 h0_20 h0_21 h0_22 m_511 m_512 h0_25 h0_26 m_513 m_514 h0_29 h0_30 _ u_509 (7 : Int32) (2147483647 : Int32) (0 : Int32) (0 : Int32) _ h) (vx_cwSW 5 hts (goodIn_up gB_L_act) rfl rfl rfl (by decide +kernel) ⟨Nat.le_of_ble_eq_true rfl, Nat.le_of_ble_eq_true rfl⟩) (pbl_S hP hK hD hN hX hC hFc hS) rfl rfl hl.1 rfl (lv_room (Nat.le_of_ble_eq_true rfl)) dL_refuses_393 ⟨Nat.le_of_ble_eq_true rfl, Nat.le_of_ble_eq_true rfl⟩)) hS (fun q _ h => hFc q h) hFc (fun q _ h => h) (fun E9 ce9 q9 u t H locs ht hvm h hB hz1 hk1 hS hce hcv hcl => h.elim) (fun r_518 u_517 t H locs ht hvm h hB hz1 hk1 hS => ?_)
        obtain ⟨m_519, m_520, m_521, m_522, hP1, hD1⟩ := hB
        rw [ht] at hP1
        have hP : va_P (dC, dI) vwCl (lwO cI h0 h0_1 h0_2 h0_3 h0_4 h0_5 h0_6 h0_7 h0_8 h0_9 h0_10 h0_11 h0_12 h0_13 h0_14 h0_15 h0_16 h0_17 h0_18 h0_19 h0_20 h0_21 h0_22 m_519 m_520 h0_25 h0_26 m_521 m_522 h0_29 h0_30 u_517) H := hP1
        have hD : va_D A (lwO cI h0 h0_1 h0_2 h0_3 h0_4 h0_5 h0_6 h0_7 h0_8 h0_9 h0_10 h0_11 h0_12 h0_13 h0_14 h0_15 h0_16 h0_17 h0_18 h0_19 h0_20 h0_21 h0_22 m_519 m_520 h0_25 h0_26 m_521 m_522 h0_29 h0_30 u_517) := hD1.weaken (fun _ _ _ h => hFc _ h)
        refine W.widen (k := 130) (n := 780) (Nat.le_of_ble_eq_true rfl) (Nat.le_of_ble_eq_true rfl) ?_
        refine lv_bipush (v := (-92 : Int32)) hx hb dL_refuses_396 (by decide) ?_
        obtain ⟨ht_, hf_⟩ := h
        refine lv_icmp_ne (tgt := 547) hx hb dL_refuses_398 (by decide) (fun c_523 => ?_) (fun c_523 => ?_)
        · have h := ht_ c_523
          exact (show False from h).elim
        · have h := hf_ c_523
          refine lv_aload_n hx hb dL_refuses_401 rfl (lv_at hl 1 rfl) ?_
          refine lv_bipush (v := (7 : Int32)) hx hb dL_refuses_402 (by decide) ?_
          refine lv_iconst (v := (0 : Int32)) hx hb dL_refuses_404 (by decide) ?_
          refine lv_iload hx hb dL_refuses_405 (lv_at hl 11 rfl) ?_
          refine lv_iconst (v := (0 : Int32)) hx hb dL_refuses_407 (by decide) ?_
          have hFc := frw hD hS hA
          refine vx_calli (SX := Unit) (px := fun _ => False) (BX := fun _ _ _ => True) (AX := A) (vx_runSX0 (vx_runSX (As := [.ref h0, .int (7 : Int32), .int (0 : Int32), .int (2147483647 : Int32), .int (0 : Int32)]) (rest := []) ⟨hx, hb, hml, hown, hts⟩ (c_L_act l hst dC dI cI h0 h0_1 h0_2 h0_3 h0_4 h0_5 h0_6 h0_7 h0_8 h0_9 h0_10 h0_11 h0_12 h0_13 h0_14 h0_15 h0_16 h0_17 h0_18 h0_19 h0_20 h0_21 h0_22 m_519 m_520 h0_25 h0_26 m_521 m_522 h0_29 h0_30 _ u_517 (7 : Int32) (0 : Int32) (2147483647 : Int32) (0 : Int32) _ h) (vx_cwSW 5 hts (goodIn_up gB_L_act) rfl rfl rfl (by decide +kernel) ⟨Nat.le_of_ble_eq_true rfl, Nat.le_of_ble_eq_true rfl⟩) (pbl_S hP hK hD hN hX hC hFc hS) rfl rfl hl.1 rfl (lv_room (Nat.le_of_ble_eq_true rfl)) dL_refuses_408 ⟨Nat.le_of_ble_eq_true rfl, Nat.le_of_ble_eq_true rfl⟩)) hS (fun q _ h => hFc q h) hFc (fun q _ h => h) (fun E9 ce9 q9 u t H locs ht hvm h hB hz1 hk1 hS hce hcv hcl => h.elim) (fun r_525 u_524 t H locs ht hvm h hB hz1 hk1 hS => ?_)
          obtain ⟨m_526, m_527, m_528, m_529, hP1, hD1⟩ := hB
          rw [ht] at hP1
          have hP : va_P (dC, dI) vwCl (lwO cI h0 h0_1 h0_2 h0_3 h0_4 h0_5 h0_6 h0_7 h0_8 h0_9 h0_10 h0_11 h0_12 h0_13 h0_14 h0_15 h0_16 h0_17 h0_18 h0_19 h0_20 h0_21 h0_22 m_526 m_527 h0_25 h0_26 m_528 m_529 h0_29 h0_30 u_524) H := hP1
          have hD : va_D A (lwO cI h0 h0_1 h0_2 h0_3 h0_4 h0_5 h0_6 h0_7 h0_8 h0_9 h0_10 h0_11 h0_12 h0_13 h0_14 h0_15 h0_16 h0_17 h0_18 h0_19 h0_20 h0_21 h0_22 m_526 m_527 h0_25 h0_26 m_528 m_529 h0_29 h0_30 u_524) := hD1.weaken (fun _ _ _ h => hFc _ h)
          refine W.widen (k := 132) (n := 792) (Nat.le_of_ble_eq_true rfl) (Nat.le_of_ble_eq_true rfl) ?_
          refine lv_bipush (v := (-92 : Int32)) hx hb dL_refuses_411 (by decide) ?_
          obtain ⟨ht_, hf_⟩ := h
          refine lv_icmp_ne (tgt := 547) hx hb dL_refuses_413 (by decide) (fun c_530 => ?_) (fun c_530 => ?_)
          · have h := ht_ c_530
            exact (show False from h).elim
          · have h := hf_ c_530
            refine lv_aload_n hx hb dL_refuses_416 rfl (lv_at hl 1 rfl) ?_
            refine lv_bipush (v := (7 : Int32)) hx hb dL_refuses_417 (by decide) ?_
            refine lv_iconst (v := (0 : Int32)) hx hb dL_refuses_419 (by decide) ?_
            refine lv_iconst (v := (0 : Int32)) hx hb dL_refuses_420 (by decide) ?_
            refine lv_iload hx hb dL_refuses_421 (lv_at hl 11 rfl) ?_
            have hFc := frw hD hS hA
            refine vx_calli (SX := Unit) (px := fun _ => False) (BX := fun _ _ _ => True) (AX := A) (vx_runSX0 (vx_runSX (As := [.ref h0, .int (7 : Int32), .int (0 : Int32), .int (0 : Int32), .int (2147483647 : Int32)]) (rest := []) ⟨hx, hb, hml, hown, hts⟩ (c_L_act l hst dC dI cI h0 h0_1 h0_2 h0_3 h0_4 h0_5 h0_6 h0_7 h0_8 h0_9 h0_10 h0_11 h0_12 h0_13 h0_14 h0_15 h0_16 h0_17 h0_18 h0_19 h0_20 h0_21 h0_22 m_526 m_527 h0_25 h0_26 m_528 m_529 h0_29 h0_30 _ u_524 (7 : Int32) (0 : Int32) (0 : Int32) (2147483647 : Int32) _ h) (vx_cwSW 5 hts (goodIn_up gB_L_act) rfl rfl rfl (by decide +kernel) ⟨Nat.le_of_ble_eq_true rfl, Nat.le_of_ble_eq_true rfl⟩) (pbl_S hP hK hD hN hX hC hFc hS) rfl rfl hl.1 rfl (lv_room (Nat.le_of_ble_eq_true rfl)) dL_refuses_423 ⟨Nat.le_of_ble_eq_true rfl, Nat.le_of_ble_eq_true rfl⟩)) hS (fun q _ h => hFc q h) hFc (fun q _ h => h) (fun E9 ce9 q9 u t H locs ht hvm h hB hz1 hk1 hS hce hcv hcl => h.elim) (fun r_532 u_531 t H locs ht hvm h hB hz1 hk1 hS => ?_)
            obtain ⟨m_533, m_534, m_535, m_536, hP1, hD1⟩ := hB
            rw [ht] at hP1
            have hP : va_P (dC, dI) vwCl (lwO cI h0 h0_1 h0_2 h0_3 h0_4 h0_5 h0_6 h0_7 h0_8 h0_9 h0_10 h0_11 h0_12 h0_13 h0_14 h0_15 h0_16 h0_17 h0_18 h0_19 h0_20 h0_21 h0_22 m_533 m_534 h0_25 h0_26 m_535 m_536 h0_29 h0_30 u_531) H := hP1
            have hD : va_D A (lwO cI h0 h0_1 h0_2 h0_3 h0_4 h0_5 h0_6 h0_7 h0_8 h0_9 h0_10 h0_11 h0_12 h0_13 h0_14 h0_15 h0_16 h0_17 h0_18 h0_19 h0_20 h0_21 h0_22 m_533 m_534 h0_25 h0_26 m_535 m_536 h0_29 h0_30 u_531) := hD1.weaken (fun _ _ _ h => hFc _ h)
            refine W.widen (k := 134) (n := 804) (Nat.le_of_ble_eq_true rfl) (Nat.le_of_ble_eq_true rfl) ?_
            refine lv_bipush (v := (-92 : Int32)) hx hb dL_refuses_426 (by decide) ?_
            obtain ⟨ht_, hf_⟩ := h
            refine lv_icmp_ne (tgt := 547) hx hb dL_refuses_428 (by decide) (fun c_537 => ?_) (fun c_537 => ?_)
            · have h := ht_ c_537
              exact (show False from h).elim
            · have h := hf_ c_537
              refine lv_aload_n hx hb dL_refuses_431 rfl (lv_at hl 1 rfl) ?_
              refine lv_bipush (v := (8 : Int32)) hx hb dL_refuses_432 (by decide) ?_
              refine lv_iload hx hb dL_refuses_434 (lv_at hl 7 rfl) ?_
              refine lv_iconst (v := (1 : Int32)) hx hb dL_refuses_436 (by decide) ?_
              refine lv_icmp_ne (tgt := 444) hx hb dL_refuses_437 (by decide) (fun c_538 => ?_) (fun c_538 => absurd c_538 (by decide))
              refine lv_iload hx hb dL_refuses_444 (lv_at hl 8 rfl) ?_
              refine lv_iconst (v := (0 : Int32)) hx hb dL_refuses_446 (by decide) ?_
              refine lv_iconst (v := (0 : Int32)) hx hb dL_refuses_447 (by decide) ?_
              have hFc := frw hD hS hA
              refine vx_calli (SX := Unit) (px := fun _ => False) (BX := fun _ _ _ => True) (AX := A) (vx_runSX0 (vx_runSX (As := [.ref h0, .int (8 : Int32), .int (2147483647 : Int32), .int (0 : Int32), .int (0 : Int32)]) (rest := []) ⟨hx, hb, hml, hown, hts⟩ (c_L_act l hst dC dI cI h0 h0_1 h0_2 h0_3 h0_4 h0_5 h0_6 h0_7 h0_8 h0_9 h0_10 h0_11 h0_12 h0_13 h0_14 h0_15 h0_16 h0_17 h0_18 h0_19 h0_20 h0_21 h0_22 m_533 m_534 h0_25 h0_26 m_535 m_536 h0_29 h0_30 _ u_531 (8 : Int32) (2147483647 : Int32) (0 : Int32) (0 : Int32) _ h) (vx_cwSW 5 hts (goodIn_up gB_L_act) rfl rfl rfl (by decide +kernel) ⟨Nat.le_of_ble_eq_true rfl, Nat.le_of_ble_eq_true rfl⟩) (pbl_S hP hK hD hN hX hC hFc hS) rfl rfl hl.1 rfl (lv_room (Nat.le_of_ble_eq_true rfl)) dL_refuses_448 ⟨Nat.le_of_ble_eq_true rfl, Nat.le_of_ble_eq_true rfl⟩)) hS (fun q _ h => hFc q h) hFc (fun q _ h => h) (fun E9 ce9 q9 u t H locs ht hvm h hB hz1 hk1 hS hce hcv hcl => h.elim) (fun r_540 u_539 t H locs ht hvm h hB hz1 hk1 hS => ?_)
              obtain ⟨m_541, m_542, m_543, m_544, hP1, hD1⟩ := hB
              rw [ht] at hP1
              have hP : va_P (dC, dI) vwCl (lwO cI h0 h0_1 h0_2 h0_3 h0_4 h0_5 h0_6 h0_7 h0_8 h0_9 h0_10 h0_11 h0_12 h0_13 h0_14 h0_15 h0_16 h0_17 h0_18 h0_19 h0_20 h0_21 h0_22 m_541 m_542 h0_25 h0_26 m_543 m_544 h0_29 h0_30 u_539) H := hP1
              have hD : va_D A (lwO cI h0 h0_1 h0_2 h0_3 h0_4 h0_5 h0_6 h0_7 h0_8 h0_9 h0_10 h0_11 h0_12 h0_13 h0_14 h0_15 h0_16 h0_17 h0_18 h0_19 h0_20 h0_21 h0_22 m_541 m_542 h0_25 h0_26 m_543 m_544 h0_29 h0_30 u_539) := hD1.weaken (fun _ _ _ h => hFc _ h)
              refine W.widen (k := 136) (n := 816) (Nat.le_of_ble_eq_true rfl) (Nat.le_of_ble_eq_true rfl) ?_
              refine lv_bipush (v := (-91 : Int32)) hx hb dL_refuses_451 (by decide) ?_
              obtain ⟨ht_, hf_⟩ := h
              refine lv_icmp_ne (tgt := 547) hx hb dL_refuses_453 (by decide) (fun c_545 => ?_) (fun c_545 => ?_)
              · have h := ht_ c_545
                exact (show False from h).elim
              · have h := hf_ c_545
                have hl : lv_has ls 15 [(0, .ref h0), (1, .int v1), (2, .int v2), (3, .int v3), (4, .int v4), (5, .int (2147483647 : Int32)), (6, .int (2 : Int32)), (7, .int (2147483647 : Int32)), (12, .int (2147483647 : Int32))] := lv_sub hl [1, 2, 3, 4, 5, 6, 7, 8, 13] rfl
                refine W.widen (k := 136) (n := 816) (Nat.le_of_ble_eq_true rfl) (Nat.le_of_ble_eq_true rfl) ?_
                exact sg_L_refuses_11 l hst C0 hK hN hX hC hA h0_1 h0_2 h0_3 h0_4 h0_5 h0_6 h0_7 h0_8 h0_9 h0_10 h0_11 h0_12 h0_13 h0_14 h0_15 h0_16 h0_17 h0_18 h0_19 h0_20 h0_21 h0_22 h0_25 h0_26 h0_29 h0_30 _ u_539 v1 v2 v3 v4 h m_541 m_542 m_543 m_544 _ _ hP hD hS _ hl
set_option maxHeartbeats 4000000 in
set_option maxRecDepth 100000 in
theorem sg_L_refuses_9 (l : Launch) (hst : l.stackTraces = false) {p : Program} {e : Env} {s : State} {m : MethodId} {below : List Frame} {meth : Method} {c : Code} {h0 : Nat} (C0 : LC p s m (([.ref h0] : List Value).toArray) meth c cL_refuses 15 wq_refuses) {dC : Nat → ClassId} {dI : Nat → Nat → Nat} {cI : ClassId} (hK : va_K (dC, dI) vwCl [(cI, .int)] s) (hN : nk s) {A : Nat → Prop} (hX : xj A s) (hC : xnc s) (hA : ∀ q : Nat, s.heap.size ≤ q → A q) (h0_1 h0_2 h0_3 h0_4 h0_5 h0_6 h0_7 h0_8 h0_9 h0_10 h0_11 h0_12 h0_13 h0_14 h0_15 h0_16 h0_17 h0_18 h0_19 h0_20 h0_21 h0_22 h0_25 h0_26 h0_29 h0_30 : Nat) (post : Int32 → TriS → Prop) (s0 : TriS) (v1 : Int32) (v2 : Int32) (v3 : Int32) (v4 : Int32) (h : P_L_refuses_9 s0 v1 v2 v3 v4 post) (h0_23 h0_24 h0_27 h0_28 : Nat) (H : Heap) (locs : List Loc) (hP : va_P (dC, dI) vwCl (lwO cI h0 h0_1 h0_2 h0_3 h0_4 h0_5 h0_6 h0_7 h0_8 h0_9 h0_10 h0_11 h0_12 h0_13 h0_14 h0_15 h0_16 h0_17 h0_18 h0_19 h0_20 h0_21 h0_22 h0_23 h0_24 h0_25 h0_26 h0_27 h0_28 h0_29 h0_30 s0) H) (hD : va_D A (lwO cI h0 h0_1 h0_2 h0_3 h0_4 h0_5 h0_6 h0_7 h0_8 h0_9 h0_10 h0_11 h0_12 h0_13 h0_14 h0_15 h0_16 h0_17 h0_18 h0_19 h0_20 h0_21 h0_22 h0_23 h0_24 h0_25 h0_26 h0_27 h0_28 h0_29 h0_30 s0)) (hS : va_S A s.heap H locs) (ls : Array Slot) (hl : lv_has ls 15 [(0, .ref h0), (1, .int v1), (2, .int v2), (3, .int v3), (4, .int v4), (5, .int (2147483647 : Int32)), (6, .int (2 : Int32)), (7, .int (2147483647 : Int32)), (8, .int (2147483647 : Int32)), (9, .int (2147483647 : Int32)), (10, .int (2147483647 : Int32)), (11, .int (2147483647 : Int32)), (12, .int (2147483647 : Int32)), (14, .int (1 : Int32))]) : W p l e rm_L_refuses s m (([.ref h0] : List Value).toArray) below meth c H locs 108 648 (MQ below (Q_L_refuses dC dI cI h0 h0_1 h0_2 h0_3 h0_4 h0_5 h0_6 h0_7 h0_8 h0_9 h0_10 h0_11 h0_12 h0_13 h0_14 h0_15 h0_16 h0_17 h0_18 h0_19 h0_20 h0_21 h0_22 h0_23 h0_24 h0_25 h0_26 h0_27 h0_28 h0_29 h0_30 A post) (([.ref h0] : List Value).toArray) s mc_L_refuses ms_L_refuses A) (F0 m 194 ls []) := by
  obtain ⟨hx, hb, hr, hml, hown, hts, hlocks⟩ := id C0
  refine lv_iconst (v := (1 : Int32)) hx hb dL_refuses_194 (by decide) ?_
  refine lv_goto (tgt := 199) hx hb dL_refuses_195 (by decide) ?_
  refine lv_istore (lv' := [(13, .int (1 : Int32)), (0, .ref h0), (1, .int v1), (2, .int v2), (3, .int v3), (4, .int v4), (5, .int (2147483647 : Int32)), (6, .int (2 : Int32)), (7, .int (2147483647 : Int32)), (8, .int (2147483647 : Int32)), (9, .int (2147483647 : Int32)), (10, .int (2147483647 : Int32)), (11, .int (2147483647 : Int32)), (12, .int (2147483647 : Int32)), (14, .int (1 : Int32))]) hx hb dL_refuses_199 hl (by decide) rfl (fun ls hl => ?_)
  refine lv_iinc (v := (2 : Int32)) (lv' := [(14, .int (2 : Int32)), (13, .int (1 : Int32)), (0, .ref h0), (1, .int v1), (2, .int v2), (3, .int v3), (4, .int v4), (5, .int (2147483647 : Int32)), (6, .int (2 : Int32)), (7, .int (2147483647 : Int32)), (8, .int (2147483647 : Int32)), (9, .int (2147483647 : Int32)), (10, .int (2147483647 : Int32)), (11, .int (2147483647 : Int32)), (12, .int (2147483647 : Int32))]) hx hb dL_refuses_201 hl (k := 14) rfl (by decide) (by decide) rfl (fun ls hl => ?_)
  refine lv_goto (tgt := 138) hx hb dL_refuses_204 (by decide) ?_
  refine lv_iload hx hb dL_refuses_138 (lv_at hl 0 rfl) ?_
  refine lv_iconst (v := (2 : Int32)) hx hb dL_refuses_140 (by decide) ?_
  refine lv_icmp_ge (tgt := 207) hx hb dL_refuses_141 (by decide) (fun c_442 => ?_) (fun c_442 => absurd c_442 (by decide))
  refine lv_iload hx hb dL_refuses_207 (lv_at hl 1 rfl) ?_
  refine lv_if_eq (tgt := 378) hx hb dL_refuses_209 (by decide) (fun c_443 => absurd c_443 (by decide)) (fun c_443 => ?_)
  refine lv_aload_n hx hb dL_refuses_212 rfl (lv_at hl 2 rfl) ?_
  refine lv_iconst (v := (2 : Int32)) hx hb dL_refuses_213 (by decide) ?_
  refine lv_iload hx hb dL_refuses_214 (lv_at hl 13 rfl) ?_
  refine lv_iconst (v := (-1 : Int32)) hx hb dL_refuses_216 (by decide) ?_
  refine lv_iconst (v := (0 : Int32)) hx hb dL_refuses_217 (by decide) ?_
  have hFc := frw hD hS hA
  refine vx_calli (SX := Unit) (px := fun _ => False) (BX := fun _ _ _ => True) (AX := A) (vx_runSX0 (vx_runSX (As := [.ref h0, .int (2 : Int32), .int (2147483647 : Int32), .int (-1 : Int32), .int (0 : Int32)]) (rest := []) ⟨hx, hb, hml, hown, hts⟩ (c_L_act l hst dC dI cI h0 h0_1 h0_2 h0_3 h0_4 h0_5 h0_6 h0_7 h0_8 h0_9 h0_10 h0_11 h0_12 h0_13 h0_14 h0_15 h0_16 h0_17 h0_18 h0_19 h0_20 h0_21 h0_22 h0_23 h0_24 h0_25 h0_26 h0_27 h0_28 h0_29 h0_30 _ s0 (2 : Int32) (2147483647 : Int32) (-1 : Int32) (0 : Int32) _ h) (vx_cwSW 5 hts (goodIn_up gB_L_act) rfl rfl rfl (by decide +kernel) ⟨Nat.le_of_ble_eq_true rfl, Nat.le_of_ble_eq_true rfl⟩) (pbl_S hP hK hD hN hX hC hFc hS) rfl rfl hl.1 rfl (lv_room (Nat.le_of_ble_eq_true rfl)) dL_refuses_218 ⟨Nat.le_of_ble_eq_true rfl, Nat.le_of_ble_eq_true rfl⟩)) hS (fun q _ h => hFc q h) hFc (fun q _ h => h) (fun E9 ce9 q9 u t H locs ht hvm h hB hz1 hk1 hS hce hcv hcl => h.elim) (fun r_445 u_444 t H locs ht hvm h hB hz1 hk1 hS => ?_)
  obtain ⟨m_446, m_447, m_448, m_449, hP1, hD1⟩ := hB
  rw [ht] at hP1
  have hP : va_P (dC, dI) vwCl (lwO cI h0 h0_1 h0_2 h0_3 h0_4 h0_5 h0_6 h0_7 h0_8 h0_9 h0_10 h0_11 h0_12 h0_13 h0_14 h0_15 h0_16 h0_17 h0_18 h0_19 h0_20 h0_21 h0_22 m_446 m_447 h0_25 h0_26 m_448 m_449 h0_29 h0_30 u_444) H := hP1
  have hD : va_D A (lwO cI h0 h0_1 h0_2 h0_3 h0_4 h0_5 h0_6 h0_7 h0_8 h0_9 h0_10 h0_11 h0_12 h0_13 h0_14 h0_15 h0_16 h0_17 h0_18 h0_19 h0_20 h0_21 h0_22 m_446 m_447 h0_25 h0_26 m_448 m_449 h0_29 h0_30 u_444) := hD1.weaken (fun _ _ _ h => hFc _ h)
  refine W.widen (k := 110) (n := 660) (Nat.le_of_ble_eq_true rfl) (Nat.le_of_ble_eq_true rfl) ?_
  refine lv_bipush (v := (-92 : Int32)) hx hb dL_refuses_221 (by decide) ?_
  obtain ⟨ht_, hf_⟩ := h
  refine lv_icmp_ne (tgt := 378) hx hb dL_refuses_223 (by decide) (fun c_450 => ?_) (fun c_450 => ?_)
  · have h := ht_ c_450
    exact (show False from h).elim
  · have h := hf_ c_450
    refine lv_aload_n hx hb dL_refuses_226 rfl (lv_at hl 2 rfl) ?_
    refine lv_iconst (v := (2 : Int32)) hx hb dL_refuses_227 (by decide) ?_
    refine lv_iconst (v := (0 : Int32)) hx hb dL_refuses_228 (by decide) ?_
    refine lv_iconst (v := (-1 : Int32)) hx hb dL_refuses_229 (by decide) ?_
    refine lv_iload hx hb dL_refuses_230 (lv_at hl 13 rfl) ?_
    have hFc := frw hD hS hA
    refine vx_calli (SX := Unit) (px := fun _ => False) (BX := fun _ _ _ => True) (AX := A) (vx_runSX0 (vx_runSX (As := [.ref h0, .int (2 : Int32), .int (0 : Int32), .int (-1 : Int32), .int (2147483647 : Int32)]) (rest := []) ⟨hx, hb, hml, hown, hts⟩ (c_L_act l hst dC dI cI h0 h0_1 h0_2 h0_3 h0_4 h0_5 h0_6 h0_7 h0_8 h0_9 h0_10 h0_11 h0_12 h0_13 h0_14 h0_15 h0_16 h0_17 h0_18 h0_19 h0_20 h0_21 h0_22 m_446 m_447 h0_25 h0_26 m_448 m_449 h0_29 h0_30 _ u_444 (2 : Int32) (0 : Int32) (-1 : Int32) (2147483647 : Int32) _ h) (vx_cwSW 5 hts (goodIn_up gB_L_act) rfl rfl rfl (by decide +kernel) ⟨Nat.le_of_ble_eq_true rfl, Nat.le_of_ble_eq_true rfl⟩) (pbl_S hP hK hD hN hX hC hFc hS) rfl rfl hl.1 rfl (lv_room (Nat.le_of_ble_eq_true rfl)) dL_refuses_232 ⟨Nat.le_of_ble_eq_true rfl, Nat.le_of_ble_eq_true rfl⟩)) hS (fun q _ h => hFc q h) hFc (fun q _ h => h) (fun E9 ce9 q9 u t H locs ht hvm h hB hz1 hk1 hS hce hcv hcl => h.elim) (fun r_452 u_451 t H locs ht hvm h hB hz1 hk1 hS => ?_)
    obtain ⟨m_453, m_454, m_455, m_456, hP1, hD1⟩ := hB
    rw [ht] at hP1
    have hP : va_P (dC, dI) vwCl (lwO cI h0 h0_1 h0_2 h0_3 h0_4 h0_5 h0_6 h0_7 h0_8 h0_9 h0_10 h0_11 h0_12 h0_13 h0_14 h0_15 h0_16 h0_17 h0_18 h0_19 h0_20 h0_21 h0_22 m_453 m_454 h0_25 h0_26 m_455 m_456 h0_29 h0_30 u_451) H := hP1
    have hD : va_D A (lwO cI h0 h0_1 h0_2 h0_3 h0_4 h0_5 h0_6 h0_7 h0_8 h0_9 h0_10 h0_11 h0_12 h0_13 h0_14 h0_15 h0_16 h0_17 h0_18 h0_19 h0_20 h0_21 h0_22 m_453 m_454 h0_25 h0_26 m_455 m_456 h0_29 h0_30 u_451) := hD1.weaken (fun _ _ _ h => hFc _ h)
    refine W.widen (k := 112) (n := 672) (Nat.le_of_ble_eq_true rfl) (Nat.le_of_ble_eq_true rfl) ?_
    refine lv_bipush (v := (-92 : Int32)) hx hb dL_refuses_235 (by decide) ?_
    obtain ⟨ht_, hf_⟩ := h
    refine lv_icmp_ne (tgt := 378) hx hb dL_refuses_237 (by decide) (fun c_457 => ?_) (fun c_457 => ?_)
    · have h := ht_ c_457
      exact (show False from h).elim
    · have h := hf_ c_457
      refine lv_aload_n hx hb dL_refuses_240 rfl (lv_at hl 2 rfl) ?_
      refine lv_iconst (v := (2 : Int32)) hx hb dL_refuses_241 (by decide) ?_
      refine lv_iconst (v := (2 : Int32)) hx hb dL_refuses_242 (by decide) ?_
      refine lv_iload hx hb dL_refuses_243 (lv_at hl 8 rfl) ?_
      refine lv_iconst (v := (1 : Int32)) hx hb dL_refuses_245 (by decide) ?_
      refine lv_icmp_ne (tgt := 253) hx hb dL_refuses_246 (by decide) (fun c_458 => ?_) (fun c_458 => absurd c_458 (by decide))
      refine lv_iload hx hb dL_refuses_253 (lv_at hl 9 rfl) ?_
      refine lv_iconst (v := (2 : Int32)) hx hb dL_refuses_255 (by decide) ?_
      have hFc := frw hD hS hA
      refine vx_calli (SX := Unit) (px := fun _ => False) (BX := fun _ _ _ => True) (AX := A) (vx_runSX0 (vx_runSX (As := [.ref h0, .int (2 : Int32), .int (2 : Int32), .int (2147483647 : Int32), .int (2 : Int32)]) (rest := []) ⟨hx, hb, hml, hown, hts⟩ (c_L_act l hst dC dI cI h0 h0_1 h0_2 h0_3 h0_4 h0_5 h0_6 h0_7 h0_8 h0_9 h0_10 h0_11 h0_12 h0_13 h0_14 h0_15 h0_16 h0_17 h0_18 h0_19 h0_20 h0_21 h0_22 m_453 m_454 h0_25 h0_26 m_455 m_456 h0_29 h0_30 _ u_451 (2 : Int32) (2 : Int32) (2147483647 : Int32) (2 : Int32) _ h) (vx_cwSW 5 hts (goodIn_up gB_L_act) rfl rfl rfl (by decide +kernel) ⟨Nat.le_of_ble_eq_true rfl, Nat.le_of_ble_eq_true rfl⟩) (pbl_S hP hK hD hN hX hC hFc hS) rfl rfl hl.1 rfl (lv_room (Nat.le_of_ble_eq_true rfl)) dL_refuses_256 ⟨Nat.le_of_ble_eq_true rfl, Nat.le_of_ble_eq_true rfl⟩)) hS (fun q _ h => hFc q h) hFc (fun q _ h => h) (fun E9 ce9 q9 u t H locs ht hvm h hB hz1 hk1 hS hce hcv hcl => h.elim) (fun r_460 u_459 t H locs ht hvm h hB hz1 hk1 hS => ?_)
      obtain ⟨m_461, m_462, m_463, m_464, hP1, hD1⟩ := hB
      rw [ht] at hP1
      have hP : va_P (dC, dI) vwCl (lwO cI h0 h0_1 h0_2 h0_3 h0_4 h0_5 h0_6 h0_7 h0_8 h0_9 h0_10 h0_11 h0_12 h0_13 h0_14 h0_15 h0_16 h0_17 h0_18 h0_19 h0_20 h0_21 h0_22 m_461 m_462 h0_25 h0_26 m_463 m_464 h0_29 h0_30 u_459) H := hP1
      have hD : va_D A (lwO cI h0 h0_1 h0_2 h0_3 h0_4 h0_5 h0_6 h0_7 h0_8 h0_9 h0_10 h0_11 h0_12 h0_13 h0_14 h0_15 h0_16 h0_17 h0_18 h0_19 h0_20 h0_21 h0_22 m_461 m_462 h0_25 h0_26 m_463 m_464 h0_29 h0_30 u_459) := hD1.weaken (fun _ _ _ h => hFc _ h)
      refine W.widen (k := 114) (n := 684) (Nat.le_of_ble_eq_true rfl) (Nat.le_of_ble_eq_true rfl) ?_
      refine lv_bipush (v := (-91 : Int32)) hx hb dL_refuses_259 (by decide) ?_
      obtain ⟨ht_, hf_⟩ := h
      refine lv_icmp_ne (tgt := 378) hx hb dL_refuses_261 (by decide) (fun c_465 => ?_) (fun c_465 => ?_)
      · have h := ht_ c_465
        exact (show False from h).elim
      · have h := hf_ c_465
        refine lv_aload_n hx hb dL_refuses_264 rfl (lv_at hl 2 rfl) ?_
        refine lv_iconst (v := (3 : Int32)) hx hb dL_refuses_265 (by decide) ?_
        refine lv_iload hx hb dL_refuses_266 (lv_at hl 10 rfl) ?_
        refine lv_iconst (v := (0 : Int32)) hx hb dL_refuses_268 (by decide) ?_
        refine lv_iconst (v := (0 : Int32)) hx hb dL_refuses_269 (by decide) ?_
        have hFc := frw hD hS hA
        refine vx_calli (SX := Unit) (px := fun _ => False) (BX := fun _ _ _ => True) (AX := A) (vx_runSX0 (vx_runSX (As := [.ref h0, .int (3 : Int32), .int (2147483647 : Int32), .int (0 : Int32), .int (0 : Int32)]) (rest := []) ⟨hx, hb, hml, hown, hts⟩ (c_L_act l hst dC dI cI h0 h0_1 h0_2 h0_3 h0_4 h0_5 h0_6 h0_7 h0_8 h0_9 h0_10 h0_11 h0_12 h0_13 h0_14 h0_15 h0_16 h0_17 h0_18 h0_19 h0_20 h0_21 h0_22 m_461 m_462 h0_25 h0_26 m_463 m_464 h0_29 h0_30 _ u_459 (3 : Int32) (2147483647 : Int32) (0 : Int32) (0 : Int32) _ h) (vx_cwSW 5 hts (goodIn_up gB_L_act) rfl rfl rfl (by decide +kernel) ⟨Nat.le_of_ble_eq_true rfl, Nat.le_of_ble_eq_true rfl⟩) (pbl_S hP hK hD hN hX hC hFc hS) rfl rfl hl.1 rfl (lv_room (Nat.le_of_ble_eq_true rfl)) dL_refuses_270 ⟨Nat.le_of_ble_eq_true rfl, Nat.le_of_ble_eq_true rfl⟩)) hS (fun q _ h => hFc q h) hFc (fun q _ h => h) (fun E9 ce9 q9 u t H locs ht hvm h hB hz1 hk1 hS hce hcv hcl => h.elim) (fun r_467 u_466 t H locs ht hvm h hB hz1 hk1 hS => ?_)
        obtain ⟨m_468, m_469, m_470, m_471, hP1, hD1⟩ := hB
        rw [ht] at hP1
        have hP : va_P (dC, dI) vwCl (lwO cI h0 h0_1 h0_2 h0_3 h0_4 h0_5 h0_6 h0_7 h0_8 h0_9 h0_10 h0_11 h0_12 h0_13 h0_14 h0_15 h0_16 h0_17 h0_18 h0_19 h0_20 h0_21 h0_22 m_468 m_469 h0_25 h0_26 m_470 m_471 h0_29 h0_30 u_466) H := hP1
        have hD : va_D A (lwO cI h0 h0_1 h0_2 h0_3 h0_4 h0_5 h0_6 h0_7 h0_8 h0_9 h0_10 h0_11 h0_12 h0_13 h0_14 h0_15 h0_16 h0_17 h0_18 h0_19 h0_20 h0_21 h0_22 m_468 m_469 h0_25 h0_26 m_470 m_471 h0_29 h0_30 u_466) := hD1.weaken (fun _ _ _ h => hFc _ h)
        refine W.widen (k := 116) (n := 696) (Nat.le_of_ble_eq_true rfl) (Nat.le_of_ble_eq_true rfl) ?_
        refine lv_bipush (v := (-92 : Int32)) hx hb dL_refuses_273 (by decide) ?_
        obtain ⟨ht_, hf_⟩ := h
        refine lv_icmp_ne (tgt := 378) hx hb dL_refuses_275 (by decide) (fun c_472 => ?_) (fun c_472 => ?_)
        · have h := ht_ c_472
          exact (show False from h).elim
        · have h := hf_ c_472
          refine lv_aload_n hx hb dL_refuses_278 rfl (lv_at hl 2 rfl) ?_
          refine lv_iconst (v := (4 : Int32)) hx hb dL_refuses_279 (by decide) ?_
          refine lv_iload hx hb dL_refuses_280 (lv_at hl 8 rfl) ?_
          refine lv_iconst (v := (1 : Int32)) hx hb dL_refuses_282 (by decide) ?_
          refine lv_icmp_ne (tgt := 290) hx hb dL_refuses_283 (by decide) (fun c_473 => ?_) (fun c_473 => absurd c_473 (by decide))
          refine lv_iload hx hb dL_refuses_290 (lv_at hl 9 rfl) ?_
          refine lv_iconst (v := (0 : Int32)) hx hb dL_refuses_292 (by decide) ?_
          refine lv_iconst (v := (0 : Int32)) hx hb dL_refuses_293 (by decide) ?_
          have hFc := frw hD hS hA
          refine vx_calli (SX := Unit) (px := fun _ => False) (BX := fun _ _ _ => True) (AX := A) (vx_runSX0 (vx_runSX (As := [.ref h0, .int (4 : Int32), .int (2147483647 : Int32), .int (0 : Int32), .int (0 : Int32)]) (rest := []) ⟨hx, hb, hml, hown, hts⟩ (c_L_act l hst dC dI cI h0 h0_1 h0_2 h0_3 h0_4 h0_5 h0_6 h0_7 h0_8 h0_9 h0_10 h0_11 h0_12 h0_13 h0_14 h0_15 h0_16 h0_17 h0_18 h0_19 h0_20 h0_21 h0_22 m_468 m_469 h0_25 h0_26 m_470 m_471 h0_29 h0_30 _ u_466 (4 : Int32) (2147483647 : Int32) (0 : Int32) (0 : Int32) _ h) (vx_cwSW 5 hts (goodIn_up gB_L_act) rfl rfl rfl (by decide +kernel) ⟨Nat.le_of_ble_eq_true rfl, Nat.le_of_ble_eq_true rfl⟩) (pbl_S hP hK hD hN hX hC hFc hS) rfl rfl hl.1 rfl (lv_room (Nat.le_of_ble_eq_true rfl)) dL_refuses_294 ⟨Nat.le_of_ble_eq_true rfl, Nat.le_of_ble_eq_true rfl⟩)) hS (fun q _ h => hFc q h) hFc (fun q _ h => h) (fun E9 ce9 q9 u t H locs ht hvm h hB hz1 hk1 hS hce hcv hcl => h.elim) (fun r_475 u_474 t H locs ht hvm h hB hz1 hk1 hS => ?_)
          obtain ⟨m_476, m_477, m_478, m_479, hP1, hD1⟩ := hB
          rw [ht] at hP1
          have hP : va_P (dC, dI) vwCl (lwO cI h0 h0_1 h0_2 h0_3 h0_4 h0_5 h0_6 h0_7 h0_8 h0_9 h0_10 h0_11 h0_12 h0_13 h0_14 h0_15 h0_16 h0_17 h0_18 h0_19 h0_20 h0_21 h0_22 m_476 m_477 h0_25 h0_26 m_478 m_479 h0_29 h0_30 u_474) H := hP1
          have hD : va_D A (lwO cI h0 h0_1 h0_2 h0_3 h0_4 h0_5 h0_6 h0_7 h0_8 h0_9 h0_10 h0_11 h0_12 h0_13 h0_14 h0_15 h0_16 h0_17 h0_18 h0_19 h0_20 h0_21 h0_22 m_476 m_477 h0_25 h0_26 m_478 m_479 h0_29 h0_30 u_474) := hD1.weaken (fun _ _ _ h => hFc _ h)
          refine W.widen (k := 118) (n := 708) (Nat.le_of_ble_eq_true rfl) (Nat.le_of_ble_eq_true rfl) ?_
          refine lv_bipush (v := (-91 : Int32)) hx hb dL_refuses_297 (by decide) ?_
          obtain ⟨ht_, hf_⟩ := h
          refine lv_icmp_ne (tgt := 378) hx hb dL_refuses_299 (by decide) (fun c_480 => ?_) (fun c_480 => ?_)
          · have h := ht_ c_480
            exact (show False from h).elim
          · have h := hf_ c_480
            refine lv_aload_n hx hb dL_refuses_302 rfl (lv_at hl 2 rfl) ?_
            refine lv_iconst (v := (5 : Int32)) hx hb dL_refuses_303 (by decide) ?_
            refine lv_iload hx hb dL_refuses_304 (lv_at hl 11 rfl) ?_
            refine lv_iconst (v := (0 : Int32)) hx hb dL_refuses_306 (by decide) ?_
            refine lv_iconst (v := (0 : Int32)) hx hb dL_refuses_307 (by decide) ?_
            have hFc := frw hD hS hA
            refine vx_calli (SX := Unit) (px := fun _ => False) (BX := fun _ _ _ => True) (AX := A) (vx_runSX0 (vx_runSX (As := [.ref h0, .int (5 : Int32), .int (2147483647 : Int32), .int (0 : Int32), .int (0 : Int32)]) (rest := []) ⟨hx, hb, hml, hown, hts⟩ (c_L_act l hst dC dI cI h0 h0_1 h0_2 h0_3 h0_4 h0_5 h0_6 h0_7 h0_8 h0_9 h0_10 h0_11 h0_12 h0_13 h0_14 h0_15 h0_16 h0_17 h0_18 h0_19 h0_20 h0_21 h0_22 m_476 m_477 h0_25 h0_26 m_478 m_479 h0_29 h0_30 _ u_474 (5 : Int32) (2147483647 : Int32) (0 : Int32) (0 : Int32) _ h) (vx_cwSW 5 hts (goodIn_up gB_L_act) rfl rfl rfl (by decide +kernel) ⟨Nat.le_of_ble_eq_true rfl, Nat.le_of_ble_eq_true rfl⟩) (pbl_S hP hK hD hN hX hC hFc hS) rfl rfl hl.1 rfl (lv_room (Nat.le_of_ble_eq_true rfl)) dL_refuses_308 ⟨Nat.le_of_ble_eq_true rfl, Nat.le_of_ble_eq_true rfl⟩)) hS (fun q _ h => hFc q h) hFc (fun q _ h => h) (fun E9 ce9 q9 u t H locs ht hvm h hB hz1 hk1 hS hce hcv hcl => h.elim) (fun r_482 u_481 t H locs ht hvm h hB hz1 hk1 hS => ?_)
            obtain ⟨m_483, m_484, m_485, m_486, hP1, hD1⟩ := hB
            rw [ht] at hP1
            have hP : va_P (dC, dI) vwCl (lwO cI h0 h0_1 h0_2 h0_3 h0_4 h0_5 h0_6 h0_7 h0_8 h0_9 h0_10 h0_11 h0_12 h0_13 h0_14 h0_15 h0_16 h0_17 h0_18 h0_19 h0_20 h0_21 h0_22 m_483 m_484 h0_25 h0_26 m_485 m_486 h0_29 h0_30 u_481) H := hP1
            have hD : va_D A (lwO cI h0 h0_1 h0_2 h0_3 h0_4 h0_5 h0_6 h0_7 h0_8 h0_9 h0_10 h0_11 h0_12 h0_13 h0_14 h0_15 h0_16 h0_17 h0_18 h0_19 h0_20 h0_21 h0_22 m_483 m_484 h0_25 h0_26 m_485 m_486 h0_29 h0_30 u_481) := hD1.weaken (fun _ _ _ h => hFc _ h)
            refine W.widen (k := 120) (n := 720) (Nat.le_of_ble_eq_true rfl) (Nat.le_of_ble_eq_true rfl) ?_
            refine lv_bipush (v := (-92 : Int32)) hx hb dL_refuses_311 (by decide) ?_
            obtain ⟨ht_, hf_⟩ := h
            refine lv_icmp_ne (tgt := 378) hx hb dL_refuses_313 (by decide) (fun c_487 => ?_) (fun c_487 => ?_)
            · have h := ht_ c_487
              exact (show False from h).elim
            · have h := hf_ c_487
              refine lv_aload_n hx hb dL_refuses_316 rfl (lv_at hl 2 rfl) ?_
              refine lv_iconst (v := (5 : Int32)) hx hb dL_refuses_317 (by decide) ?_
              refine lv_iconst (v := (0 : Int32)) hx hb dL_refuses_318 (by decide) ?_
              refine lv_iload hx hb dL_refuses_319 (lv_at hl 11 rfl) ?_
              refine lv_iconst (v := (0 : Int32)) hx hb dL_refuses_321 (by decide) ?_
              have hFc := frw hD hS hA
              refine vx_calli (SX := Unit) (px := fun _ => False) (BX := fun _ _ _ => True) (AX := A) (vx_runSX0 (vx_runSX (As := [.ref h0, .int (5 : Int32), .int (0 : Int32), .int (2147483647 : Int32), .int (0 : Int32)]) (rest := []) ⟨hx, hb, hml, hown, hts⟩ (c_L_act l hst dC dI cI h0 h0_1 h0_2 h0_3 h0_4 h0_5 h0_6 h0_7 h0_8 h0_9 h0_10 h0_11 h0_12 h0_13 h0_14 h0_15 h0_16 h0_17 h0_18 h0_19 h0_20 h0_21 h0_22 m_483 m_484 h0_25 h0_26 m_485 m_486 h0_29 h0_30 _ u_481 (5 : Int32) (0 : Int32) (2147483647 : Int32) (0 : Int32) _ h) (vx_cwSW 5 hts (goodIn_up gB_L_act) rfl rfl rfl (by decide +kernel) ⟨Nat.le_of_ble_eq_true rfl, Nat.le_of_ble_eq_true rfl⟩) (pbl_S hP hK hD hN hX hC hFc hS) rfl rfl hl.1 rfl (lv_room (Nat.le_of_ble_eq_true rfl)) dL_refuses_322 ⟨Nat.le_of_ble_eq_true rfl, Nat.le_of_ble_eq_true rfl⟩)) hS (fun q _ h => hFc q h) hFc (fun q _ h => h) (fun E9 ce9 q9 u t H locs ht hvm h hB hz1 hk1 hS hce hcv hcl => h.elim) (fun r_489 u_488 t H locs ht hvm h hB hz1 hk1 hS => ?_)
              obtain ⟨m_490, m_491, m_492, m_493, hP1, hD1⟩ := hB
              rw [ht] at hP1
              have hP : va_P (dC, dI) vwCl (lwO cI h0 h0_1 h0_2 h0_3 h0_4 h0_5 h0_6 h0_7 h0_8 h0_9 h0_10 h0_11 h0_12 h0_13 h0_14 h0_15 h0_16 h0_17 h0_18 h0_19 h0_20 h0_21 h0_22 m_490 m_491 h0_25 h0_26 m_492 m_493 h0_29 h0_30 u_488) H := hP1
              have hD : va_D A (lwO cI h0 h0_1 h0_2 h0_3 h0_4 h0_5 h0_6 h0_7 h0_8 h0_9 h0_10 h0_11 h0_12 h0_13 h0_14 h0_15 h0_16 h0_17 h0_18 h0_19 h0_20 h0_21 h0_22 m_490 m_491 h0_25 h0_26 m_492 m_493 h0_29 h0_30 u_488) := hD1.weaken (fun _ _ _ h => hFc _ h)
              refine W.widen (k := 122) (n := 732) (Nat.le_of_ble_eq_true rfl) (Nat.le_of_ble_eq_true rfl) ?_
              refine lv_bipush (v := (-92 : Int32)) hx hb dL_refuses_325 (by decide) ?_
              obtain ⟨ht_, hf_⟩ := h
              refine lv_icmp_ne (tgt := 378) hx hb dL_refuses_327 (by decide) (fun c_494 => ?_) (fun c_494 => ?_)
              · have h := ht_ c_494
                exact (show False from h).elim
              · have h := hf_ c_494
                have hl : lv_has ls 15 [(0, .ref h0), (1, .int v1), (2, .int v2), (3, .int v3), (4, .int v4), (5, .int (2147483647 : Int32)), (6, .int (2 : Int32)), (7, .int (2147483647 : Int32)), (8, .int (2147483647 : Int32)), (9, .int (2147483647 : Int32)), (10, .int (2147483647 : Int32)), (11, .int (2147483647 : Int32)), (12, .int (2147483647 : Int32))] := lv_sub hl [2, 3, 4, 5, 6, 7, 8, 9, 10, 11, 12, 13, 14] rfl
                refine W.widen (k := 122) (n := 732) (Nat.le_of_ble_eq_true rfl) (Nat.le_of_ble_eq_true rfl) ?_
                exact sg_L_refuses_10 l hst C0 hK hN hX hC hA h0_1 h0_2 h0_3 h0_4 h0_5 h0_6 h0_7 h0_8 h0_9 h0_10 h0_11 h0_12 h0_13 h0_14 h0_15 h0_16 h0_17 h0_18 h0_19 h0_20 h0_21 h0_22 h0_25 h0_26 h0_29 h0_30 _ u_488 v1 v2 v3 v4 h m_490 m_491 m_492 m_493 _ _ hP hD hS _ hl
set_option maxHeartbeats 4000000 in
set_option maxRecDepth 100000 in
theorem sg_L_refuses_8 (l : Launch) (hst : l.stackTraces = false) {p : Program} {e : Env} {s : State} {m : MethodId} {below : List Frame} {meth : Method} {c : Code} {h0 : Nat} (C0 : LC p s m (([.ref h0] : List Value).toArray) meth c cL_refuses 15 wq_refuses) {dC : Nat → ClassId} {dI : Nat → Nat → Nat} {cI : ClassId} (hK : va_K (dC, dI) vwCl [(cI, .int)] s) (hN : nk s) {A : Nat → Prop} (hX : xj A s) (hC : xnc s) (hA : ∀ q : Nat, s.heap.size ≤ q → A q) (h0_1 h0_2 h0_3 h0_4 h0_5 h0_6 h0_7 h0_8 h0_9 h0_10 h0_11 h0_12 h0_13 h0_14 h0_15 h0_16 h0_17 h0_18 h0_19 h0_20 h0_21 h0_22 h0_25 h0_26 h0_29 h0_30 : Nat) (post : Int32 → TriS → Prop) (s0 : TriS) (v1 : Int32) (v2 : Int32) (v3 : Int32) (v4 : Int32) (h : P_L_refuses_8 s0 v1 v2 v3 v4 post) (h0_23 h0_24 h0_27 h0_28 : Nat) (H : Heap) (locs : List Loc) (hP : va_P (dC, dI) vwCl (lwO cI h0 h0_1 h0_2 h0_3 h0_4 h0_5 h0_6 h0_7 h0_8 h0_9 h0_10 h0_11 h0_12 h0_13 h0_14 h0_15 h0_16 h0_17 h0_18 h0_19 h0_20 h0_21 h0_22 h0_23 h0_24 h0_25 h0_26 h0_27 h0_28 h0_29 h0_30 s0) H) (hD : va_D A (lwO cI h0 h0_1 h0_2 h0_3 h0_4 h0_5 h0_6 h0_7 h0_8 h0_9 h0_10 h0_11 h0_12 h0_13 h0_14 h0_15 h0_16 h0_17 h0_18 h0_19 h0_20 h0_21 h0_22 h0_23 h0_24 h0_25 h0_26 h0_27 h0_28 h0_29 h0_30 s0)) (hS : va_S A s.heap H locs) (ls : Array Slot) (hl : lv_has ls 15 [(0, .ref h0), (1, .int v1), (2, .int v2), (3, .int v3), (4, .int v4), (5, .int (2147483647 : Int32)), (6, .int (1 : Int32)), (12, .int (4 : Int32))]) : W p l e rm_L_refuses s m (([.ref h0] : List Value).toArray) below meth c H locs 94 564 (MQ below (Q_L_refuses dC dI cI h0 h0_1 h0_2 h0_3 h0_4 h0_5 h0_6 h0_7 h0_8 h0_9 h0_10 h0_11 h0_12 h0_13 h0_14 h0_15 h0_16 h0_17 h0_18 h0_19 h0_20 h0_21 h0_22 h0_23 h0_24 h0_25 h0_26 h0_27 h0_28 h0_29 h0_30 A post) (([.ref h0] : List Value).toArray) s mc_L_refuses ms_L_refuses A) (F0 m 528 ls []) := by
  obtain ⟨hx, hb, hr, hml, hown, hts, hlocks⟩ := id C0
  refine lv_aload_n hx hb dL_refuses_528 rfl (lv_at hl 0 rfl) ?_
  refine lv_bipush (v := (14 : Int32)) hx hb dL_refuses_529 (by decide) ?_
  refine lv_iload hx hb dL_refuses_531 (lv_at hl 7 rfl) ?_
  refine lv_iconst (v := (0 : Int32)) hx hb dL_refuses_533 (by decide) ?_
  refine lv_iconst (v := (0 : Int32)) hx hb dL_refuses_534 (by decide) ?_
  have hFc := frw hD hS hA
  refine vx_calli (SX := Unit) (px := fun _ => False) (BX := fun _ _ _ => True) (AX := A) (vx_runSX0 (vx_runSX (As := [.ref h0, .int (14 : Int32), .int (4 : Int32), .int (0 : Int32), .int (0 : Int32)]) (rest := []) ⟨hx, hb, hml, hown, hts⟩ (c_L_act l hst dC dI cI h0 h0_1 h0_2 h0_3 h0_4 h0_5 h0_6 h0_7 h0_8 h0_9 h0_10 h0_11 h0_12 h0_13 h0_14 h0_15 h0_16 h0_17 h0_18 h0_19 h0_20 h0_21 h0_22 h0_23 h0_24 h0_25 h0_26 h0_27 h0_28 h0_29 h0_30 _ s0 (14 : Int32) (4 : Int32) (0 : Int32) (0 : Int32) _ h) (vx_cwSW 5 hts (goodIn_up gB_L_act) rfl rfl rfl (by decide +kernel) ⟨Nat.le_of_ble_eq_true rfl, Nat.le_of_ble_eq_true rfl⟩) (pbl_S hP hK hD hN hX hC hFc hS) rfl rfl hl.1 rfl (lv_room (Nat.le_of_ble_eq_true rfl)) dL_refuses_535 ⟨Nat.le_of_ble_eq_true rfl, Nat.le_of_ble_eq_true rfl⟩)) hS (fun q _ h => hFc q h) hFc (fun q _ h => h) (fun E9 ce9 q9 u t H locs ht hvm h hB hz1 hk1 hS hce hcv hcl => h.elim) (fun r_381 u_380 t H locs ht hvm h hB hz1 hk1 hS => ?_)
  obtain ⟨m_382, m_383, m_384, m_385, hP1, hD1⟩ := hB
  rw [ht] at hP1
  have hP : va_P (dC, dI) vwCl (lwO cI h0 h0_1 h0_2 h0_3 h0_4 h0_5 h0_6 h0_7 h0_8 h0_9 h0_10 h0_11 h0_12 h0_13 h0_14 h0_15 h0_16 h0_17 h0_18 h0_19 h0_20 h0_21 h0_22 m_382 m_383 h0_25 h0_26 m_384 m_385 h0_29 h0_30 u_380) H := hP1
  have hD : va_D A (lwO cI h0 h0_1 h0_2 h0_3 h0_4 h0_5 h0_6 h0_7 h0_8 h0_9 h0_10 h0_11 h0_12 h0_13 h0_14 h0_15 h0_16 h0_17 h0_18 h0_19 h0_20 h0_21 h0_22 m_382 m_383 h0_25 h0_26 m_384 m_385 h0_29 h0_30 u_380) := hD1.weaken (fun _ _ _ h => hFc _ h)
  refine W.widen (k := 96) (n := 576) (Nat.le_of_ble_eq_true rfl) (Nat.le_of_ble_eq_true rfl) ?_
  refine lv_bipush (v := (-92 : Int32)) hx hb dL_refuses_538 (by decide) ?_
  obtain ⟨ht_, hf_⟩ := h
  refine lv_icmp_ne (tgt := 547) hx hb dL_refuses_540 (by decide) (fun c_386 => ?_) (fun c_386 => ?_)
  · have h := ht_ c_386
    exact (show False from h).elim
  · have h := hf_ c_386
    refine lv_iconst (v := (1 : Int32)) hx hb dL_refuses_543 (by decide) ?_
    refine lv_goto (tgt := 548) hx hb dL_refuses_544 (by decide) ?_
    refine lv_istore (lv' := [(13, .int (1 : Int32)), (0, .ref h0), (1, .int v1), (2, .int v2), (3, .int v3), (4, .int v4), (5, .int (2147483647 : Int32)), (6, .int (1 : Int32)), (12, .int (4 : Int32))]) hx hb dL_refuses_548 hl (by decide) rfl (fun ls hl => ?_)
    refine lv_iload hx hb dL_refuses_550 (lv_at hl 0 rfl) ?_
    refine lv_if_ne (tgt := 557) hx hb dL_refuses_552 (by decide) (fun c_387 => ?_) (fun c_387 => absurd c_387 (by decide))
    refine lv_iinc (v := (2 : Int32)) (lv' := [(6, .int (2 : Int32)), (13, .int (1 : Int32)), (0, .ref h0), (1, .int v1), (2, .int v2), (3, .int v3), (4, .int v4), (5, .int (2147483647 : Int32)), (12, .int (4 : Int32))]) hx hb dL_refuses_557 hl (k := 7) rfl (by decide) (by decide) rfl (fun ls hl => ?_)
    refine lv_goto (tgt := 28) hx hb dL_refuses_560 (by decide) ?_
    refine lv_iload hx hb dL_refuses_28 (lv_at hl 0 rfl) ?_
    refine lv_iconst (v := (4 : Int32)) hx hb dL_refuses_30 (by decide) ?_
    refine lv_icmp_ge (tgt := 563) hx hb dL_refuses_31 (by decide) (fun c_388 => absurd c_388 (by decide)) (fun c_388 => ?_)
    refine lv_iload hx hb dL_refuses_34 (lv_at hl 0 rfl) ?_
    refine lv_if_ne (tgt := 43) hx hb dL_refuses_36 (by decide) (fun c_389 => ?_) (fun c_389 => absurd c_389 (by decide))
    refine lv_iload hx hb dL_refuses_43 (lv_at hl 0 rfl) ?_
    refine lv_iconst (v := (2 : Int32)) hx hb dL_refuses_45 (by decide) ?_
    refine lv_icmp_ne (tgt := 54) hx hb dL_refuses_46 (by decide) (fun c_390 => absurd c_390 (by decide)) (fun c_390 => ?_)
    refine lv_iload hx hb dL_refuses_49 (lv_at hl 7 rfl) ?_
    refine lv_goto (tgt := 59) hx hb dL_refuses_51 (by decide) ?_
    refine lv_istore (lv' := [(7, .int (2147483647 : Int32)), (6, .int (2 : Int32)), (13, .int (1 : Int32)), (0, .ref h0), (1, .int v1), (2, .int v2), (3, .int v3), (4, .int v4), (5, .int (2147483647 : Int32)), (12, .int (4 : Int32))]) hx hb dL_refuses_59 hl (by decide) rfl (fun ls hl => ?_)
    refine lv_iload hx hb dL_refuses_61 (lv_at hl 1 rfl) ?_
    refine lv_iconst (v := (1 : Int32)) hx hb dL_refuses_63 (by decide) ?_
    refine lv_icmp_ne (tgt := 72) hx hb dL_refuses_64 (by decide) (fun c_391 => ?_) (fun c_391 => absurd c_391 (by decide))
    refine lv_iload hx hb dL_refuses_72 (lv_at hl 0 rfl) ?_
    refine lv_istore (lv' := [(8, .int (2147483647 : Int32)), (7, .int (2147483647 : Int32)), (6, .int (2 : Int32)), (13, .int (1 : Int32)), (0, .ref h0), (1, .int v1), (2, .int v2), (3, .int v3), (4, .int v4), (5, .int (2147483647 : Int32)), (12, .int (4 : Int32))]) hx hb dL_refuses_74 hl (by decide) rfl (fun ls hl => ?_)
    refine lv_iload hx hb dL_refuses_76 (lv_at hl 2 rfl) ?_
    refine lv_if_ne (tgt := 86) hx hb dL_refuses_78 (by decide) (fun c_392 => ?_) (fun c_392 => absurd c_392 (by decide))
    refine lv_iload hx hb dL_refuses_86 (lv_at hl 0 rfl) ?_
    refine lv_istore (lv' := [(9, .int (2147483647 : Int32)), (8, .int (2147483647 : Int32)), (7, .int (2147483647 : Int32)), (6, .int (2 : Int32)), (13, .int (1 : Int32)), (0, .ref h0), (1, .int v1), (2, .int v2), (3, .int v3), (4, .int v4), (5, .int (2147483647 : Int32)), (12, .int (4 : Int32))]) hx hb dL_refuses_88 hl (by decide) rfl (fun ls hl => ?_)
    refine lv_iload hx hb dL_refuses_90 (lv_at hl 3 rfl) ?_
    refine lv_if_ne (tgt := 100) hx hb dL_refuses_92 (by decide) (fun c_393 => ?_) (fun c_393 => absurd c_393 (by decide))
    refine lv_iload hx hb dL_refuses_100 (lv_at hl 1 rfl) ?_
    refine lv_istore (lv' := [(10, .int (2147483647 : Int32)), (9, .int (2147483647 : Int32)), (8, .int (2147483647 : Int32)), (7, .int (2147483647 : Int32)), (6, .int (2 : Int32)), (13, .int (1 : Int32)), (0, .ref h0), (1, .int v1), (2, .int v2), (3, .int v3), (4, .int v4), (5, .int (2147483647 : Int32)), (12, .int (4 : Int32))]) hx hb dL_refuses_102 hl (by decide) rfl (fun ls hl => ?_)
    refine lv_iload hx hb dL_refuses_104 (lv_at hl 4 rfl) ?_
    refine lv_iconst (v := (1 : Int32)) hx hb dL_refuses_106 (by decide) ?_
    refine lv_icmp_ne (tgt := 114) hx hb dL_refuses_107 (by decide) (fun c_394 => ?_) (fun c_394 => absurd c_394 (by decide))
    refine lv_iload hx hb dL_refuses_114 (lv_at hl 3 rfl) ?_
    refine lv_istore (lv' := [(11, .int (2147483647 : Int32)), (10, .int (2147483647 : Int32)), (9, .int (2147483647 : Int32)), (8, .int (2147483647 : Int32)), (7, .int (2147483647 : Int32)), (6, .int (2 : Int32)), (13, .int (1 : Int32)), (0, .ref h0), (1, .int v1), (2, .int v2), (3, .int v3), (4, .int v4), (5, .int (2147483647 : Int32)), (12, .int (4 : Int32))]) hx hb dL_refuses_116 hl (by decide) rfl (fun ls hl => ?_)
    refine lv_iload hx hb dL_refuses_118 (lv_at hl 5 rfl) ?_
    refine lv_iconst (v := (1 : Int32)) hx hb dL_refuses_120 (by decide) ?_
    refine lv_icmp_ne (tgt := 128) hx hb dL_refuses_121 (by decide) (fun c_395 => ?_) (fun c_395 => absurd c_395 (by decide))
    refine lv_iload hx hb dL_refuses_128 (lv_at hl 4 rfl) ?_
    refine lv_istore (lv' := [(12, .int (2147483647 : Int32)), (11, .int (2147483647 : Int32)), (10, .int (2147483647 : Int32)), (9, .int (2147483647 : Int32)), (8, .int (2147483647 : Int32)), (7, .int (2147483647 : Int32)), (6, .int (2 : Int32)), (13, .int (1 : Int32)), (0, .ref h0), (1, .int v1), (2, .int v2), (3, .int v3), (4, .int v4), (5, .int (2147483647 : Int32))]) hx hb dL_refuses_130 hl (by decide) rfl (fun ls hl => ?_)
    refine lv_iconst (v := (1 : Int32)) hx hb dL_refuses_132 (by decide) ?_
    refine lv_istore (lv' := [(13, .int (1 : Int32)), (12, .int (2147483647 : Int32)), (11, .int (2147483647 : Int32)), (10, .int (2147483647 : Int32)), (9, .int (2147483647 : Int32)), (8, .int (2147483647 : Int32)), (7, .int (2147483647 : Int32)), (6, .int (2 : Int32)), (0, .ref h0), (1, .int v1), (2, .int v2), (3, .int v3), (4, .int v4), (5, .int (2147483647 : Int32))]) hx hb dL_refuses_133 hl (by decide) rfl (fun ls hl => ?_)
    refine lv_iconst (v := (0 : Int32)) hx hb dL_refuses_135 (by decide) ?_
    refine lv_istore (lv' := [(14, .int (0 : Int32)), (13, .int (1 : Int32)), (12, .int (2147483647 : Int32)), (11, .int (2147483647 : Int32)), (10, .int (2147483647 : Int32)), (9, .int (2147483647 : Int32)), (8, .int (2147483647 : Int32)), (7, .int (2147483647 : Int32)), (6, .int (2 : Int32)), (0, .ref h0), (1, .int v1), (2, .int v2), (3, .int v3), (4, .int v4), (5, .int (2147483647 : Int32))]) hx hb dL_refuses_136 hl (by decide) rfl (fun ls hl => ?_)
    refine lv_iload hx hb dL_refuses_138 (lv_at hl 0 rfl) ?_
    refine lv_iconst (v := (2 : Int32)) hx hb dL_refuses_140 (by decide) ?_
    refine lv_icmp_ge (tgt := 207) hx hb dL_refuses_141 (by decide) (fun c_396 => absurd c_396 (by decide)) (fun c_396 => ?_)
    refine lv_iload hx hb dL_refuses_144 (lv_at hl 1 rfl) ?_
    refine lv_if_eq (tgt := 198) hx hb dL_refuses_146 (by decide) (fun c_397 => absurd c_397 (by decide)) (fun c_397 => ?_)
    refine lv_aload_n hx hb dL_refuses_149 rfl (lv_at hl 9 rfl) ?_
    refine lv_iload hx hb dL_refuses_150 (lv_at hl 0 rfl) ?_
    refine lv_iload hx hb dL_refuses_152 (lv_at hl 6 rfl) ?_
    refine lv_iconst (v := (0 : Int32)) hx hb dL_refuses_154 (by decide) ?_
    refine lv_iconst (v := (0 : Int32)) hx hb dL_refuses_155 (by decide) ?_
    have hFc := frw hD hS hA
    refine vx_calli (SX := Unit) (px := fun _ => False) (BX := fun _ _ _ => True) (AX := A) (vx_runSX0 (vx_runSX (As := [.ref h0, .int (0 : Int32), .int (2147483647 : Int32), .int (0 : Int32), .int (0 : Int32)]) (rest := []) ⟨hx, hb, hml, hown, hts⟩ (c_L_act l hst dC dI cI h0 h0_1 h0_2 h0_3 h0_4 h0_5 h0_6 h0_7 h0_8 h0_9 h0_10 h0_11 h0_12 h0_13 h0_14 h0_15 h0_16 h0_17 h0_18 h0_19 h0_20 h0_21 h0_22 m_382 m_383 h0_25 h0_26 m_384 m_385 h0_29 h0_30 _ u_380 (0 : Int32) (2147483647 : Int32) (0 : Int32) (0 : Int32) _ h) (vx_cwSW 5 hts (goodIn_up gB_L_act) rfl rfl rfl (by decide +kernel) ⟨Nat.le_of_ble_eq_true rfl, Nat.le_of_ble_eq_true rfl⟩) (pbl_S hP hK hD hN hX hC hFc hS) rfl rfl hl.1 rfl (lv_room (Nat.le_of_ble_eq_true rfl)) dL_refuses_156 ⟨Nat.le_of_ble_eq_true rfl, Nat.le_of_ble_eq_true rfl⟩)) hS (fun q _ h => hFc q h) hFc (fun q _ h => h) (fun E9 ce9 q9 u t H locs ht hvm h hB hz1 hk1 hS hce hcv hcl => h.elim) (fun r_399 u_398 t H locs ht hvm h hB hz1 hk1 hS => ?_)
    obtain ⟨m_400, m_401, m_402, m_403, hP1, hD1⟩ := hB
    rw [ht] at hP1
    have hP : va_P (dC, dI) vwCl (lwO cI h0 h0_1 h0_2 h0_3 h0_4 h0_5 h0_6 h0_7 h0_8 h0_9 h0_10 h0_11 h0_12 h0_13 h0_14 h0_15 h0_16 h0_17 h0_18 h0_19 h0_20 h0_21 h0_22 m_400 m_401 h0_25 h0_26 m_402 m_403 h0_29 h0_30 u_398) H := hP1
    have hD : va_D A (lwO cI h0 h0_1 h0_2 h0_3 h0_4 h0_5 h0_6 h0_7 h0_8 h0_9 h0_10 h0_11 h0_12 h0_13 h0_14 h0_15 h0_16 h0_17 h0_18 h0_19 h0_20 h0_21 h0_22 m_400 m_401 h0_25 h0_26 m_402 m_403 h0_29 h0_30 u_398) := hD1.weaken (fun _ _ _ h => hFc _ h)
    refine W.widen (k := 98) (n := 588) (Nat.le_of_ble_eq_true rfl) (Nat.le_of_ble_eq_true rfl) ?_
    refine lv_bipush (v := (-92 : Int32)) hx hb dL_refuses_159 (by decide) ?_
    obtain ⟨ht_, hf_⟩ := h
    refine lv_icmp_ne (tgt := 198) hx hb dL_refuses_161 (by decide) (fun c_404 => ?_) (fun c_404 => ?_)
    · have h := ht_ c_404
      exact (show False from h).elim
    · have h := hf_ c_404
      refine lv_aload_n hx hb dL_refuses_164 rfl (lv_at hl 9 rfl) ?_
      refine lv_iload hx hb dL_refuses_165 (lv_at hl 0 rfl) ?_
      refine lv_iconst (v := (0 : Int32)) hx hb dL_refuses_167 (by decide) ?_
      refine lv_iload hx hb dL_refuses_168 (lv_at hl 6 rfl) ?_
      refine lv_iconst (v := (0 : Int32)) hx hb dL_refuses_170 (by decide) ?_
      have hFc := frw hD hS hA
      refine vx_calli (SX := Unit) (px := fun _ => False) (BX := fun _ _ _ => True) (AX := A) (vx_runSX0 (vx_runSX (As := [.ref h0, .int (0 : Int32), .int (0 : Int32), .int (2147483647 : Int32), .int (0 : Int32)]) (rest := []) ⟨hx, hb, hml, hown, hts⟩ (c_L_act l hst dC dI cI h0 h0_1 h0_2 h0_3 h0_4 h0_5 h0_6 h0_7 h0_8 h0_9 h0_10 h0_11 h0_12 h0_13 h0_14 h0_15 h0_16 h0_17 h0_18 h0_19 h0_20 h0_21 h0_22 m_400 m_401 h0_25 h0_26 m_402 m_403 h0_29 h0_30 _ u_398 (0 : Int32) (0 : Int32) (2147483647 : Int32) (0 : Int32) _ h) (vx_cwSW 5 hts (goodIn_up gB_L_act) rfl rfl rfl (by decide +kernel) ⟨Nat.le_of_ble_eq_true rfl, Nat.le_of_ble_eq_true rfl⟩) (pbl_S hP hK hD hN hX hC hFc hS) rfl rfl hl.1 rfl (lv_room (Nat.le_of_ble_eq_true rfl)) dL_refuses_171 ⟨Nat.le_of_ble_eq_true rfl, Nat.le_of_ble_eq_true rfl⟩)) hS (fun q _ h => hFc q h) hFc (fun q _ h => h) (fun E9 ce9 q9 u t H locs ht hvm h hB hz1 hk1 hS hce hcv hcl => h.elim) (fun r_406 u_405 t H locs ht hvm h hB hz1 hk1 hS => ?_)
      obtain ⟨m_407, m_408, m_409, m_410, hP1, hD1⟩ := hB
      rw [ht] at hP1
      have hP : va_P (dC, dI) vwCl (lwO cI h0 h0_1 h0_2 h0_3 h0_4 h0_5 h0_6 h0_7 h0_8 h0_9 h0_10 h0_11 h0_12 h0_13 h0_14 h0_15 h0_16 h0_17 h0_18 h0_19 h0_20 h0_21 h0_22 m_407 m_408 h0_25 h0_26 m_409 m_410 h0_29 h0_30 u_405) H := hP1
      have hD : va_D A (lwO cI h0 h0_1 h0_2 h0_3 h0_4 h0_5 h0_6 h0_7 h0_8 h0_9 h0_10 h0_11 h0_12 h0_13 h0_14 h0_15 h0_16 h0_17 h0_18 h0_19 h0_20 h0_21 h0_22 m_407 m_408 h0_25 h0_26 m_409 m_410 h0_29 h0_30 u_405) := hD1.weaken (fun _ _ _ h => hFc _ h)
      refine W.widen (k := 100) (n := 600) (Nat.le_of_ble_eq_true rfl) (Nat.le_of_ble_eq_true rfl) ?_
      refine lv_bipush (v := (-92 : Int32)) hx hb dL_refuses_174 (by decide) ?_
      obtain ⟨ht_, hf_⟩ := h
      refine lv_icmp_ne (tgt := 198) hx hb dL_refuses_176 (by decide) (fun c_411 => ?_) (fun c_411 => ?_)
      · have h := ht_ c_411
        exact (show False from h).elim
      · have h := hf_ c_411
        refine lv_aload_n hx hb dL_refuses_179 rfl (lv_at hl 9 rfl) ?_
        refine lv_iload hx hb dL_refuses_180 (lv_at hl 0 rfl) ?_
        refine lv_iconst (v := (0 : Int32)) hx hb dL_refuses_182 (by decide) ?_
        refine lv_iconst (v := (0 : Int32)) hx hb dL_refuses_183 (by decide) ?_
        refine lv_iload hx hb dL_refuses_184 (lv_at hl 6 rfl) ?_
        have hFc := frw hD hS hA
        refine vx_calli (SX := Unit) (px := fun _ => False) (BX := fun _ _ _ => True) (AX := A) (vx_runSX0 (vx_runSX (As := [.ref h0, .int (0 : Int32), .int (0 : Int32), .int (0 : Int32), .int (2147483647 : Int32)]) (rest := []) ⟨hx, hb, hml, hown, hts⟩ (c_L_act l hst dC dI cI h0 h0_1 h0_2 h0_3 h0_4 h0_5 h0_6 h0_7 h0_8 h0_9 h0_10 h0_11 h0_12 h0_13 h0_14 h0_15 h0_16 h0_17 h0_18 h0_19 h0_20 h0_21 h0_22 m_407 m_408 h0_25 h0_26 m_409 m_410 h0_29 h0_30 _ u_405 (0 : Int32) (0 : Int32) (0 : Int32) (2147483647 : Int32) _ h) (vx_cwSW 5 hts (goodIn_up gB_L_act) rfl rfl rfl (by decide +kernel) ⟨Nat.le_of_ble_eq_true rfl, Nat.le_of_ble_eq_true rfl⟩) (pbl_S hP hK hD hN hX hC hFc hS) rfl rfl hl.1 rfl (lv_room (Nat.le_of_ble_eq_true rfl)) dL_refuses_186 ⟨Nat.le_of_ble_eq_true rfl, Nat.le_of_ble_eq_true rfl⟩)) hS (fun q _ h => hFc q h) hFc (fun q _ h => h) (fun E9 ce9 q9 u t H locs ht hvm h hB hz1 hk1 hS hce hcv hcl => h.elim) (fun r_413 u_412 t H locs ht hvm h hB hz1 hk1 hS => ?_)
        obtain ⟨m_414, m_415, m_416, m_417, hP1, hD1⟩ := hB
        rw [ht] at hP1
        have hP : va_P (dC, dI) vwCl (lwO cI h0 h0_1 h0_2 h0_3 h0_4 h0_5 h0_6 h0_7 h0_8 h0_9 h0_10 h0_11 h0_12 h0_13 h0_14 h0_15 h0_16 h0_17 h0_18 h0_19 h0_20 h0_21 h0_22 m_414 m_415 h0_25 h0_26 m_416 m_417 h0_29 h0_30 u_412) H := hP1
        have hD : va_D A (lwO cI h0 h0_1 h0_2 h0_3 h0_4 h0_5 h0_6 h0_7 h0_8 h0_9 h0_10 h0_11 h0_12 h0_13 h0_14 h0_15 h0_16 h0_17 h0_18 h0_19 h0_20 h0_21 h0_22 m_414 m_415 h0_25 h0_26 m_416 m_417 h0_29 h0_30 u_412) := hD1.weaken (fun _ _ _ h => hFc _ h)
        refine W.widen (k := 102) (n := 612) (Nat.le_of_ble_eq_true rfl) (Nat.le_of_ble_eq_true rfl) ?_
        refine lv_bipush (v := (-92 : Int32)) hx hb dL_refuses_189 (by decide) ?_
        obtain ⟨ht_, hf_⟩ := h
        refine lv_icmp_ne (tgt := 198) hx hb dL_refuses_191 (by decide) (fun c_418 => ?_) (fun c_418 => ?_)
        · have h := ht_ c_418
          exact (show False from h).elim
        · have h := hf_ c_418
          refine lv_iconst (v := (1 : Int32)) hx hb dL_refuses_194 (by decide) ?_
          refine lv_goto (tgt := 199) hx hb dL_refuses_195 (by decide) ?_
          refine lv_istore (lv' := [(13, .int (1 : Int32)), (14, .int (0 : Int32)), (12, .int (2147483647 : Int32)), (11, .int (2147483647 : Int32)), (10, .int (2147483647 : Int32)), (9, .int (2147483647 : Int32)), (8, .int (2147483647 : Int32)), (7, .int (2147483647 : Int32)), (6, .int (2 : Int32)), (0, .ref h0), (1, .int v1), (2, .int v2), (3, .int v3), (4, .int v4), (5, .int (2147483647 : Int32))]) hx hb dL_refuses_199 hl (by decide) rfl (fun ls hl => ?_)
          refine lv_iinc (v := (1 : Int32)) (lv' := [(14, .int (1 : Int32)), (13, .int (1 : Int32)), (12, .int (2147483647 : Int32)), (11, .int (2147483647 : Int32)), (10, .int (2147483647 : Int32)), (9, .int (2147483647 : Int32)), (8, .int (2147483647 : Int32)), (7, .int (2147483647 : Int32)), (6, .int (2 : Int32)), (0, .ref h0), (1, .int v1), (2, .int v2), (3, .int v3), (4, .int v4), (5, .int (2147483647 : Int32))]) hx hb dL_refuses_201 hl (k := 1) rfl (by decide) (by decide) rfl (fun ls hl => ?_)
          refine lv_goto (tgt := 138) hx hb dL_refuses_204 (by decide) ?_
          refine lv_iload hx hb dL_refuses_138 (lv_at hl 0 rfl) ?_
          refine lv_iconst (v := (2 : Int32)) hx hb dL_refuses_140 (by decide) ?_
          refine lv_icmp_ge (tgt := 207) hx hb dL_refuses_141 (by decide) (fun c_419 => absurd c_419 (by decide)) (fun c_419 => ?_)
          refine lv_iload hx hb dL_refuses_144 (lv_at hl 1 rfl) ?_
          refine lv_if_eq (tgt := 198) hx hb dL_refuses_146 (by decide) (fun c_420 => absurd c_420 (by decide)) (fun c_420 => ?_)
          refine lv_aload_n hx hb dL_refuses_149 rfl (lv_at hl 9 rfl) ?_
          refine lv_iload hx hb dL_refuses_150 (lv_at hl 0 rfl) ?_
          refine lv_iload hx hb dL_refuses_152 (lv_at hl 6 rfl) ?_
          refine lv_iconst (v := (0 : Int32)) hx hb dL_refuses_154 (by decide) ?_
          refine lv_iconst (v := (0 : Int32)) hx hb dL_refuses_155 (by decide) ?_
          have hFc := frw hD hS hA
          refine vx_calli (SX := Unit) (px := fun _ => False) (BX := fun _ _ _ => True) (AX := A) (vx_runSX0 (vx_runSX (As := [.ref h0, .int (1 : Int32), .int (2147483647 : Int32), .int (0 : Int32), .int (0 : Int32)]) (rest := []) ⟨hx, hb, hml, hown, hts⟩ (c_L_act l hst dC dI cI h0 h0_1 h0_2 h0_3 h0_4 h0_5 h0_6 h0_7 h0_8 h0_9 h0_10 h0_11 h0_12 h0_13 h0_14 h0_15 h0_16 h0_17 h0_18 h0_19 h0_20 h0_21 h0_22 m_414 m_415 h0_25 h0_26 m_416 m_417 h0_29 h0_30 _ u_412 (1 : Int32) (2147483647 : Int32) (0 : Int32) (0 : Int32) _ h) (vx_cwSW 5 hts (goodIn_up gB_L_act) rfl rfl rfl (by decide +kernel) ⟨Nat.le_of_ble_eq_true rfl, Nat.le_of_ble_eq_true rfl⟩) (pbl_S hP hK hD hN hX hC hFc hS) rfl rfl hl.1 rfl (lv_room (Nat.le_of_ble_eq_true rfl)) dL_refuses_156 ⟨Nat.le_of_ble_eq_true rfl, Nat.le_of_ble_eq_true rfl⟩)) hS (fun q _ h => hFc q h) hFc (fun q _ h => h) (fun E9 ce9 q9 u t H locs ht hvm h hB hz1 hk1 hS hce hcv hcl => h.elim) (fun r_422 u_421 t H locs ht hvm h hB hz1 hk1 hS => ?_)
          obtain ⟨m_423, m_424, m_425, m_426, hP1, hD1⟩ := hB
          rw [ht] at hP1
          have hP : va_P (dC, dI) vwCl (lwO cI h0 h0_1 h0_2 h0_3 h0_4 h0_5 h0_6 h0_7 h0_8 h0_9 h0_10 h0_11 h0_12 h0_13 h0_14 h0_15 h0_16 h0_17 h0_18 h0_19 h0_20 h0_21 h0_22 m_423 m_424 h0_25 h0_26 m_425 m_426 h0_29 h0_30 u_421) H := hP1
          have hD : va_D A (lwO cI h0 h0_1 h0_2 h0_3 h0_4 h0_5 h0_6 h0_7 h0_8 h0_9 h0_10 h0_11 h0_12 h0_13 h0_14 h0_15 h0_16 h0_17 h0_18 h0_19 h0_20 h0_21 h0_22 m_423 m_424 h0_25 h0_26 m_425 m_426 h0_29 h0_30 u_421) := hD1.weaken (fun _ _ _ h => hFc _ h)
          refine W.widen (k := 104) (n := 624) (Nat.le_of_ble_eq_true rfl) (Nat.le_of_ble_eq_true rfl) ?_
          refine lv_bipush (v := (-92 : Int32)) hx hb dL_refuses_159 (by decide) ?_
          obtain ⟨ht_, hf_⟩ := h
          refine lv_icmp_ne (tgt := 198) hx hb dL_refuses_161 (by decide) (fun c_427 => ?_) (fun c_427 => ?_)
          · have h := ht_ c_427
            exact (show False from h).elim
          · have h := hf_ c_427
            refine lv_aload_n hx hb dL_refuses_164 rfl (lv_at hl 9 rfl) ?_
            refine lv_iload hx hb dL_refuses_165 (lv_at hl 0 rfl) ?_
            refine lv_iconst (v := (0 : Int32)) hx hb dL_refuses_167 (by decide) ?_
            refine lv_iload hx hb dL_refuses_168 (lv_at hl 6 rfl) ?_
            refine lv_iconst (v := (0 : Int32)) hx hb dL_refuses_170 (by decide) ?_
            have hFc := frw hD hS hA
            refine vx_calli (SX := Unit) (px := fun _ => False) (BX := fun _ _ _ => True) (AX := A) (vx_runSX0 (vx_runSX (As := [.ref h0, .int (1 : Int32), .int (0 : Int32), .int (2147483647 : Int32), .int (0 : Int32)]) (rest := []) ⟨hx, hb, hml, hown, hts⟩ (c_L_act l hst dC dI cI h0 h0_1 h0_2 h0_3 h0_4 h0_5 h0_6 h0_7 h0_8 h0_9 h0_10 h0_11 h0_12 h0_13 h0_14 h0_15 h0_16 h0_17 h0_18 h0_19 h0_20 h0_21 h0_22 m_423 m_424 h0_25 h0_26 m_425 m_426 h0_29 h0_30 _ u_421 (1 : Int32) (0 : Int32) (2147483647 : Int32) (0 : Int32) _ h) (vx_cwSW 5 hts (goodIn_up gB_L_act) rfl rfl rfl (by decide +kernel) ⟨Nat.le_of_ble_eq_true rfl, Nat.le_of_ble_eq_true rfl⟩) (pbl_S hP hK hD hN hX hC hFc hS) rfl rfl hl.1 rfl (lv_room (Nat.le_of_ble_eq_true rfl)) dL_refuses_171 ⟨Nat.le_of_ble_eq_true rfl, Nat.le_of_ble_eq_true rfl⟩)) hS (fun q _ h => hFc q h) hFc (fun q _ h => h) (fun E9 ce9 q9 u t H locs ht hvm h hB hz1 hk1 hS hce hcv hcl => h.elim) (fun r_429 u_428 t H locs ht hvm h hB hz1 hk1 hS => ?_)
            obtain ⟨m_430, m_431, m_432, m_433, hP1, hD1⟩ := hB
            rw [ht] at hP1
            have hP : va_P (dC, dI) vwCl (lwO cI h0 h0_1 h0_2 h0_3 h0_4 h0_5 h0_6 h0_7 h0_8 h0_9 h0_10 h0_11 h0_12 h0_13 h0_14 h0_15 h0_16 h0_17 h0_18 h0_19 h0_20 h0_21 h0_22 m_430 m_431 h0_25 h0_26 m_432 m_433 h0_29 h0_30 u_428) H := hP1
            have hD : va_D A (lwO cI h0 h0_1 h0_2 h0_3 h0_4 h0_5 h0_6 h0_7 h0_8 h0_9 h0_10 h0_11 h0_12 h0_13 h0_14 h0_15 h0_16 h0_17 h0_18 h0_19 h0_20 h0_21 h0_22 m_430 m_431 h0_25 h0_26 m_432 m_433 h0_29 h0_30 u_428) := hD1.weaken (fun _ _ _ h => hFc _ h)
            refine W.widen (k := 106) (n := 636) (Nat.le_of_ble_eq_true rfl) (Nat.le_of_ble_eq_true rfl) ?_
            refine lv_bipush (v := (-92 : Int32)) hx hb dL_refuses_174 (by decide) ?_
            obtain ⟨ht_, hf_⟩ := h
            refine lv_icmp_ne (tgt := 198) hx hb dL_refuses_176 (by decide) (fun c_434 => ?_) (fun c_434 => ?_)
            · have h := ht_ c_434
              exact (show False from h).elim
            · have h := hf_ c_434
              refine lv_aload_n hx hb dL_refuses_179 rfl (lv_at hl 9 rfl) ?_
              refine lv_iload hx hb dL_refuses_180 (lv_at hl 0 rfl) ?_
              refine lv_iconst (v := (0 : Int32)) hx hb dL_refuses_182 (by decide) ?_
              refine lv_iconst (v := (0 : Int32)) hx hb dL_refuses_183 (by decide) ?_
              refine lv_iload hx hb dL_refuses_184 (lv_at hl 6 rfl) ?_
              have hFc := frw hD hS hA
              refine vx_calli (SX := Unit) (px := fun _ => False) (BX := fun _ _ _ => True) (AX := A) (vx_runSX0 (vx_runSX (As := [.ref h0, .int (1 : Int32), .int (0 : Int32), .int (0 : Int32), .int (2147483647 : Int32)]) (rest := []) ⟨hx, hb, hml, hown, hts⟩ (c_L_act l hst dC dI cI h0 h0_1 h0_2 h0_3 h0_4 h0_5 h0_6 h0_7 h0_8 h0_9 h0_10 h0_11 h0_12 h0_13 h0_14 h0_15 h0_16 h0_17 h0_18 h0_19 h0_20 h0_21 h0_22 m_430 m_431 h0_25 h0_26 m_432 m_433 h0_29 h0_30 _ u_428 (1 : Int32) (0 : Int32) (0 : Int32) (2147483647 : Int32) _ h) (vx_cwSW 5 hts (goodIn_up gB_L_act) rfl rfl rfl (by decide +kernel) ⟨Nat.le_of_ble_eq_true rfl, Nat.le_of_ble_eq_true rfl⟩) (pbl_S hP hK hD hN hX hC hFc hS) rfl rfl hl.1 rfl (lv_room (Nat.le_of_ble_eq_true rfl)) dL_refuses_186 ⟨Nat.le_of_ble_eq_true rfl, Nat.le_of_ble_eq_true rfl⟩)) hS (fun q _ h => hFc q h) hFc (fun q _ h => h) (fun E9 ce9 q9 u t H locs ht hvm h hB hz1 hk1 hS hce hcv hcl => h.elim) (fun r_436 u_435 t H locs ht hvm h hB hz1 hk1 hS => ?_)
              obtain ⟨m_437, m_438, m_439, m_440, hP1, hD1⟩ := hB
              rw [ht] at hP1
              have hP : va_P (dC, dI) vwCl (lwO cI h0 h0_1 h0_2 h0_3 h0_4 h0_5 h0_6 h0_7 h0_8 h0_9 h0_10 h0_11 h0_12 h0_13 h0_14 h0_15 h0_16 h0_17 h0_18 h0_19 h0_20 h0_21 h0_22 m_437 m_438 h0_25 h0_26 m_439 m_440 h0_29 h0_30 u_435) H := hP1
              have hD : va_D A (lwO cI h0 h0_1 h0_2 h0_3 h0_4 h0_5 h0_6 h0_7 h0_8 h0_9 h0_10 h0_11 h0_12 h0_13 h0_14 h0_15 h0_16 h0_17 h0_18 h0_19 h0_20 h0_21 h0_22 m_437 m_438 h0_25 h0_26 m_439 m_440 h0_29 h0_30 u_435) := hD1.weaken (fun _ _ _ h => hFc _ h)
              refine W.widen (k := 108) (n := 648) (Nat.le_of_ble_eq_true rfl) (Nat.le_of_ble_eq_true rfl) ?_
              refine lv_bipush (v := (-92 : Int32)) hx hb dL_refuses_189 (by decide) ?_
              obtain ⟨ht_, hf_⟩ := h
              refine lv_icmp_ne (tgt := 198) hx hb dL_refuses_191 (by decide) (fun c_441 => ?_) (fun c_441 => ?_)
              · have h := ht_ c_441
                exact (show False from h).elim
              · have h := hf_ c_441
                have hl : lv_has ls 15 [(0, .ref h0), (1, .int v1), (2, .int v2), (3, .int v3), (4, .int v4), (5, .int (2147483647 : Int32)), (6, .int (2 : Int32)), (7, .int (2147483647 : Int32)), (8, .int (2147483647 : Int32)), (9, .int (2147483647 : Int32)), (10, .int (2147483647 : Int32)), (11, .int (2147483647 : Int32)), (12, .int (2147483647 : Int32)), (14, .int (1 : Int32))] := lv_sub hl [9, 10, 11, 12, 13, 14, 8, 7, 6, 5, 4, 3, 2, 0] rfl
                refine W.widen (k := 108) (n := 648) (Nat.le_of_ble_eq_true rfl) (Nat.le_of_ble_eq_true rfl) ?_
                exact sg_L_refuses_9 l hst C0 hK hN hX hC hA h0_1 h0_2 h0_3 h0_4 h0_5 h0_6 h0_7 h0_8 h0_9 h0_10 h0_11 h0_12 h0_13 h0_14 h0_15 h0_16 h0_17 h0_18 h0_19 h0_20 h0_21 h0_22 h0_25 h0_26 h0_29 h0_30 _ u_435 v1 v2 v3 v4 h m_437 m_438 m_439 m_440 _ _ hP hD hS _ hl
