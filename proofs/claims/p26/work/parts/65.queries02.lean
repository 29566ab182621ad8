set_option maxHeartbeats 4000000 in
set_option maxRecDepth 100000 in
theorem sg_L_queries_9 (l : Launch) (hst : l.stackTraces = false) {p : Program} {e : Env} {s : State} {m : MethodId} {below : List Frame} {meth : Method} {c : Code} (C0 : LC p s m (([] : List Value).toArray) meth c cL_queries 1 wq_queries) {dC : Nat → ClassId} {dI : Nat → Nat → Nat} {cI : ClassId} (hK : va_K (dC, dI) vwCl [(cI, .int)] s) (hN : nk s) {A : Nat → Prop} (hX : xj A s) (hC : xnc s) (hA : ∀ q : Nat, s.heap.size ≤ q → A q) (h0 h0_1 h0_2 h0_3 h0_4 h0_5 h0_6 h0_7 h0_8 h0_9 h0_10 h0_11 h0_12 h0_13 h0_14 h0_15 h0_16 h0_17 h0_18 h0_19 h0_20 h0_21 h0_22 h0_25 h0_26 h0_29 h0_30 : Nat) (post : Int32 → Prop) (s0 : TriS) (h : P_L_queries_9 s0 post) (h0_23 h0_24 h0_27 h0_28 : Nat) (H : Heap) (locs : List Loc) (hP : va_P (dC, dI) vwCl (lwO cI h0 h0_1 h0_2 h0_3 h0_4 h0_5 h0_6 h0_7 h0_8 h0_9 h0_10 h0_11 h0_12 h0_13 h0_14 h0_15 h0_16 h0_17 h0_18 h0_19 h0_20 h0_21 h0_22 h0_23 h0_24 h0_25 h0_26 h0_27 h0_28 h0_29 h0_30 s0) H) (hD : va_D A (lwO cI h0 h0_1 h0_2 h0_3 h0_4 h0_5 h0_6 h0_7 h0_8 h0_9 h0_10 h0_11 h0_12 h0_13 h0_14 h0_15 h0_16 h0_17 h0_18 h0_19 h0_20 h0_21 h0_22 h0_23 h0_24 h0_25 h0_26 h0_27 h0_28 h0_29 h0_30 s0)) (hS : va_S A s.heap H locs) (ls : Array Slot) (hl : lv_has ls 1 [(0, .ref h0)]) : W p l e rm_L_queries s m (([] : List Value).toArray) below meth c H locs 310 11509 (MQ below (Q_L_queries dC dI cI A post) (([] : List Value).toArray) s mc_L_queries ms_L_queries A) (F0 m 614 ls []) := by
  obtain ⟨hx, hb, hr, hml, hown, hts, hlocks⟩ := id C0
  refine lv_aload_n hx hb dL_queries_614 rfl (lv_at hl 0 rfl) ?_
  refine lv_iconst (v := (0 : Int32)) hx hb dL_queries_615 (by decide) ?_
  have hFc := frw hD hS hA
  refine vx_calli (vx_runV (As := [.int (0 : Int32)]) (rest := []) ⟨hx, hb, hml, hown, hts⟩ (c_X7_matches l hst dC dI cI h0 h0_1 h0_2 h0_3 h0_4 h0_5 h0_6 h0_7 h0_8 h0_9 h0_10 h0_11 h0_12 h0_13 h0_14 h0_15 h0_16 h0_17 h0_18 h0_19 h0_20 h0_21 h0_22 h0_23 h0_24 h0_25 h0_26 h0_27 h0_28 h0_29 h0_30 _ s0 (0 : Int32) _ _ h) (cwV 1 hts (goodIn_up gB_X7_matches) rfl rfl rfl (by decide +kernel) ⟨Nat.le_of_ble_eq_true rfl, Nat.le_of_ble_eq_true rfl⟩) (pbj_V hP hK hD hN hX hFc hS (ci := 7) (q0 := 0) rfl rfl) rfl rfl hl.1 rfl (lv_room (Nat.le_of_ble_eq_true rfl)) dL_queries_616 ⟨Nat.le_of_ble_eq_true rfl, Nat.le_of_ble_eq_true rfl⟩) hS (fun q _ h => hFc q h) hFc (fun q _ h => hFc q h) (fun E9 ce9 q9 u t H locs ht hvm h hB hz1 hk1 hS hce hcv hcl => (show False from h).elim) (fun r_365 u_364 t H locs ht hvm h hB hz1 hk1 hS => ?_)
  obtain ⟨m_366, m_367, m_368, m_369, hP1, hD1⟩ := hB
  rw [ht] at hP1
  have hP : va_P (dC, dI) vwCl (lwO cI h0 h0_1 h0_2 h0_3 h0_4 h0_5 h0_6 h0_7 h0_8 h0_9 h0_10 h0_11 h0_12 h0_13 h0_14 h0_15 h0_16 h0_17 h0_18 h0_19 h0_20 h0_21 h0_22 m_366 m_367 h0_25 h0_26 m_368 m_369 h0_29 h0_30 u_364) H := hP1
  have hD : va_D A (lwO cI h0 h0_1 h0_2 h0_3 h0_4 h0_5 h0_6 h0_7 h0_8 h0_9 h0_10 h0_11 h0_12 h0_13 h0_14 h0_15 h0_16 h0_17 h0_18 h0_19 h0_20 h0_21 h0_22 m_366 m_367 h0_25 h0_26 m_368 m_369 h0_29 h0_30 u_364) := hD1.weaken (fun _ _ _ h => hFc _ h)
  refine W.widen (k := 311) (n := 11515) (Nat.le_of_ble_eq_true rfl) (Nat.le_of_ble_eq_true rfl) ?_
  obtain ⟨ht_, hf_⟩ := h
  refine lv_if_ne (tgt := 761) hx hb dL_queries_619 (by decide) (fun c_370 => ?_) (fun c_370 => ?_)
  · have h := ht_ c_370
    exact (show False from h).elim
  · have h := hf_ c_370
    refine lv_aload_n hx hb dL_queries_622 rfl (lv_at hl 0 rfl) ?_
    refine lv_iconst (v := (0 : Int32)) hx hb dL_queries_623 (by decide) ?_
    have hFc := frw hD hS hA
    refine va_calli (va_runS (As := [.ref h0, .int (0 : Int32)]) (rest := []) ⟨hx, hb, hml, hown, hts⟩ (c_L_comes l hst dC dI cI h0 h0_1 h0_2 h0_3 h0_4 h0_5 h0_6 h0_7 h0_8 h0_9 h0_10 h0_11 h0_12 h0_13 h0_14 h0_15 h0_16 h0_17 h0_18 h0_19 h0_20 h0_21 h0_22 m_366 m_367 h0_25 h0_26 m_368 m_369 h0_29 h0_30 _ u_364 (0 : Int32) _ h) (va_cwS 2 hts (goodIn_up gB_L_comes) rfl rfl rfl (by decide +kernel) ⟨Nat.le_of_ble_eq_true rfl, Nat.le_of_ble_eq_true rfl⟩) (pbl_S hP hK hD hN hX hC hFc hS) rfl rfl hl.1 rfl (lv_room (Nat.le_of_ble_eq_true rfl)) dL_queries_624 ⟨Nat.le_of_ble_eq_true rfl, Nat.le_of_ble_eq_true rfl⟩) hS (fun q _ h => hFc q h) hFc (fun r_372 u_371 t H locs ht hvm h hB hz1 hk1 hS => ?_)
    obtain ⟨m_373, m_374, m_375, m_376, hP1, hD1⟩ := hB
    rw [ht] at hP1
    have hP : va_P (dC, dI) vwCl (lwO cI h0 h0_1 h0_2 h0_3 h0_4 h0_5 h0_6 h0_7 h0_8 h0_9 h0_10 h0_11 h0_12 h0_13 h0_14 h0_15 h0_16 h0_17 h0_18 h0_19 h0_20 h0_21 h0_22 m_373 m_374 h0_25 h0_26 m_375 m_376 h0_29 h0_30 u_371) H := hP1
    have hD : va_D A (lwO cI h0 h0_1 h0_2 h0_3 h0_4 h0_5 h0_6 h0_7 h0_8 h0_9 h0_10 h0_11 h0_12 h0_13 h0_14 h0_15 h0_16 h0_17 h0_18 h0_19 h0_20 h0_21 h0_22 m_373 m_374 h0_25 h0_26 m_375 m_376 h0_29 h0_30 u_371) := hD1.weaken (fun _ _ _ h => hFc _ h)
    refine W.widen (k := 317) (n := 11551) (Nat.le_of_ble_eq_true rfl) (Nat.le_of_ble_eq_true rfl) ?_
    obtain ⟨ht_, hf_⟩ := h
    refine lv_if_eq (tgt := 761) hx hb dL_queries_627 (by decide) (fun c_377 => ?_) (fun c_377 => ?_)
    · have h := ht_ c_377
      exact (show False from h).elim
    · have h := hf_ c_377
      refine lv_aload_n hx hb dL_queries_630 rfl (lv_at hl 0 rfl) ?_
      refine lv_bipush (v := (7 : Int32)) hx hb dL_queries_631 (by decide) ?_
      refine lv_bipush (v := (7 : Int32)) hx hb dL_queries_633 (by decide) ?_
      refine lv_bipush (v := (7 : Int32)) hx hb dL_queries_635 (by decide) ?_
      have hFc := frw hD hS hA
      refine vx_calli (vx_runV (As := [.int (7 : Int32), .int (7 : Int32), .int (7 : Int32)]) (rest := []) ⟨hx, hb, hml, hown, hts⟩ (c_X7_state l hst dC dI cI h0 h0_1 h0_2 h0_3 h0_4 h0_5 h0_6 h0_7 h0_8 h0_9 h0_10 h0_11 h0_12 h0_13 h0_14 h0_15 h0_16 h0_17 h0_18 h0_19 h0_20 h0_21 h0_22 m_373 m_374 h0_25 h0_26 m_375 m_376 h0_29 h0_30 _ u_371 (7 : Int32) (7 : Int32) (7 : Int32) _ _ h) (cwV 3 hts (goodIn_up gB_X7_state) rfl rfl rfl (by decide +kernel) ⟨Nat.le_of_ble_eq_true rfl, Nat.le_of_ble_eq_true rfl⟩) (pbj_V hP hK hD hN hX hFc hS (ci := 7) (q0 := 0) rfl rfl) rfl rfl hl.1 rfl (lv_room (Nat.le_of_ble_eq_true rfl)) dL_queries_637 ⟨Nat.le_of_ble_eq_true rfl, Nat.le_of_ble_eq_true rfl⟩) hS (fun q _ h => hFc q h) hFc (fun q _ h => hFc q h) (fun E9 ce9 q9 u t H locs ht hvm h hB hz1 hk1 hS hce hcv hcl => (show False from h).elim) (fun r_379 u_378 t H locs ht hvm h hB hz1 hk1 hS => ?_)
      obtain ⟨m_380, m_381, m_382, m_383, hP1, hD1⟩ := hB
      rw [ht] at hP1
      have hP : va_P (dC, dI) vwCl (lwO cI h0 h0_1 h0_2 h0_3 h0_4 h0_5 h0_6 h0_7 h0_8 h0_9 h0_10 h0_11 h0_12 h0_13 h0_14 h0_15 h0_16 h0_17 h0_18 h0_19 h0_20 h0_21 h0_22 m_380 m_381 h0_25 h0_26 m_382 m_383 h0_29 h0_30 u_378) H := hP1
      have hD : va_D A (lwO cI h0 h0_1 h0_2 h0_3 h0_4 h0_5 h0_6 h0_7 h0_8 h0_9 h0_10 h0_11 h0_12 h0_13 h0_14 h0_15 h0_16 h0_17 h0_18 h0_19 h0_20 h0_21 h0_22 m_380 m_381 h0_25 h0_26 m_382 m_383 h0_29 h0_30 u_378) := hD1.weaken (fun _ _ _ h => hFc _ h)
      refine W.widen (k := 318) (n := 11557) (Nat.le_of_ble_eq_true rfl) (Nat.le_of_ble_eq_true rfl) ?_
      obtain ⟨ht_, hf_⟩ := h
      refine lv_if_eq (tgt := 761) hx hb dL_queries_640 (by decide) (fun c_384 => ?_) (fun c_384 => ?_)
      · have h := ht_ c_384
        exact (show False from h).elim
      · have h := hf_ c_384
        refine lv_aload_n hx hb dL_queries_643 rfl (lv_at hl 0 rfl) ?_
        refine lv_iconst (v := (0 : Int32)) hx hb dL_queries_644 (by decide) ?_
        have hFc := frw hD hS hA
        refine vx_calli (vx_runV (As := [.int (0 : Int32)]) (rest := []) ⟨hx, hb, hml, hown, hts⟩ (c_X7_matches l hst dC dI cI h0 h0_1 h0_2 h0_3 h0_4 h0_5 h0_6 h0_7 h0_8 h0_9 h0_10 h0_11 h0_12 h0_13 h0_14 h0_15 h0_16 h0_17 h0_18 h0_19 h0_20 h0_21 h0_22 m_380 m_381 h0_25 h0_26 m_382 m_383 h0_29 h0_30 _ u_378 (0 : Int32) _ _ h) (cwV 1 hts (goodIn_up gB_X7_matches) rfl rfl rfl (by decide +kernel) ⟨Nat.le_of_ble_eq_true rfl, Nat.le_of_ble_eq_true rfl⟩) (pbj_V hP hK hD hN hX hFc hS (ci := 7) (q0 := 0) rfl rfl) rfl rfl hl.1 rfl (lv_room (Nat.le_of_ble_eq_true rfl)) dL_queries_645 ⟨Nat.le_of_ble_eq_true rfl, Nat.le_of_ble_eq_true rfl⟩) hS (fun q _ h => hFc q h) hFc (fun q _ h => hFc q h) (fun E9 ce9 q9 u t H locs ht hvm h hB hz1 hk1 hS hce hcv hcl => (show False from h).elim) (fun r_386 u_385 t H locs ht hvm h hB hz1 hk1 hS => ?_)
        obtain ⟨m_387, m_388, m_389, m_390, hP1, hD1⟩ := hB
        rw [ht] at hP1
        have hP : va_P (dC, dI) vwCl (lwO cI h0 h0_1 h0_2 h0_3 h0_4 h0_5 h0_6 h0_7 h0_8 h0_9 h0_10 h0_11 h0_12 h0_13 h0_14 h0_15 h0_16 h0_17 h0_18 h0_19 h0_20 h0_21 h0_22 m_387 m_388 h0_25 h0_26 m_389 m_390 h0_29 h0_30 u_385) H := hP1
        have hD : va_D A (lwO cI h0 h0_1 h0_2 h0_3 h0_4 h0_5 h0_6 h0_7 h0_8 h0_9 h0_10 h0_11 h0_12 h0_13 h0_14 h0_15 h0_16 h0_17 h0_18 h0_19 h0_20 h0_21 h0_22 m_387 m_388 h0_25 h0_26 m_389 m_390 h0_29 h0_30 u_385) := hD1.weaken (fun _ _ _ h => hFc _ h)
        refine W.widen (k := 319) (n := 11563) (Nat.le_of_ble_eq_true rfl) (Nat.le_of_ble_eq_true rfl) ?_
        refine lv_iconst (v := (1 : Int32)) hx hb dL_queries_648 (by decide) ?_
        obtain ⟨ht_, hf_⟩ := h
        refine lv_icmp_ne (tgt := 761) hx hb dL_queries_649 (by decide) (fun c_391 => ?_) (fun c_391 => ?_)
        · have h := ht_ c_391
          exact (show False from h).elim
        · have h := hf_ c_391
          refine lv_aload_n hx hb dL_queries_652 rfl (lv_at hl 0 rfl) ?_
          refine lv_iconst (v := (1 : Int32)) hx hb dL_queries_653 (by decide) ?_
          have hFc := frw hD hS hA
          refine va_calli (va_runS (As := [.ref h0, .int (1 : Int32)]) (rest := []) ⟨hx, hb, hml, hown, hts⟩ (c_L_comes l hst dC dI cI h0 h0_1 h0_2 h0_3 h0_4 h0_5 h0_6 h0_7 h0_8 h0_9 h0_10 h0_11 h0_12 h0_13 h0_14 h0_15 h0_16 h0_17 h0_18 h0_19 h0_20 h0_21 h0_22 m_387 m_388 h0_25 h0_26 m_389 m_390 h0_29 h0_30 _ u_385 (1 : Int32) _ h) (va_cwS 2 hts (goodIn_up gB_L_comes) rfl rfl rfl (by decide +kernel) ⟨Nat.le_of_ble_eq_true rfl, Nat.le_of_ble_eq_true rfl⟩) (pbl_S hP hK hD hN hX hC hFc hS) rfl rfl hl.1 rfl (lv_room (Nat.le_of_ble_eq_true rfl)) dL_queries_654 ⟨Nat.le_of_ble_eq_true rfl, Nat.le_of_ble_eq_true rfl⟩) hS (fun q _ h => hFc q h) hFc (fun r_393 u_392 t H locs ht hvm h hB hz1 hk1 hS => ?_)
          obtain ⟨m_394, m_395, m_396, m_397, hP1, hD1⟩ := hB
          rw [ht] at hP1
          have hP : va_P (dC, dI) vwCl (lwO cI h0 h0_1 h0_2 h0_3 h0_4 h0_5 h0_6 h0_7 h0_8 h0_9 h0_10 h0_11 h0_12 h0_13 h0_14 h0_15 h0_16 h0_17 h0_18 h0_19 h0_20 h0_21 h0_22 m_394 m_395 h0_25 h0_26 m_396 m_397 h0_29 h0_30 u_392) H := hP1
          have hD : va_D A (lwO cI h0 h0_1 h0_2 h0_3 h0_4 h0_5 h0_6 h0_7 h0_8 h0_9 h0_10 h0_11 h0_12 h0_13 h0_14 h0_15 h0_16 h0_17 h0_18 h0_19 h0_20 h0_21 h0_22 m_394 m_395 h0_25 h0_26 m_396 m_397 h0_29 h0_30 u_392) := hD1.weaken (fun _ _ _ h => hFc _ h)
          refine W.widen (k := 325) (n := 11599) (Nat.le_of_ble_eq_true rfl) (Nat.le_of_ble_eq_true rfl) ?_
          obtain ⟨ht_, hf_⟩ := h
          refine lv_if_eq (tgt := 761) hx hb dL_queries_657 (by decide) (fun c_398 => ?_) (fun c_398 => ?_)
          · have h := ht_ c_398
            exact (show False from h).elim
          · have h := hf_ c_398
            refine lv_aload_n hx hb dL_queries_660 rfl (lv_at hl 0 rfl) ?_
            refine lv_iconst (v := (0 : Int32)) hx hb dL_queries_661 (by decide) ?_
            refine lv_iconst (v := (0 : Int32)) hx hb dL_queries_662 (by decide) ?_
            have hFc := fr0 hA hS
            refine vx_calli (vx_runV (As := [.int (0 : Int32), .int (0 : Int32)]) (rest := []) ⟨hx, hb, hml, hown, hts⟩ (c_X7_answer l hst dC dI cI h0 h0_1 h0_2 h0_3 h0_4 h0_5 h0_6 h0_7 h0_8 h0_9 h0_10 h0_11 h0_12 h0_13 h0_14 h0_15 h0_16 h0_17 h0_18 h0_19 h0_20 h0_21 h0_22 m_394 m_395 h0_25 h0_26 m_396 m_397 h0_29 h0_30 _ u_392 (0 : Int32) (0 : Int32) _ _ h) (cwV 2 hts (goodIn_up gB_X7_answer) rfl rfl rfl (by decide +kernel) ⟨Nat.le_of_ble_eq_true rfl, Nat.le_of_ble_eq_true rfl⟩) (pbj_V hP hK hD hN hX hFc hS (ci := 7) (q0 := 0) rfl rfl) rfl rfl hl.1 rfl (lv_room (Nat.le_of_ble_eq_true rfl)) dL_queries_663 ⟨Nat.le_of_ble_eq_true rfl, Nat.le_of_ble_eq_true rfl⟩) hS (fun q _ h => hFc q h) hFc (fun q _ h => hFc q h) (fun E9 ce9 q9 u t H locs ht hvm h hB hz1 hk1 hS hce hcv hcl => (show False from h).elim) (fun r_400 u_399 t H locs ht hvm h hB hz1 hk1 hS => ?_)
            have hP := vaPk hP hk1
            refine W.widen (k := 326) (n := 11605) (Nat.le_of_ble_eq_true rfl) (Nat.le_of_ble_eq_true rfl) ?_
            refine lv_bipush (v := (7 : Int32)) hx hb dL_queries_666 (by decide) ?_
            obtain ⟨ht_, hf_⟩ := h
            refine lv_icmp_ne (tgt := 761) hx hb dL_queries_668 (by decide) (fun c_401 => ?_) (fun c_401 => ?_)
            · have h := ht_ c_401
              exact (show False from h).elim
            · have h := hf_ c_401
              refine lv_aload_n hx hb dL_queries_671 rfl (lv_at hl 0 rfl) ?_
              refine lv_iconst (v := (0 : Int32)) hx hb dL_queries_672 (by decide) ?_
              refine lv_iconst (v := (1 : Int32)) hx hb dL_queries_673 (by decide) ?_
              have hFc := fr0 hA hS
              refine vx_calli (vx_runV (As := [.int (0 : Int32), .int (1 : Int32)]) (rest := []) ⟨hx, hb, hml, hown, hts⟩ (c_X7_answer l hst dC dI cI h0 h0_1 h0_2 h0_3 h0_4 h0_5 h0_6 h0_7 h0_8 h0_9 h0_10 h0_11 h0_12 h0_13 h0_14 h0_15 h0_16 h0_17 h0_18 h0_19 h0_20 h0_21 h0_22 m_394 m_395 h0_25 h0_26 m_396 m_397 h0_29 h0_30 _ u_392 (0 : Int32) (1 : Int32) _ _ h) (cwV 2 hts (goodIn_up gB_X7_answer) rfl rfl rfl (by decide +kernel) ⟨Nat.le_of_ble_eq_true rfl, Nat.le_of_ble_eq_true rfl⟩) (pbj_V hP hK hD hN hX hFc hS (ci := 7) (q0 := 0) rfl rfl) rfl rfl hl.1 rfl (lv_room (Nat.le_of_ble_eq_true rfl)) dL_queries_674 ⟨Nat.le_of_ble_eq_true rfl, Nat.le_of_ble_eq_true rfl⟩) hS (fun q _ h => hFc q h) hFc (fun q _ h => hFc q h) (fun E9 ce9 q9 u t H locs ht hvm h hB hz1 hk1 hS hce hcv hcl => (show False from h).elim) (fun r_403 u_402 t H locs ht hvm h hB hz1 hk1 hS => ?_)
              have hP := vaPk hP hk1
              refine W.widen (k := 327) (n := 11611) (Nat.le_of_ble_eq_true rfl) (Nat.le_of_ble_eq_true rfl) ?_
              refine lv_bipush (v := (7 : Int32)) hx hb dL_queries_677 (by decide) ?_
              obtain ⟨ht_, hf_⟩ := h
              refine lv_icmp_ne (tgt := 761) hx hb dL_queries_679 (by decide) (fun c_404 => ?_) (fun c_404 => ?_)
              · have h := ht_ c_404
                exact (show False from h).elim
              · have h := hf_ c_404
                refine W.widen (k := 327) (n := 11611) (Nat.le_of_ble_eq_true rfl) (Nat.le_of_ble_eq_true rfl) ?_
                exact sg_L_queries_10 l hst C0 hK hN hX hC hA h0 h0_1 h0_2 h0_3 h0_4 h0_5 h0_6 h0_7 h0_8 h0_9 h0_10 h0_11 h0_12 h0_13 h0_14 h0_15 h0_16 h0_17 h0_18 h0_19 h0_20 h0_21 h0_22 h0_25 h0_26 h0_29 h0_30 _ u_392 h m_394 m_395 m_396 m_397 _ _ hP hD hS _ hl
set_option maxHeartbeats 4000000 in
set_option maxRecDepth 100000 in
theorem sg_L_queries_8 (l : Launch) (hst : l.stackTraces = false) {p : Program} {e : Env} {s : State} {m : MethodId} {below : List Frame} {meth : Method} {c : Code} (C0 : LC p s m (([] : List Value).toArray) meth c cL_queries 1 wq_queries) {dC : Nat → ClassId} {dI : Nat → Nat → Nat} {cI : ClassId} (hK : va_K (dC, dI) vwCl [(cI, .int)] s) (hN : nk s) {A : Nat → Prop} (hX : xj A s) (hC : xnc s) (hA : ∀ q : Nat, s.heap.size ≤ q → A q) (h0 h0_1 h0_2 h0_3 h0_4 h0_5 h0_6 h0_7 h0_8 h0_9 h0_10 h0_11 h0_12 h0_13 h0_14 h0_15 h0_16 h0_17 h0_18 h0_19 h0_20 h0_21 h0_22 h0_25 h0_26 h0_29 h0_30 : Nat) (post : Int32 → Prop) (s0 : TriS) (h : P_L_queries_8 s0 post) (h0_23 h0_24 h0_27 h0_28 : Nat) (H : Heap) (locs : List Loc) (hP : va_P (dC, dI) vwCl (lwO cI h0 h0_1 h0_2 h0_3 h0_4 h0_5 h0_6 h0_7 h0_8 h0_9 h0_10 h0_11 h0_12 h0_13 h0_14 h0_15 h0_16 h0_17 h0_18 h0_19 h0_20 h0_21 h0_22 h0_23 h0_24 h0_25 h0_26 h0_27 h0_28 h0_29 h0_30 s0) H) (hD : va_D A (lwO cI h0 h0_1 h0_2 h0_3 h0_4 h0_5 h0_6 h0_7 h0_8 h0_9 h0_10 h0_11 h0_12 h0_13 h0_14 h0_15 h0_16 h0_17 h0_18 h0_19 h0_20 h0_21 h0_22 h0_23 h0_24 h0_25 h0_26 h0_27 h0_28 h0_29 h0_30 s0)) (hS : va_S A s.heap H locs) (ls : Array Slot) (hl : lv_has ls 1 [(0, .ref h0)]) : W p l e rm_L_queries s m (([] : List Value).toArray) below meth c H locs 299 11443 (MQ below (Q_L_queries dC dI cI A post) (([] : List Value).toArray) s mc_L_queries ms_L_queries A) (F0 m 546 ls []) := by
  obtain ⟨hx, hb, hr, hml, hown, hts, hlocks⟩ := id C0
  refine lv_aload_n hx hb dL_queries_546 rfl (lv_at hl 0 rfl) ?_
  have hFc := fr0 hA hS
  refine va_calli (va_runV (As := []) (rest := []) ⟨hx, hb, hml, hown, hts⟩ (c_X7_answers l dC dI cI h0 h0_1 h0_2 h0_3 h0_4 h0_5 h0_6 h0_7 h0_8 h0_9 h0_10 h0_11 h0_12 h0_13 h0_14 h0_15 h0_16 h0_17 h0_18 h0_19 h0_20 h0_21 h0_22 h0_23 h0_24 h0_25 h0_26 h0_27 h0_28 h0_29 h0_30 _ s0 _ h) (cwV 0 hts (goodIn_up gB_X7_answers) rfl rfl rfl (by decide +kernel) ⟨Nat.le_of_ble_eq_true rfl, Nat.le_of_ble_eq_true rfl⟩) (pb_V hP hK hD hN (ci := 7) (q0 := 0) rfl rfl) rfl rfl hl.1 rfl (lv_room (Nat.le_of_ble_eq_true rfl)) dL_queries_547 ⟨Nat.le_of_ble_eq_true rfl, Nat.le_of_ble_eq_true rfl⟩) hS (fun q _ h => hFc q h) hFc (fun r_320 u_319 t H locs ht hvm h hB hz1 hk1 hS => ?_)
  have hP := vaPk hP hk1
  refine lv_iconst (v := (1 : Int32)) hx hb dL_queries_550 (by decide) ?_
  obtain ⟨ht_, hf_⟩ := h
  refine lv_icmp_ne (tgt := 593) hx hb dL_queries_551 (by decide) (fun c_321 => ?_) (fun c_321 => ?_)
  · have h := ht_ c_321
    exact (show False from h).elim
  · have h := hf_ c_321
    refine lv_aload_n hx hb dL_queries_554 rfl (lv_at hl 0 rfl) ?_
    refine lv_iconst (v := (2 : Int32)) hx hb dL_queries_555 (by decide) ?_
    have hFc := frw hD hS hA
    refine vx_calli (vx_runV (As := [.int (2 : Int32)]) (rest := []) ⟨hx, hb, hml, hown, hts⟩ (c_X7_matches l hst dC dI cI h0 h0_1 h0_2 h0_3 h0_4 h0_5 h0_6 h0_7 h0_8 h0_9 h0_10 h0_11 h0_12 h0_13 h0_14 h0_15 h0_16 h0_17 h0_18 h0_19 h0_20 h0_21 h0_22 h0_23 h0_24 h0_25 h0_26 h0_27 h0_28 h0_29 h0_30 _ s0 (2 : Int32) _ _ h) (cwV 1 hts (goodIn_up gB_X7_matches) rfl rfl rfl (by decide +kernel) ⟨Nat.le_of_ble_eq_true rfl, Nat.le_of_ble_eq_true rfl⟩) (pbj_V hP hK hD hN hX hFc hS (ci := 7) (q0 := 0) rfl rfl) rfl rfl hl.1 rfl (lv_room (Nat.le_of_ble_eq_true rfl)) dL_queries_556 ⟨Nat.le_of_ble_eq_true rfl, Nat.le_of_ble_eq_true rfl⟩) hS (fun q _ h => hFc q h) hFc (fun q _ h => hFc q h) (fun E9 ce9 q9 u t H locs ht hvm h hB hz1 hk1 hS hce hcv hcl => (show False from h).elim) (fun r_323 u_322 t H locs ht hvm h hB hz1 hk1 hS => ?_)
    obtain ⟨m_324, m_325, m_326, m_327, hP1, hD1⟩ := hB
    rw [ht] at hP1
    have hP : va_P (dC, dI) vwCl (lwO cI h0 h0_1 h0_2 h0_3 h0_4 h0_5 h0_6 h0_7 h0_8 h0_9 h0_10 h0_11 h0_12 h0_13 h0_14 h0_15 h0_16 h0_17 h0_18 h0_19 h0_20 h0_21 h0_22 m_324 m_325 h0_25 h0_26 m_326 m_327 h0_29 h0_30 u_322) H := hP1
    have hD : va_D A (lwO cI h0 h0_1 h0_2 h0_3 h0_4 h0_5 h0_6 h0_7 h0_8 h0_9 h0_10 h0_11 h0_12 h0_13 h0_14 h0_15 h0_16 h0_17 h0_18 h0_19 h0_20 h0_21 h0_22 m_324 m_325 h0_25 h0_26 m_326 m_327 h0_29 h0_30 u_322) := hD1.weaken (fun _ _ _ h => hFc _ h)
    refine W.widen (k := 300) (n := 11449) (Nat.le_of_ble_eq_true rfl) (Nat.le_of_ble_eq_true rfl) ?_
    obtain ⟨ht_, hf_⟩ := h
    refine lv_if_ne (tgt := 593) hx hb dL_queries_559 (by decide) (fun c_328 => ?_) (fun c_328 => ?_)
    · have h := ht_ c_328
      exact (show False from h).elim
    · have h := hf_ c_328
      refine lv_aload_n hx hb dL_queries_562 rfl (lv_at hl 0 rfl) ?_
      refine lv_iconst (v := (0 : Int32)) hx hb dL_queries_563 (by decide) ?_
      have hFc := frw hD hS hA
      refine vx_calli (vx_runV (As := [.int (0 : Int32)]) (rest := []) ⟨hx, hb, hml, hown, hts⟩ (c_X7_joined l hst dC dI cI h0 h0_1 h0_2 h0_3 h0_4 h0_5 h0_6 h0_7 h0_8 h0_9 h0_10 h0_11 h0_12 h0_13 h0_14 h0_15 h0_16 h0_17 h0_18 h0_19 h0_20 h0_21 h0_22 m_324 m_325 h0_25 h0_26 m_326 m_327 h0_29 h0_30 _ u_322 (0 : Int32) _ _ h) (cwV 1 hts (goodIn_up gB_X7_joined) rfl rfl rfl (by decide +kernel) ⟨Nat.le_of_ble_eq_true rfl, Nat.le_of_ble_eq_true rfl⟩) (pbj_V hP hK hD hN hX hFc hS (ci := 7) (q0 := 0) rfl rfl) rfl rfl hl.1 rfl (lv_room (Nat.le_of_ble_eq_true rfl)) dL_queries_564 ⟨Nat.le_of_ble_eq_true rfl, Nat.le_of_ble_eq_true rfl⟩) hS (fun q _ h => hFc q h) hFc (fun q _ h => hFc q h) (fun E9 ce9 q9 u t H locs ht hvm h hB hz1 hk1 hS hce hcv hcl => (show False from h).elim) (fun r_330 u_329 t H locs ht hvm h hB hz1 hk1 hS => ?_)
      obtain ⟨m_331, m_332, m_333, m_334, hP1, hD1⟩ := hB
      rw [ht] at hP1
      have hP : va_P (dC, dI) vwCl (lwO cI h0 h0_1 h0_2 h0_3 h0_4 h0_5 h0_6 h0_7 h0_8 h0_9 h0_10 h0_11 h0_12 h0_13 h0_14 h0_15 h0_16 h0_17 h0_18 h0_19 h0_20 h0_21 h0_22 m_331 m_332 h0_25 h0_26 m_333 m_334 h0_29 h0_30 u_329) H := hP1
      have hD : va_D A (lwO cI h0 h0_1 h0_2 h0_3 h0_4 h0_5 h0_6 h0_7 h0_8 h0_9 h0_10 h0_11 h0_12 h0_13 h0_14 h0_15 h0_16 h0_17 h0_18 h0_19 h0_20 h0_21 h0_22 m_331 m_332 h0_25 h0_26 m_333 m_334 h0_29 h0_30 u_329) := hD1.weaken (fun _ _ _ h => hFc _ h)
      refine W.widen (k := 301) (n := 11455) (Nat.le_of_ble_eq_true rfl) (Nat.le_of_ble_eq_true rfl) ?_
      refine lv_iconst (v := (2 : Int32)) hx hb dL_queries_567 (by decide) ?_
      obtain ⟨ht_, hf_⟩ := h
      refine lv_icmp_ne (tgt := 593) hx hb dL_queries_568 (by decide) (fun c_335 => ?_) (fun c_335 => ?_)
      · have h := ht_ c_335
        exact (show False from h).elim
      · have h := hf_ c_335
        refine lv_aload_n hx hb dL_queries_571 rfl (lv_at hl 0 rfl) ?_
        refine lv_iconst (v := (0 : Int32)) hx hb dL_queries_572 (by decide) ?_
        have hFc := frw hD hS hA
        refine va_calli (va_runS (As := [.ref h0, .int (0 : Int32)]) (rest := []) ⟨hx, hb, hml, hown, hts⟩ (c_L_comes l hst dC dI cI h0 h0_1 h0_2 h0_3 h0_4 h0_5 h0_6 h0_7 h0_8 h0_9 h0_10 h0_11 h0_12 h0_13 h0_14 h0_15 h0_16 h0_17 h0_18 h0_19 h0_20 h0_21 h0_22 m_331 m_332 h0_25 h0_26 m_333 m_334 h0_29 h0_30 _ u_329 (0 : Int32) _ h) (va_cwS 2 hts (goodIn_up gB_L_comes) rfl rfl rfl (by decide +kernel) ⟨Nat.le_of_ble_eq_true rfl, Nat.le_of_ble_eq_true rfl⟩) (pbl_S hP hK hD hN hX hC hFc hS) rfl rfl hl.1 rfl (lv_room (Nat.le_of_ble_eq_true rfl)) dL_queries_573 ⟨Nat.le_of_ble_eq_true rfl, Nat.le_of_ble_eq_true rfl⟩) hS (fun q _ h => hFc q h) hFc (fun r_337 u_336 t H locs ht hvm h hB hz1 hk1 hS => ?_)
        obtain ⟨m_338, m_339, m_340, m_341, hP1, hD1⟩ := hB
        rw [ht] at hP1
        have hP : va_P (dC, dI) vwCl (lwO cI h0 h0_1 h0_2 h0_3 h0_4 h0_5 h0_6 h0_7 h0_8 h0_9 h0_10 h0_11 h0_12 h0_13 h0_14 h0_15 h0_16 h0_17 h0_18 h0_19 h0_20 h0_21 h0_22 m_338 m_339 h0_25 h0_26 m_340 m_341 h0_29 h0_30 u_336) H := hP1
        have hD : va_D A (lwO cI h0 h0_1 h0_2 h0_3 h0_4 h0_5 h0_6 h0_7 h0_8 h0_9 h0_10 h0_11 h0_12 h0_13 h0_14 h0_15 h0_16 h0_17 h0_18 h0_19 h0_20 h0_21 h0_22 m_338 m_339 h0_25 h0_26 m_340 m_341 h0_29 h0_30 u_336) := hD1.weaken (fun _ _ _ h => hFc _ h)
        refine W.widen (k := 307) (n := 11491) (Nat.le_of_ble_eq_true rfl) (Nat.le_of_ble_eq_true rfl) ?_
        obtain ⟨ht_, hf_⟩ := h
        refine lv_if_eq (tgt := 593) hx hb dL_queries_576 (by decide) (fun c_342 => ?_) (fun c_342 => ?_)
        · have h := ht_ c_342
          exact (show False from h).elim
        · have h := hf_ c_342
          refine lv_aload_n hx hb dL_queries_579 rfl (lv_at hl 0 rfl) ?_
          refine lv_bipush (v := (13 : Int32)) hx hb dL_queries_580 (by decide) ?_
          refine lv_iconst (v := (0 : Int32)) hx hb dL_queries_582 (by decide) ?_
          refine lv_iconst (v := (0 : Int32)) hx hb dL_queries_583 (by decide) ?_
          refine lv_iconst (v := (0 : Int32)) hx hb dL_queries_584 (by decide) ?_
          have hFc := frw hD hS hA
          refine vx_calli (SX := Unit) (px := fun _ => False) (BX := fun _ _ _ => True) (AX := A) (vx_runSX0 (vx_runSX (As := [.ref h0, .int (13 : Int32), .int (0 : Int32), .int (0 : Int32), .int (0 : Int32)]) (rest := []) ⟨hx, hb, hml, hown, hts⟩ (c_L_act l hst dC dI cI h0 h0_1 h0_2 h0_3 h0_4 h0_5 h0_6 h0_7 h0_8 h0_9 h0_10 h0_11 h0_12 h0_13 h0_14 h0_15 h0_16 h0_17 h0_18 h0_19 h0_20 h0_21 h0_22 m_338 m_339 h0_25 h0_26 m_340 m_341 h0_29 h0_30 _ u_336 (13 : Int32) (0 : Int32) (0 : Int32) (0 : Int32) _ h) (vx_cwSW 5 hts (goodIn_up gB_L_act) rfl rfl rfl (by decide +kernel) ⟨Nat.le_of_ble_eq_true rfl, Nat.le_of_ble_eq_true rfl⟩) (pbl_S hP hK hD hN hX hC hFc hS) rfl rfl hl.1 rfl (lv_room (Nat.le_of_ble_eq_true rfl)) dL_queries_585 ⟨Nat.le_of_ble_eq_true rfl, Nat.le_of_ble_eq_true rfl⟩)) hS (fun q _ h => hFc q h) hFc (fun q _ h => h) (fun E9 ce9 q9 u t H locs ht hvm h hB hz1 hk1 hS hce hcv hcl => h.elim) (fun r_344 u_343 t H locs ht hvm h hB hz1 hk1 hS => ?_)
          obtain ⟨m_345, m_346, m_347, m_348, hP1, hD1⟩ := hB
          rw [ht] at hP1
          have hP : va_P (dC, dI) vwCl (lwO cI h0 h0_1 h0_2 h0_3 h0_4 h0_5 h0_6 h0_7 h0_8 h0_9 h0_10 h0_11 h0_12 h0_13 h0_14 h0_15 h0_16 h0_17 h0_18 h0_19 h0_20 h0_21 h0_22 m_345 m_346 h0_25 h0_26 m_347 m_348 h0_29 h0_30 u_343) H := hP1
          have hD : va_D A (lwO cI h0 h0_1 h0_2 h0_3 h0_4 h0_5 h0_6 h0_7 h0_8 h0_9 h0_10 h0_11 h0_12 h0_13 h0_14 h0_15 h0_16 h0_17 h0_18 h0_19 h0_20 h0_21 h0_22 m_345 m_346 h0_25 h0_26 m_347 m_348 h0_29 h0_30 u_343) := hD1.weaken (fun _ _ _ h => hFc _ h)
          refine W.widen (k := 309) (n := 11503) (Nat.le_of_ble_eq_true rfl) (Nat.le_of_ble_eq_true rfl) ?_
          refine lv_bipush (v := (-91 : Int32)) hx hb dL_queries_588 (by decide) ?_
          obtain ⟨ht_, hf_⟩ := h
          refine lv_icmp_eq (tgt := 595) hx hb dL_queries_590 (by decide) (fun c_349 => ?_) (fun c_349 => ?_)
          · have h := ht_ c_349
            refine lv_aload_n hx hb dL_queries_595 rfl (lv_at hl 0 rfl) ?_
            have hFc := frw hD hS hA
            refine va_calli (va_runV (As := []) (rest := []) ⟨hx, hb, hml, hown, hts⟩ (c_X7_forget l dC dI cI h0 h0_1 h0_2 h0_3 h0_4 h0_5 h0_6 h0_7 h0_8 h0_9 h0_10 h0_11 h0_12 h0_13 h0_14 h0_15 h0_16 h0_17 h0_18 h0_19 h0_20 h0_21 h0_22 m_345 m_346 h0_25 h0_26 m_347 m_348 h0_29 h0_30 _ u_343 _ h) (cwV 0 hts (goodIn_up gB_X7_forget) rfl rfl rfl (by decide +kernel) ⟨Nat.le_of_ble_eq_true rfl, Nat.le_of_ble_eq_true rfl⟩) (pb_V hP hK hD hN (ci := 7) (q0 := 0) rfl rfl) rfl rfl hl.1 rfl (lv_room (Nat.le_of_ble_eq_true rfl)) dL_queries_596 ⟨Nat.le_of_ble_eq_true rfl, Nat.le_of_ble_eq_true rfl⟩) hS (fun q _ h => hFc q h) hFc (fun r_351 u_350 t H locs ht hvm h hB hz1 hk1 hS => ?_)
            obtain ⟨m_352, m_353, m_354, m_355, hP1, hD1⟩ := hB
            rw [ht] at hP1
            have hP : va_P (dC, dI) vwCl (lwO cI h0 h0_1 h0_2 h0_3 h0_4 h0_5 h0_6 h0_7 h0_8 h0_9 h0_10 h0_11 h0_12 h0_13 h0_14 h0_15 h0_16 h0_17 h0_18 h0_19 h0_20 h0_21 h0_22 m_352 m_353 h0_25 h0_26 m_354 m_355 h0_29 h0_30 u_350) H := hP1
            have hD : va_D A (lwO cI h0 h0_1 h0_2 h0_3 h0_4 h0_5 h0_6 h0_7 h0_8 h0_9 h0_10 h0_11 h0_12 h0_13 h0_14 h0_15 h0_16 h0_17 h0_18 h0_19 h0_20 h0_21 h0_22 m_352 m_353 h0_25 h0_26 m_354 m_355 h0_29 h0_30 u_350) := hD1.weaken (fun _ _ _ h => hFc _ h)
            refine lv_iconst (v := (3 : Int32)) hx hb dL_queries_599 (by decide) ?_
            obtain ⟨ht_, hf_⟩ := h
            refine lv_icmp_ne (tgt := 761) hx hb dL_queries_600 (by decide) (fun c_356 => ?_) (fun c_356 => ?_)
            · have h := ht_ c_356
              exact (show False from h).elim
            · have h := hf_ c_356
              refine lv_aload_n hx hb dL_queries_603 rfl (lv_at hl 0 rfl) ?_
              refine lv_iconst (v := (-1 : Int32)) hx hb dL_queries_604 (by decide) ?_
              refine lv_bipush (v := (-2 : Int32)) hx hb dL_queries_605 (by decide) ?_
              refine lv_iconst (v := (-1 : Int32)) hx hb dL_queries_607 (by decide) ?_
              have hFc := frw hD hS hA
              refine vx_calli (vx_runV (As := [.int (-1 : Int32), .int (-2 : Int32), .int (-1 : Int32)]) (rest := []) ⟨hx, hb, hml, hown, hts⟩ (c_X7_addPattern l hst dC dI cI h0 h0_1 h0_2 h0_3 h0_4 h0_5 h0_6 h0_7 h0_8 h0_9 h0_10 h0_11 h0_12 h0_13 h0_14 h0_15 h0_16 h0_17 h0_18 h0_19 h0_20 h0_21 h0_22 m_352 m_353 h0_25 h0_26 m_354 m_355 h0_29 h0_30 _ u_350 (-1 : Int32) (-2 : Int32) (-1 : Int32) _ _ h) (cwV 3 hts (goodIn_up gB_X7_addPattern) rfl rfl rfl (by decide +kernel) ⟨Nat.le_of_ble_eq_true rfl, Nat.le_of_ble_eq_true rfl⟩) (pbj_V hP hK hD hN hX hFc hS (ci := 7) (q0 := 0) rfl rfl) rfl rfl hl.1 rfl (lv_room (Nat.le_of_ble_eq_true rfl)) dL_queries_608 ⟨Nat.le_of_ble_eq_true rfl, Nat.le_of_ble_eq_true rfl⟩) hS (fun q _ h => hFc q h) hFc (fun q _ h => hFc q h) (fun E9 ce9 q9 u t H locs ht hvm h hB hz1 hk1 hS hce hcv hcl => (show False from h).elim) (fun r_358 u_357 t H locs ht hvm h hB hz1 hk1 hS => ?_)
              obtain ⟨m_359, m_360, m_361, m_362, hP1, hD1⟩ := hB
              rw [ht] at hP1
              have hP : va_P (dC, dI) vwCl (lwO cI h0 h0_1 h0_2 h0_3 h0_4 h0_5 h0_6 h0_7 h0_8 h0_9 h0_10 h0_11 h0_12 h0_13 h0_14 h0_15 h0_16 h0_17 h0_18 h0_19 h0_20 h0_21 h0_22 m_359 m_360 h0_25 h0_26 m_361 m_362 h0_29 h0_30 u_357) H := hP1
              have hD : va_D A (lwO cI h0 h0_1 h0_2 h0_3 h0_4 h0_5 h0_6 h0_7 h0_8 h0_9 h0_10 h0_11 h0_12 h0_13 h0_14 h0_15 h0_16 h0_17 h0_18 h0_19 h0_20 h0_21 h0_22 m_359 m_360 h0_25 h0_26 m_361 m_362 h0_29 h0_30 u_357) := hD1.weaken (fun _ _ _ h => hFc _ h)
              refine W.widen (k := 310) (n := 11509) (Nat.le_of_ble_eq_true rfl) (Nat.le_of_ble_eq_true rfl) ?_
              obtain ⟨ht_, hf_⟩ := h
              refine lv_if_ne (tgt := 761) hx hb dL_queries_611 (by decide) (fun c_363 => ?_) (fun c_363 => ?_)
              · have h := ht_ c_363
                exact (show False from h).elim
              · have h := hf_ c_363
                refine W.widen (k := 310) (n := 11509) (Nat.le_of_ble_eq_true rfl) (Nat.le_of_ble_eq_true rfl) ?_
                exact sg_L_queries_9 l hst C0 hK hN hX hC hA h0 h0_1 h0_2 h0_3 h0_4 h0_5 h0_6 h0_7 h0_8 h0_9 h0_10 h0_11 h0_12 h0_13 h0_14 h0_15 h0_16 h0_17 h0_18 h0_19 h0_20 h0_21 h0_22 h0_25 h0_26 h0_29 h0_30 _ u_357 h m_359 m_360 m_361 m_362 _ _ hP hD hS _ hl
          · have h := hf_ c_349
            exact (show False from h).elim
set_option maxHeartbeats 4000000 in
set_option maxRecDepth 100000 in
theorem sg_L_queries_7 (l : Launch) (hst : l.stackTraces = false) {p : Program} {e : Env} {s : State} {m : MethodId} {below : List Frame} {meth : Method} {c : Code} (C0 : LC p s m (([] : List Value).toArray) meth c cL_queries 1 wq_queries) {dC : Nat → ClassId} {dI : Nat → Nat → Nat} {cI : ClassId} (hK : va_K (dC, dI) vwCl [(cI, .int)] s) (hN : nk s) {A : Nat → Prop} (hX : xj A s) (hC : xnc s) (hA : ∀ q : Nat, s.heap.size ≤ q → A q) (h0 h0_1 h0_2 h0_3 h0_4 h0_5 h0_6 h0_7 h0_8 h0_9 h0_10 h0_11 h0_12 h0_13 h0_14 h0_15 h0_16 h0_17 h0_18 h0_19 h0_20 h0_21 h0_22 h0_25 h0_26 h0_29 h0_30 : Nat) (post : Int32 → Prop) (s0 : TriS) (h : P_L_queries_7 s0 post) (h0_23 h0_24 h0_27 h0_28 : Nat) (H : Heap) (locs : List Loc) (hP : va_P (dC, dI) vwCl (lwO cI h0 h0_1 h0_2 h0_3 h0_4 h0_5 h0_6 h0_7 h0_8 h0_9 h0_10 h0_11 h0_12 h0_13 h0_14 h0_15 h0_16 h0_17 h0_18 h0_19 h0_20 h0_21 h0_22 h0_23 h0_24 h0_25 h0_26 h0_27 h0_28 h0_29 h0_30 s0) H) (hD : va_D A (lwO cI h0 h0_1 h0_2 h0_3 h0_4 h0_5 h0_6 h0_7 h0_8 h0_9 h0_10 h0_11 h0_12 h0_13 h0_14 h0_15 h0_16 h0_17 h0_18 h0_19 h0_20 h0_21 h0_22 h0_23 h0_24 h0_25 h0_26 h0_27 h0_28 h0_29 h0_30 s0)) (hS : va_S A s.heap H locs) (ls : Array Slot) (hl : lv_has ls 1 [(0, .ref h0)]) : W p l e rm_L_queries s m (([] : List Value).toArray) below meth c H locs 288 11377 (MQ below (Q_L_queries dC dI cI A post) (([] : List Value).toArray) s mc_L_queries ms_L_queries A) (F0 m 482 ls []) := by
  obtain ⟨hx, hb, hr, hml, hown, hts, hlocks⟩ := id C0
  refine lv_aload_n hx hb dL_queries_482 rfl (lv_at hl 0 rfl) ?_
  refine lv_bipush (v := (9 : Int32)) hx hb dL_queries_483 (by decide) ?_
  refine lv_iconst (v := (1 : Int32)) hx hb dL_queries_485 (by decide) ?_
  refine lv_iconst (v := (5 : Int32)) hx hb dL_queries_486 (by decide) ?_
  have hFc := frw hD hS hA
  refine vx_calli (vx_runV (As := [.int (9 : Int32), .int (1 : Int32), .int (5 : Int32)]) (rest := []) ⟨hx, hb, hml, hown, hts⟩ (c_X7_addPattern l hst dC dI cI h0 h0_1 h0_2 h0_3 h0_4 h0_5 h0_6 h0_7 h0_8 h0_9 h0_10 h0_11 h0_12 h0_13 h0_14 h0_15 h0_16 h0_17 h0_18 h0_19 h0_20 h0_21 h0_22 h0_23 h0_24 h0_25 h0_26 h0_27 h0_28 h0_29 h0_30 _ s0 (9 : Int32) (1 : Int32) (5 : Int32) _ _ h) (cwV 3 hts (goodIn_up gB_X7_addPattern) rfl rfl rfl (by decide +kernel) ⟨Nat.le_of_ble_eq_true rfl, Nat.le_of_ble_eq_true rfl⟩) (pbj_V hP hK hD hN hX hFc hS (ci := 7) (q0 := 0) rfl rfl) rfl rfl hl.1 rfl (lv_room (Nat.le_of_ble_eq_true rfl)) dL_queries_487 ⟨Nat.le_of_ble_eq_true rfl, Nat.le_of_ble_eq_true rfl⟩) hS (fun q _ h => hFc q h) hFc (fun q _ h => hFc q h) (fun E9 ce9 q9 u t H locs ht hvm h hB hz1 hk1 hS hce hcv hcl => (show False from h).elim) (fun r_275 u_274 t H locs ht hvm h hB hz1 hk1 hS => ?_)
  obtain ⟨m_276, m_277, m_278, m_279, hP1, hD1⟩ := hB
  rw [ht] at hP1
  have hP : va_P (dC, dI) vwCl (lwO cI h0 h0_1 h0_2 h0_3 h0_4 h0_5 h0_6 h0_7 h0_8 h0_9 h0_10 h0_11 h0_12 h0_13 h0_14 h0_15 h0_16 h0_17 h0_18 h0_19 h0_20 h0_21 h0_22 m_276 m_277 h0_25 h0_26 m_278 m_279 h0_29 h0_30 u_274) H := hP1
  have hD : va_D A (lwO cI h0 h0_1 h0_2 h0_3 h0_4 h0_5 h0_6 h0_7 h0_8 h0_9 h0_10 h0_11 h0_12 h0_13 h0_14 h0_15 h0_16 h0_17 h0_18 h0_19 h0_20 h0_21 h0_22 m_276 m_277 h0_25 h0_26 m_278 m_279 h0_29 h0_30 u_274) := hD1.weaken (fun _ _ _ h => hFc _ h)
  refine W.widen (k := 289) (n := 11383) (Nat.le_of_ble_eq_true rfl) (Nat.le_of_ble_eq_true rfl) ?_
  refine lv_iconst (v := (2 : Int32)) hx hb dL_queries_490 (by decide) ?_
  obtain ⟨ht_, hf_⟩ := h
  refine lv_icmp_ne (tgt := 593) hx hb dL_queries_491 (by decide) (fun c_280 => ?_) (fun c_280 => ?_)
  · have h := ht_ c_280
    exact (show False from h).elim
  · have h := hf_ c_280
    refine lv_aload_n hx hb dL_queries_494 rfl (lv_at hl 0 rfl) ?_
    have hFc := fr0 hA hS
    refine va_calli (va_runV (As := []) (rest := []) ⟨hx, hb, hml, hown, hts⟩ (c_X7_shape l dC dI cI h0 h0_1 h0_2 h0_3 h0_4 h0_5 h0_6 h0_7 h0_8 h0_9 h0_10 h0_11 h0_12 h0_13 h0_14 h0_15 h0_16 h0_17 h0_18 h0_19 h0_20 h0_21 h0_22 m_276 m_277 h0_25 h0_26 m_278 m_279 h0_29 h0_30 _ u_274 _ h) (cwV 0 hts (goodIn_up gB_X7_shape) rfl rfl rfl (by decide +kernel) ⟨Nat.le_of_ble_eq_true rfl, Nat.le_of_ble_eq_true rfl⟩) (pb_V hP hK hD hN (ci := 7) (q0 := 0) rfl rfl) rfl rfl hl.1 rfl (lv_room (Nat.le_of_ble_eq_true rfl)) dL_queries_495 ⟨Nat.le_of_ble_eq_true rfl, Nat.le_of_ble_eq_true rfl⟩) hS (fun q _ h => hFc q h) hFc (fun r_282 u_281 t H locs ht hvm h hB hz1 hk1 hS => ?_)
    have hP := vaPk hP hk1
    obtain ⟨ht_, hf_⟩ := h
    refine lv_if_ne (tgt := 593) hx hb dL_queries_498 (by decide) (fun c_283 => ?_) (fun c_283 => ?_)
    · have h := ht_ c_283
      exact (show False from h).elim
    · have h := hf_ c_283
      refine lv_aload_n hx hb dL_queries_501 rfl (lv_at hl 0 rfl) ?_
      refine lv_iconst (v := (0 : Int32)) hx hb dL_queries_502 (by decide) ?_
      have hFc := frw hD hS hA
      refine vx_calli (vx_runV (As := [.int (0 : Int32)]) (rest := []) ⟨hx, hb, hml, hown, hts⟩ (c_X7_joined l hst dC dI cI h0 h0_1 h0_2 h0_3 h0_4 h0_5 h0_6 h0_7 h0_8 h0_9 h0_10 h0_11 h0_12 h0_13 h0_14 h0_15 h0_16 h0_17 h0_18 h0_19 h0_20 h0_21 h0_22 m_276 m_277 h0_25 h0_26 m_278 m_279 h0_29 h0_30 _ u_274 (0 : Int32) _ _ h) (cwV 1 hts (goodIn_up gB_X7_joined) rfl rfl rfl (by decide +kernel) ⟨Nat.le_of_ble_eq_true rfl, Nat.le_of_ble_eq_true rfl⟩) (pbj_V hP hK hD hN hX hFc hS (ci := 7) (q0 := 0) rfl rfl) rfl rfl hl.1 rfl (lv_room (Nat.le_of_ble_eq_true rfl)) dL_queries_503 ⟨Nat.le_of_ble_eq_true rfl, Nat.le_of_ble_eq_true rfl⟩) hS (fun q _ h => hFc q h) hFc (fun q _ h => hFc q h) (fun E9 ce9 q9 u t H locs ht hvm h hB hz1 hk1 hS hce hcv hcl => (show False from h).elim) (fun r_285 u_284 t H locs ht hvm h hB hz1 hk1 hS => ?_)
      obtain ⟨m_286, m_287, m_288, m_289, hP1, hD1⟩ := hB
      rw [ht] at hP1
      have hP : va_P (dC, dI) vwCl (lwO cI h0 h0_1 h0_2 h0_3 h0_4 h0_5 h0_6 h0_7 h0_8 h0_9 h0_10 h0_11 h0_12 h0_13 h0_14 h0_15 h0_16 h0_17 h0_18 h0_19 h0_20 h0_21 h0_22 m_286 m_287 h0_25 h0_26 m_288 m_289 h0_29 h0_30 u_284) H := hP1
      have hD : va_D A (lwO cI h0 h0_1 h0_2 h0_3 h0_4 h0_5 h0_6 h0_7 h0_8 h0_9 h0_10 h0_11 h0_12 h0_13 h0_14 h0_15 h0_16 h0_17 h0_18 h0_19 h0_20 h0_21 h0_22 m_286 m_287 h0_25 h0_26 m_288 m_289 h0_29 h0_30 u_284) := hD1.weaken (fun _ _ _ h => hFc _ h)
      refine W.widen (k := 290) (n := 11389) (Nat.le_of_ble_eq_true rfl) (Nat.le_of_ble_eq_true rfl) ?_
      refine lv_iconst (v := (1 : Int32)) hx hb dL_queries_506 (by decide) ?_
      obtain ⟨ht_, hf_⟩ := h
      refine lv_icmp_ne (tgt := 593) hx hb dL_queries_507 (by decide) (fun c_290 => ?_) (fun c_290 => ?_)
      · have h := ht_ c_290
        exact (show False from h).elim
      · have h := hf_ c_290
        refine lv_aload_n hx hb dL_queries_510 rfl (lv_at hl 0 rfl) ?_
        refine lv_iconst (v := (1 : Int32)) hx hb dL_queries_511 (by decide) ?_
        have hFc := frw hD hS hA
        refine vx_calli (vx_runV (As := [.int (1 : Int32)]) (rest := []) ⟨hx, hb, hml, hown, hts⟩ (c_X7_joined l hst dC dI cI h0 h0_1 h0_2 h0_3 h0_4 h0_5 h0_6 h0_7 h0_8 h0_9 h0_10 h0_11 h0_12 h0_13 h0_14 h0_15 h0_16 h0_17 h0_18 h0_19 h0_20 h0_21 h0_22 m_286 m_287 h0_25 h0_26 m_288 m_289 h0_29 h0_30 _ u_284 (1 : Int32) _ _ h) (cwV 1 hts (goodIn_up gB_X7_joined) rfl rfl rfl (by decide +kernel) ⟨Nat.le_of_ble_eq_true rfl, Nat.le_of_ble_eq_true rfl⟩) (pbj_V hP hK hD hN hX hFc hS (ci := 7) (q0 := 0) rfl rfl) rfl rfl hl.1 rfl (lv_room (Nat.le_of_ble_eq_true rfl)) dL_queries_512 ⟨Nat.le_of_ble_eq_true rfl, Nat.le_of_ble_eq_true rfl⟩) hS (fun q _ h => hFc q h) hFc (fun q _ h => hFc q h) (fun E9 ce9 q9 u t H locs ht hvm h hB hz1 hk1 hS hce hcv hcl => (show False from h).elim) (fun r_292 u_291 t H locs ht hvm h hB hz1 hk1 hS => ?_)
        obtain ⟨m_293, m_294, m_295, m_296, hP1, hD1⟩ := hB
        rw [ht] at hP1
        have hP : va_P (dC, dI) vwCl (lwO cI h0 h0_1 h0_2 h0_3 h0_4 h0_5 h0_6 h0_7 h0_8 h0_9 h0_10 h0_11 h0_12 h0_13 h0_14 h0_15 h0_16 h0_17 h0_18 h0_19 h0_20 h0_21 h0_22 m_293 m_294 h0_25 h0_26 m_295 m_296 h0_29 h0_30 u_291) H := hP1
        have hD : va_D A (lwO cI h0 h0_1 h0_2 h0_3 h0_4 h0_5 h0_6 h0_7 h0_8 h0_9 h0_10 h0_11 h0_12 h0_13 h0_14 h0_15 h0_16 h0_17 h0_18 h0_19 h0_20 h0_21 h0_22 m_293 m_294 h0_25 h0_26 m_295 m_296 h0_29 h0_30 u_291) := hD1.weaken (fun _ _ _ h => hFc _ h)
        refine W.widen (k := 291) (n := 11395) (Nat.le_of_ble_eq_true rfl) (Nat.le_of_ble_eq_true rfl) ?_
        obtain ⟨ht_, hf_⟩ := h
        refine lv_if_ne (tgt := 593) hx hb dL_queries_515 (by decide) (fun c_297 => ?_) (fun c_297 => ?_)
        · have h := ht_ c_297
          exact (show False from h).elim
        · have h := hf_ c_297
          refine lv_aload_n hx hb dL_queries_518 rfl (lv_at hl 0 rfl) ?_
          refine lv_iconst (v := (2 : Int32)) hx hb dL_queries_519 (by decide) ?_
          have hFc := frw hD hS hA
          refine vx_calli (vx_runV (As := [.int (2 : Int32)]) (rest := []) ⟨hx, hb, hml, hown, hts⟩ (c_X7_joined l hst dC dI cI h0 h0_1 h0_2 h0_3 h0_4 h0_5 h0_6 h0_7 h0_8 h0_9 h0_10 h0_11 h0_12 h0_13 h0_14 h0_15 h0_16 h0_17 h0_18 h0_19 h0_20 h0_21 h0_22 m_293 m_294 h0_25 h0_26 m_295 m_296 h0_29 h0_30 _ u_291 (2 : Int32) _ _ h) (cwV 1 hts (goodIn_up gB_X7_joined) rfl rfl rfl (by decide +kernel) ⟨Nat.le_of_ble_eq_true rfl, Nat.le_of_ble_eq_true rfl⟩) (pbj_V hP hK hD hN hX hFc hS (ci := 7) (q0 := 0) rfl rfl) rfl rfl hl.1 rfl (lv_room (Nat.le_of_ble_eq_true rfl)) dL_queries_520 ⟨Nat.le_of_ble_eq_true rfl, Nat.le_of_ble_eq_true rfl⟩) hS (fun q _ h => hFc q h) hFc (fun q _ h => hFc q h) (fun E9 ce9 q9 u t H locs ht hvm h hB hz1 hk1 hS hce hcv hcl => (show False from h).elim) (fun r_299 u_298 t H locs ht hvm h hB hz1 hk1 hS => ?_)
          obtain ⟨m_300, m_301, m_302, m_303, hP1, hD1⟩ := hB
          rw [ht] at hP1
          have hP : va_P (dC, dI) vwCl (lwO cI h0 h0_1 h0_2 h0_3 h0_4 h0_5 h0_6 h0_7 h0_8 h0_9 h0_10 h0_11 h0_12 h0_13 h0_14 h0_15 h0_16 h0_17 h0_18 h0_19 h0_20 h0_21 h0_22 m_300 m_301 h0_25 h0_26 m_302 m_303 h0_29 h0_30 u_298) H := hP1
          have hD : va_D A (lwO cI h0 h0_1 h0_2 h0_3 h0_4 h0_5 h0_6 h0_7 h0_8 h0_9 h0_10 h0_11 h0_12 h0_13 h0_14 h0_15 h0_16 h0_17 h0_18 h0_19 h0_20 h0_21 h0_22 m_300 m_301 h0_25 h0_26 m_302 m_303 h0_29 h0_30 u_298) := hD1.weaken (fun _ _ _ h => hFc _ h)
          refine W.widen (k := 292) (n := 11401) (Nat.le_of_ble_eq_true rfl) (Nat.le_of_ble_eq_true rfl) ?_
          refine lv_iconst (v := (2 : Int32)) hx hb dL_queries_523 (by decide) ?_
          obtain ⟨ht_, hf_⟩ := h
          refine lv_icmp_ne (tgt := 593) hx hb dL_queries_524 (by decide) (fun c_304 => ?_) (fun c_304 => ?_)
          · have h := ht_ c_304
            exact (show False from h).elim
          · have h := hf_ c_304
            refine lv_aload_n hx hb dL_queries_527 rfl (lv_at hl 0 rfl) ?_
            refine lv_iconst (v := (1 : Int32)) hx hb dL_queries_528 (by decide) ?_
            have hFc := frw hD hS hA
            refine va_calli (va_runS (As := [.ref h0, .int (1 : Int32)]) (rest := []) ⟨hx, hb, hml, hown, hts⟩ (c_L_comes l hst dC dI cI h0 h0_1 h0_2 h0_3 h0_4 h0_5 h0_6 h0_7 h0_8 h0_9 h0_10 h0_11 h0_12 h0_13 h0_14 h0_15 h0_16 h0_17 h0_18 h0_19 h0_20 h0_21 h0_22 m_300 m_301 h0_25 h0_26 m_302 m_303 h0_29 h0_30 _ u_298 (1 : Int32) _ h) (va_cwS 2 hts (goodIn_up gB_L_comes) rfl rfl rfl (by decide +kernel) ⟨Nat.le_of_ble_eq_true rfl, Nat.le_of_ble_eq_true rfl⟩) (pbl_S hP hK hD hN hX hC hFc hS) rfl rfl hl.1 rfl (lv_room (Nat.le_of_ble_eq_true rfl)) dL_queries_529 ⟨Nat.le_of_ble_eq_true rfl, Nat.le_of_ble_eq_true rfl⟩) hS (fun q _ h => hFc q h) hFc (fun r_306 u_305 t H locs ht hvm h hB hz1 hk1 hS => ?_)
            obtain ⟨m_307, m_308, m_309, m_310, hP1, hD1⟩ := hB
            rw [ht] at hP1
            have hP : va_P (dC, dI) vwCl (lwO cI h0 h0_1 h0_2 h0_3 h0_4 h0_5 h0_6 h0_7 h0_8 h0_9 h0_10 h0_11 h0_12 h0_13 h0_14 h0_15 h0_16 h0_17 h0_18 h0_19 h0_20 h0_21 h0_22 m_307 m_308 h0_25 h0_26 m_309 m_310 h0_29 h0_30 u_305) H := hP1
            have hD : va_D A (lwO cI h0 h0_1 h0_2 h0_3 h0_4 h0_5 h0_6 h0_7 h0_8 h0_9 h0_10 h0_11 h0_12 h0_13 h0_14 h0_15 h0_16 h0_17 h0_18 h0_19 h0_20 h0_21 h0_22 m_307 m_308 h0_25 h0_26 m_309 m_310 h0_29 h0_30 u_305) := hD1.weaken (fun _ _ _ h => hFc _ h)
            refine W.widen (k := 298) (n := 11437) (Nat.le_of_ble_eq_true rfl) (Nat.le_of_ble_eq_true rfl) ?_
            obtain ⟨ht_, hf_⟩ := h
            refine lv_if_eq (tgt := 593) hx hb dL_queries_532 (by decide) (fun c_311 => ?_) (fun c_311 => ?_)
            · have h := ht_ c_311
              exact (show False from h).elim
            · have h := hf_ c_311
              refine lv_aload_n hx hb dL_queries_535 rfl (lv_at hl 0 rfl) ?_
              refine lv_bipush (v := (9 : Int32)) hx hb dL_queries_536 (by decide) ?_
              refine lv_iconst (v := (1 : Int32)) hx hb dL_queries_538 (by decide) ?_
              refine lv_iconst (v := (5 : Int32)) hx hb dL_queries_539 (by decide) ?_
              have hFc := frw hD hS hA
              refine vx_calli (vx_runV (As := [.int (9 : Int32), .int (1 : Int32), .int (5 : Int32)]) (rest := []) ⟨hx, hb, hml, hown, hts⟩ (c_X7_takeBack l hst dC dI cI h0 h0_1 h0_2 h0_3 h0_4 h0_5 h0_6 h0_7 h0_8 h0_9 h0_10 h0_11 h0_12 h0_13 h0_14 h0_15 h0_16 h0_17 h0_18 h0_19 h0_20 h0_21 h0_22 m_307 m_308 h0_25 h0_26 m_309 m_310 h0_29 h0_30 _ u_305 (9 : Int32) (1 : Int32) (5 : Int32) _ _ h) (cwV 3 hts (goodIn_up gB_X7_takeBack) rfl rfl rfl (by decide +kernel) ⟨Nat.le_of_ble_eq_true rfl, Nat.le_of_ble_eq_true rfl⟩) (pbj_V hP hK hD hN hX hFc hS (ci := 7) (q0 := 0) rfl rfl) rfl rfl hl.1 rfl (lv_room (Nat.le_of_ble_eq_true rfl)) dL_queries_540 ⟨Nat.le_of_ble_eq_true rfl, Nat.le_of_ble_eq_true rfl⟩) hS (fun q _ h => hFc q h) hFc (fun q _ h => hFc q h) (fun E9 ce9 q9 u t H locs ht hvm h hB hz1 hk1 hS hce hcv hcl => (show False from h).elim) (fun r_313 u_312 t H locs ht hvm h hB hz1 hk1 hS => ?_)
              obtain ⟨m_314, m_315, m_316, m_317, hP1, hD1⟩ := hB
              rw [ht] at hP1
              have hP : va_P (dC, dI) vwCl (lwO cI h0 h0_1 h0_2 h0_3 h0_4 h0_5 h0_6 h0_7 h0_8 h0_9 h0_10 h0_11 h0_12 h0_13 h0_14 h0_15 h0_16 h0_17 h0_18 h0_19 h0_20 h0_21 h0_22 m_314 m_315 h0_25 h0_26 m_316 m_317 h0_29 h0_30 u_312) H := hP1
              have hD : va_D A (lwO cI h0 h0_1 h0_2 h0_3 h0_4 h0_5 h0_6 h0_7 h0_8 h0_9 h0_10 h0_11 h0_12 h0_13 h0_14 h0_15 h0_16 h0_17 h0_18 h0_19 h0_20 h0_21 h0_22 m_314 m_315 h0_25 h0_26 m_316 m_317 h0_29 h0_30 u_312) := hD1.weaken (fun _ _ _ h => hFc _ h)
              refine W.widen (k := 299) (n := 11443) (Nat.le_of_ble_eq_true rfl) (Nat.le_of_ble_eq_true rfl) ?_
              obtain ⟨ht_, hf_⟩ := h
              refine lv_if_eq (tgt := 593) hx hb dL_queries_543 (by decide) (fun c_318 => ?_) (fun c_318 => ?_)
              · have h := ht_ c_318
                exact (show False from h).elim
              · have h := hf_ c_318
                refine W.widen (k := 299) (n := 11443) (Nat.le_of_ble_eq_true rfl) (Nat.le_of_ble_eq_true rfl) ?_
                exact sg_L_queries_8 l hst C0 hK hN hX hC hA h0 h0_1 h0_2 h0_3 h0_4 h0_5 h0_6 h0_7 h0_8 h0_9 h0_10 h0_11 h0_12 h0_13 h0_14 h0_15 h0_16 h0_17 h0_18 h0_19 h0_20 h0_21 h0_22 h0_25 h0_26 h0_29 h0_30 _ u_312 h m_314 m_315 m_316 m_317 _ _ hP hD hS _ hl
