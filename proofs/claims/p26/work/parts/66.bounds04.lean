set_option maxHeartbeats 4000000 in
set_option maxRecDepth 100000 in
theorem sg_L_bounds_8 (l : Launch) (hst : l.stackTraces = false) {p : Program} {e : Env} {s : State} {m : MethodId} {below : List Frame} {meth : Method} {c : Code} (C0 : LC p s m (([] : List Value).toArray) meth c cL_bounds 3 wq_bounds) {dC : Nat → ClassId} {dI : Nat → Nat → Nat} {cI : ClassId} (hK : va_K (dC, dI) vwCl [(cI, .int)] s) (hN : nk s) {A : Nat → Prop} (hX : xj A s) (hC : xnc s) (hA : ∀ q : Nat, s.heap.size ≤ q → A q) (h0 h0_1 h0_2 h0_3 h0_4 h0_5 h0_6 h0_7 h0_8 h0_9 h0_10 h0_11 h0_12 h0_13 h0_14 h0_15 h0_16 h0_17 h0_18 h0_19 h0_20 h0_21 h0_22 h0_25 h0_26 h0_29 h0_30 : Nat) (post : Int32 → Prop) (s0 : TriS) (h : P_L_bounds_8 s0 post) (h0_23 h0_24 h0_27 h0_28 : Nat) (H : Heap) (locs : List Loc) (hP : va_P (dC, dI) vwCl (lwO cI h0 h0_1 h0_2 h0_3 h0_4 h0_5 h0_6 h0_7 h0_8 h0_9 h0_10 h0_11 h0_12 h0_13 h0_14 h0_15 h0_16 h0_17 h0_18 h0_19 h0_20 h0_21 h0_22 h0_23 h0_24 h0_25 h0_26 h0_27 h0_28 h0_29 h0_30 s0) H) (hD : va_D A (lwO cI h0 h0_1 h0_2 h0_3 h0_4 h0_5 h0_6 h0_7 h0_8 h0_9 h0_10 h0_11 h0_12 h0_13 h0_14 h0_15 h0_16 h0_17 h0_18 h0_19 h0_20 h0_21 h0_22 h0_23 h0_24 h0_25 h0_26 h0_27 h0_28 h0_29 h0_30 s0)) (hS : va_S A s.heap H locs) (ls : Array Slot) (hl : lv_has ls 3 [(0, .ref h0), (1, .int (48 : Int32))]) : W p l e rm_L_bounds s m (([] : List Value).toArray) below meth c H locs 91 10195 (MQ below (Q_L_bounds dC dI cI A post) (([] : List Value).toArray) s mc_L_bounds ms_L_bounds A) (F0 m 118 ls []) := by
  obtain ⟨hx, hb, hr, hml, hown, hts, hlocks⟩ := id C0
  refine lv_iinc (v := (49 : Int32)) (lv' := [(1, .int (49 : Int32)), (0, .ref h0)]) hx hb dL_bounds_118 hl (k := 1) rfl (by decide) (by decide) rfl (fun ls hl => ?_)
  refine lv_goto (tgt := 38) hx hb dL_bounds_121 (by decide) ?_
  refine lv_iload_n hx hb dL_bounds_38 rfl (lv_at hl 0 rfl) ?_
  refine lv_bipush (v := (60 : Int32)) hx hb dL_bounds_39 (by decide) ?_
  refine lv_icmp_ge (tgt := 124) hx hb dL_bounds_41 (by decide) (fun c_505 => absurd c_505 (by decide)) (fun c_505 => ?_)
  refine lv_iload_n hx hb dL_bounds_44 rfl (lv_at hl 0 rfl) ?_
  refine lv_bipush (v := (44 : Int32)) hx hb dL_bounds_45 (by decide) ?_
  refine lv_icmp_ne (tgt := 96) hx hb dL_bounds_47 (by decide) (fun c_506 => ?_) (fun c_506 => absurd c_506 (by decide))
  refine lv_aload_n hx hb dL_bounds_96 rfl (lv_at hl 1 rfl) ?_
  refine lv_iload_n hx hb dL_bounds_97 rfl (lv_at hl 0 rfl) ?_
  refine lv_bipush (v := (9 : Int32)) hx hb dL_bounds_98 (by decide) ?_
  refine lv_idiv hx hb dL_bounds_100 (by decide) ?_
  refine lv_lit (b := (5 : Int32)) (by decide) ?_
  refine lv_bipush (v := (10 : Int32)) hx hb dL_bounds_101 (by decide) ?_
  refine lv_bipush (v := (20 : Int32)) hx hb dL_bounds_103 (by decide) ?_
  refine lv_iload_n hx hb dL_bounds_105 rfl (lv_at hl 0 rfl) ?_
  refine lv_bipush (v := (9 : Int32)) hx hb dL_bounds_106 (by decide) ?_
  refine lv_irem hx hb dL_bounds_108 (by decide) ?_
  refine lv_lit (b := (4 : Int32)) (by decide) ?_
  refine lv_iadd hx hb dL_bounds_109 ?_
  refine lv_lit (b := (24 : Int32)) (by decide) ?_
  have hFc := frw hD hS hA
  refine vx_calli (vx_runV (As := [.int (5 : Int32), .int (10 : Int32), .int (24 : Int32)]) (rest := []) ⟨hx, hb, hml, hown, hts⟩ (c_X7_state l hst dC dI cI h0 h0_1 h0_2 h0_3 h0_4 h0_5 h0_6 h0_7 h0_8 h0_9 h0_10 h0_11 h0_12 h0_13 h0_14 h0_15 h0_16 h0_17 h0_18 h0_19 h0_20 h0_21 h0_22 h0_23 h0_24 h0_25 h0_26 h0_27 h0_28 h0_29 h0_30 _ s0 (5 : Int32) (10 : Int32) (24 : Int32) _ _ h) (cwV 3 hts (goodIn_up gB_X7_state) rfl rfl rfl (by decide +kernel) ⟨Nat.le_of_ble_eq_true rfl, Nat.le_of_ble_eq_true rfl⟩) (pbj_V hP hK hD hN hX hFc hS (ci := 7) (q0 := 0) rfl rfl) rfl rfl hl.1 rfl (lv_room (Nat.le_of_ble_eq_true rfl)) dL_bounds_110 ⟨Nat.le_of_ble_eq_true rfl, Nat.le_of_ble_eq_true rfl⟩) hS (fun q _ h => hFc q h) hFc (fun q _ h => hFc q h) (fun E9 ce9 q9 u t H locs ht hvm h hB hz1 hk1 hS hce hcv hcl => (show False from h).elim) (fun r_508 u_507 t H locs ht hvm h hB hz1 hk1 hS => ?_)
  obtain ⟨m_509, m_510, m_511, m_512, hP1, hD1⟩ := hB
  rw [ht] at hP1
  have hP : va_P (dC, dI) vwCl (lwO cI h0 h0_1 h0_2 h0_3 h0_4 h0_5 h0_6 h0_7 h0_8 h0_9 h0_10 h0_11 h0_12 h0_13 h0_14 h0_15 h0_16 h0_17 h0_18 h0_19 h0_20 h0_21 h0_22 m_509 m_510 h0_25 h0_26 m_511 m_512 h0_29 h0_30 u_507) H := hP1
  have hD : va_D A (lwO cI h0 h0_1 h0_2 h0_3 h0_4 h0_5 h0_6 h0_7 h0_8 h0_9 h0_10 h0_11 h0_12 h0_13 h0_14 h0_15 h0_16 h0_17 h0_18 h0_19 h0_20 h0_21 h0_22 m_509 m_510 h0_25 h0_26 m_511 m_512 h0_29 h0_30 u_507) := hD1.weaken (fun _ _ _ h => hFc _ h)
  refine W.widen (k := 92) (n := 10201) (Nat.le_of_ble_eq_true rfl) (Nat.le_of_ble_eq_true rfl) ?_
  obtain ⟨ht_, hf_⟩ := h
  refine lv_if_ne (tgt := 118) hx hb dL_bounds_113 (by decide) (fun c_513 => ?_) (fun c_513 => ?_)
  · have h := ht_ c_513
    refine lv_iinc (v := (50 : Int32)) (lv' := [(1, .int (50 : Int32)), (0, .ref h0)]) hx hb dL_bounds_118 hl (k := 0) rfl (by decide) (by decide) rfl (fun ls hl => ?_)
    refine lv_goto (tgt := 38) hx hb dL_bounds_121 (by decide) ?_
    refine lv_iload_n hx hb dL_bounds_38 rfl (lv_at hl 0 rfl) ?_
    refine lv_bipush (v := (60 : Int32)) hx hb dL_bounds_39 (by decide) ?_
    refine lv_icmp_ge (tgt := 124) hx hb dL_bounds_41 (by decide) (fun c_514 => absurd c_514 (by decide)) (fun c_514 => ?_)
    refine lv_iload_n hx hb dL_bounds_44 rfl (lv_at hl 0 rfl) ?_
    refine lv_bipush (v := (44 : Int32)) hx hb dL_bounds_45 (by decide) ?_
    refine lv_icmp_ne (tgt := 96) hx hb dL_bounds_47 (by decide) (fun c_515 => ?_) (fun c_515 => absurd c_515 (by decide))
    refine lv_aload_n hx hb dL_bounds_96 rfl (lv_at hl 1 rfl) ?_
    refine lv_iload_n hx hb dL_bounds_97 rfl (lv_at hl 0 rfl) ?_
    refine lv_bipush (v := (9 : Int32)) hx hb dL_bounds_98 (by decide) ?_
    refine lv_idiv hx hb dL_bounds_100 (by decide) ?_
    refine lv_lit (b := (5 : Int32)) (by decide) ?_
    refine lv_bipush (v := (10 : Int32)) hx hb dL_bounds_101 (by decide) ?_
    refine lv_bipush (v := (20 : Int32)) hx hb dL_bounds_103 (by decide) ?_
    refine lv_iload_n hx hb dL_bounds_105 rfl (lv_at hl 0 rfl) ?_
    refine lv_bipush (v := (9 : Int32)) hx hb dL_bounds_106 (by decide) ?_
    refine lv_irem hx hb dL_bounds_108 (by decide) ?_
    refine lv_lit (b := (5 : Int32)) (by decide) ?_
    refine lv_iadd hx hb dL_bounds_109 ?_
    refine lv_lit (b := (25 : Int32)) (by decide) ?_
    have hFc := frw hD hS hA
    refine vx_calli (vx_runV (As := [.int (5 : Int32), .int (10 : Int32), .int (25 : Int32)]) (rest := []) ⟨hx, hb, hml, hown, hts⟩ (c_X7_state l hst dC dI cI h0 h0_1 h0_2 h0_3 h0_4 h0_5 h0_6 h0_7 h0_8 h0_9 h0_10 h0_11 h0_12 h0_13 h0_14 h0_15 h0_16 h0_17 h0_18 h0_19 h0_20 h0_21 h0_22 m_509 m_510 h0_25 h0_26 m_511 m_512 h0_29 h0_30 _ u_507 (5 : Int32) (10 : Int32) (25 : Int32) _ _ h) (cwV 3 hts (goodIn_up gB_X7_state) rfl rfl rfl (by decide +kernel) ⟨Nat.le_of_ble_eq_true rfl, Nat.le_of_ble_eq_true rfl⟩) (pbj_V hP hK hD hN hX hFc hS (ci := 7) (q0 := 0) rfl rfl) rfl rfl hl.1 rfl (lv_room (Nat.le_of_ble_eq_true rfl)) dL_bounds_110 ⟨Nat.le_of_ble_eq_true rfl, Nat.le_of_ble_eq_true rfl⟩) hS (fun q _ h => hFc q h) hFc (fun q _ h => hFc q h) (fun E9 ce9 q9 u t H locs ht hvm h hB hz1 hk1 hS hce hcv hcl => (show False from h).elim) (fun r_517 u_516 t H locs ht hvm h hB hz1 hk1 hS => ?_)
    obtain ⟨m_518, m_519, m_520, m_521, hP1, hD1⟩ := hB
    rw [ht] at hP1
    have hP : va_P (dC, dI) vwCl (lwO cI h0 h0_1 h0_2 h0_3 h0_4 h0_5 h0_6 h0_7 h0_8 h0_9 h0_10 h0_11 h0_12 h0_13 h0_14 h0_15 h0_16 h0_17 h0_18 h0_19 h0_20 h0_21 h0_22 m_518 m_519 h0_25 h0_26 m_520 m_521 h0_29 h0_30 u_516) H := hP1
    have hD : va_D A (lwO cI h0 h0_1 h0_2 h0_3 h0_4 h0_5 h0_6 h0_7 h0_8 h0_9 h0_10 h0_11 h0_12 h0_13 h0_14 h0_15 h0_16 h0_17 h0_18 h0_19 h0_20 h0_21 h0_22 m_518 m_519 h0_25 h0_26 m_520 m_521 h0_29 h0_30 u_516) := hD1.weaken (fun _ _ _ h => hFc _ h)
    refine W.widen (k := 93) (n := 10207) (Nat.le_of_ble_eq_true rfl) (Nat.le_of_ble_eq_true rfl) ?_
    obtain ⟨ht_, hf_⟩ := h
    refine lv_if_ne (tgt := 118) hx hb dL_bounds_113 (by decide) (fun c_522 => ?_) (fun c_522 => ?_)
    · have h := ht_ c_522
      refine lv_iinc (v := (51 : Int32)) (lv' := [(1, .int (51 : Int32)), (0, .ref h0)]) hx hb dL_bounds_118 hl (k := 0) rfl (by decide) (by decide) rfl (fun ls hl => ?_)
      refine lv_goto (tgt := 38) hx hb dL_bounds_121 (by decide) ?_
      refine lv_iload_n hx hb dL_bounds_38 rfl (lv_at hl 0 rfl) ?_
      refine lv_bipush (v := (60 : Int32)) hx hb dL_bounds_39 (by decide) ?_
      refine lv_icmp_ge (tgt := 124) hx hb dL_bounds_41 (by decide) (fun c_523 => absurd c_523 (by decide)) (fun c_523 => ?_)
      refine lv_iload_n hx hb dL_bounds_44 rfl (lv_at hl 0 rfl) ?_
      refine lv_bipush (v := (44 : Int32)) hx hb dL_bounds_45 (by decide) ?_
      refine lv_icmp_ne (tgt := 96) hx hb dL_bounds_47 (by decide) (fun c_524 => ?_) (fun c_524 => absurd c_524 (by decide))
      refine lv_aload_n hx hb dL_bounds_96 rfl (lv_at hl 1 rfl) ?_
      refine lv_iload_n hx hb dL_bounds_97 rfl (lv_at hl 0 rfl) ?_
      refine lv_bipush (v := (9 : Int32)) hx hb dL_bounds_98 (by decide) ?_
      refine lv_idiv hx hb dL_bounds_100 (by decide) ?_
      refine lv_lit (b := (5 : Int32)) (by decide) ?_
      refine lv_bipush (v := (10 : Int32)) hx hb dL_bounds_101 (by decide) ?_
      refine lv_bipush (v := (20 : Int32)) hx hb dL_bounds_103 (by decide) ?_
      refine lv_iload_n hx hb dL_bounds_105 rfl (lv_at hl 0 rfl) ?_
      refine lv_bipush (v := (9 : Int32)) hx hb dL_bounds_106 (by decide) ?_
      refine lv_irem hx hb dL_bounds_108 (by decide) ?_
      refine lv_lit (b := (6 : Int32)) (by decide) ?_
      refine lv_iadd hx hb dL_bounds_109 ?_
      refine lv_lit (b := (26 : Int32)) (by decide) ?_
      have hFc := frw hD hS hA
      refine vx_calli (vx_runV (As := [.int (5 : Int32), .int (10 : Int32), .int (26 : Int32)]) (rest := []) ⟨hx, hb, hml, hown, hts⟩ (c_X7_state l hst dC dI cI h0 h0_1 h0_2 h0_3 h0_4 h0_5 h0_6 h0_7 h0_8 h0_9 h0_10 h0_11 h0_12 h0_13 h0_14 h0_15 h0_16 h0_17 h0_18 h0_19 h0_20 h0_21 h0_22 m_518 m_519 h0_25 h0_26 m_520 m_521 h0_29 h0_30 _ u_516 (5 : Int32) (10 : Int32) (26 : Int32) _ _ h) (cwV 3 hts (goodIn_up gB_X7_state) rfl rfl rfl (by decide +kernel) ⟨Nat.le_of_ble_eq_true rfl, Nat.le_of_ble_eq_true rfl⟩) (pbj_V hP hK hD hN hX hFc hS (ci := 7) (q0 := 0) rfl rfl) rfl rfl hl.1 rfl (lv_room (Nat.le_of_ble_eq_true rfl)) dL_bounds_110 ⟨Nat.le_of_ble_eq_true rfl, Nat.le_of_ble_eq_true rfl⟩) hS (fun q _ h => hFc q h) hFc (fun q _ h => hFc q h) (fun E9 ce9 q9 u t H locs ht hvm h hB hz1 hk1 hS hce hcv hcl => (show False from h).elim) (fun r_526 u_525 t H locs ht hvm h hB hz1 hk1 hS => ?_)
      obtain ⟨m_527, m_528, m_529, m_530, hP1, hD1⟩ := hB
      rw [ht] at hP1
      have hP : va_P (dC, dI) vwCl (lwO cI h0 h0_1 h0_2 h0_3 h0_4 h0_5 h0_6 h0_7 h0_8 h0_9 h0_10 h0_11 h0_12 h0_13 h0_14 h0_15 h0_16 h0_17 h0_18 h0_19 h0_20 h0_21 h0_22 m_527 m_528 h0_25 h0_26 m_529 m_530 h0_29 h0_30 u_525) H := hP1
      have hD : va_D A (lwO cI h0 h0_1 h0_2 h0_3 h0_4 h0_5 h0_6 h0_7 h0_8 h0_9 h0_10 h0_11 h0_12 h0_13 h0_14 h0_15 h0_16 h0_17 h0_18 h0_19 h0_20 h0_21 h0_22 m_527 m_528 h0_25 h0_26 m_529 m_530 h0_29 h0_30 u_525) := hD1.weaken (fun _ _ _ h => hFc _ h)
      refine W.widen (k := 94) (n := 10213) (Nat.le_of_ble_eq_true rfl) (Nat.le_of_ble_eq_true rfl) ?_
      obtain ⟨ht_, hf_⟩ := h
      refine lv_if_ne (tgt := 118) hx hb dL_bounds_113 (by decide) (fun c_531 => ?_) (fun c_531 => ?_)
      · have h := ht_ c_531
        refine lv_iinc (v := (52 : Int32)) (lv' := [(1, .int (52 : Int32)), (0, .ref h0)]) hx hb dL_bounds_118 hl (k := 0) rfl (by decide) (by decide) rfl (fun ls hl => ?_)
        refine lv_goto (tgt := 38) hx hb dL_bounds_121 (by decide) ?_
        refine lv_iload_n hx hb dL_bounds_38 rfl (lv_at hl 0 rfl) ?_
        refine lv_bipush (v := (60 : Int32)) hx hb dL_bounds_39 (by decide) ?_
        refine lv_icmp_ge (tgt := 124) hx hb dL_bounds_41 (by decide) (fun c_532 => absurd c_532 (by decide)) (fun c_532 => ?_)
        refine lv_iload_n hx hb dL_bounds_44 rfl (lv_at hl 0 rfl) ?_
        refine lv_bipush (v := (44 : Int32)) hx hb dL_bounds_45 (by decide) ?_
        refine lv_icmp_ne (tgt := 96) hx hb dL_bounds_47 (by decide) (fun c_533 => ?_) (fun c_533 => absurd c_533 (by decide))
        refine lv_aload_n hx hb dL_bounds_96 rfl (lv_at hl 1 rfl) ?_
        refine lv_iload_n hx hb dL_bounds_97 rfl (lv_at hl 0 rfl) ?_
        refine lv_bipush (v := (9 : Int32)) hx hb dL_bounds_98 (by decide) ?_
        refine lv_idiv hx hb dL_bounds_100 (by decide) ?_
        refine lv_lit (b := (5 : Int32)) (by decide) ?_
        refine lv_bipush (v := (10 : Int32)) hx hb dL_bounds_101 (by decide) ?_
        refine lv_bipush (v := (20 : Int32)) hx hb dL_bounds_103 (by decide) ?_
        refine lv_iload_n hx hb dL_bounds_105 rfl (lv_at hl 0 rfl) ?_
        refine lv_bipush (v := (9 : Int32)) hx hb dL_bounds_106 (by decide) ?_
        refine lv_irem hx hb dL_bounds_108 (by decide) ?_
        refine lv_lit (b := (7 : Int32)) (by decide) ?_
        refine lv_iadd hx hb dL_bounds_109 ?_
        refine lv_lit (b := (27 : Int32)) (by decide) ?_
        have hFc := frw hD hS hA
        refine vx_calli (vx_runV (As := [.int (5 : Int32), .int (10 : Int32), .int (27 : Int32)]) (rest := []) ⟨hx, hb, hml, hown, hts⟩ (c_X7_state l hst dC dI cI h0 h0_1 h0_2 h0_3 h0_4 h0_5 h0_6 h0_7 h0_8 h0_9 h0_10 h0_11 h0_12 h0_13 h0_14 h0_15 h0_16 h0_17 h0_18 h0_19 h0_20 h0_21 h0_22 m_527 m_528 h0_25 h0_26 m_529 m_530 h0_29 h0_30 _ u_525 (5 : Int32) (10 : Int32) (27 : Int32) _ _ h) (cwV 3 hts (goodIn_up gB_X7_state) rfl rfl rfl (by decide +kernel) ⟨Nat.le_of_ble_eq_true rfl, Nat.le_of_ble_eq_true rfl⟩) (pbj_V hP hK hD hN hX hFc hS (ci := 7) (q0 := 0) rfl rfl) rfl rfl hl.1 rfl (lv_room (Nat.le_of_ble_eq_true rfl)) dL_bounds_110 ⟨Nat.le_of_ble_eq_true rfl, Nat.le_of_ble_eq_true rfl⟩) hS (fun q _ h => hFc q h) hFc (fun q _ h => hFc q h) (fun E9 ce9 q9 u t H locs ht hvm h hB hz1 hk1 hS hce hcv hcl => (show False from h).elim) (fun r_535 u_534 t H locs ht hvm h hB hz1 hk1 hS => ?_)
        obtain ⟨m_536, m_537, m_538, m_539, hP1, hD1⟩ := hB
        rw [ht] at hP1
        have hP : va_P (dC, dI) vwCl (lwO cI h0 h0_1 h0_2 h0_3 h0_4 h0_5 h0_6 h0_7 h0_8 h0_9 h0_10 h0_11 h0_12 h0_13 h0_14 h0_15 h0_16 h0_17 h0_18 h0_19 h0_20 h0_21 h0_22 m_536 m_537 h0_25 h0_26 m_538 m_539 h0_29 h0_30 u_534) H := hP1
        have hD : va_D A (lwO cI h0 h0_1 h0_2 h0_3 h0_4 h0_5 h0_6 h0_7 h0_8 h0_9 h0_10 h0_11 h0_12 h0_13 h0_14 h0_15 h0_16 h0_17 h0_18 h0_19 h0_20 h0_21 h0_22 m_536 m_537 h0_25 h0_26 m_538 m_539 h0_29 h0_30 u_534) := hD1.weaken (fun _ _ _ h => hFc _ h)
        refine W.widen (k := 95) (n := 10219) (Nat.le_of_ble_eq_true rfl) (Nat.le_of_ble_eq_true rfl) ?_
        obtain ⟨ht_, hf_⟩ := h
        refine lv_if_ne (tgt := 118) hx hb dL_bounds_113 (by decide) (fun c_540 => ?_) (fun c_540 => ?_)
        · have h := ht_ c_540
          refine lv_iinc (v := (53 : Int32)) (lv' := [(1, .int (53 : Int32)), (0, .ref h0)]) hx hb dL_bounds_118 hl (k := 0) rfl (by decide) (by decide) rfl (fun ls hl => ?_)
          refine lv_goto (tgt := 38) hx hb dL_bounds_121 (by decide) ?_
          refine lv_iload_n hx hb dL_bounds_38 rfl (lv_at hl 0 rfl) ?_
          refine lv_bipush (v := (60 : Int32)) hx hb dL_bounds_39 (by decide) ?_
          refine lv_icmp_ge (tgt := 124) hx hb dL_bounds_41 (by decide) (fun c_541 => absurd c_541 (by decide)) (fun c_541 => ?_)
          refine lv_iload_n hx hb dL_bounds_44 rfl (lv_at hl 0 rfl) ?_
          refine lv_bipush (v := (44 : Int32)) hx hb dL_bounds_45 (by decide) ?_
          refine lv_icmp_ne (tgt := 96) hx hb dL_bounds_47 (by decide) (fun c_542 => ?_) (fun c_542 => absurd c_542 (by decide))
          refine lv_aload_n hx hb dL_bounds_96 rfl (lv_at hl 1 rfl) ?_
          refine lv_iload_n hx hb dL_bounds_97 rfl (lv_at hl 0 rfl) ?_
          refine lv_bipush (v := (9 : Int32)) hx hb dL_bounds_98 (by decide) ?_
          refine lv_idiv hx hb dL_bounds_100 (by decide) ?_
          refine lv_lit (b := (5 : Int32)) (by decide) ?_
          refine lv_bipush (v := (10 : Int32)) hx hb dL_bounds_101 (by decide) ?_
          refine lv_bipush (v := (20 : Int32)) hx hb dL_bounds_103 (by decide) ?_
          refine lv_iload_n hx hb dL_bounds_105 rfl (lv_at hl 0 rfl) ?_
          refine lv_bipush (v := (9 : Int32)) hx hb dL_bounds_106 (by decide) ?_
          refine lv_irem hx hb dL_bounds_108 (by decide) ?_
          refine lv_lit (b := (8 : Int32)) (by decide) ?_
          refine lv_iadd hx hb dL_bounds_109 ?_
          refine lv_lit (b := (28 : Int32)) (by decide) ?_
          have hFc := frw hD hS hA
          refine vx_calli (vx_runV (As := [.int (5 : Int32), .int (10 : Int32), .int (28 : Int32)]) (rest := []) ⟨hx, hb, hml, hown, hts⟩ (c_X7_state l hst dC dI cI h0 h0_1 h0_2 h0_3 h0_4 h0_5 h0_6 h0_7 h0_8 h0_9 h0_10 h0_11 h0_12 h0_13 h0_14 h0_15 h0_16 h0_17 h0_18 h0_19 h0_20 h0_21 h0_22 m_536 m_537 h0_25 h0_26 m_538 m_539 h0_29 h0_30 _ u_534 (5 : Int32) (10 : Int32) (28 : Int32) _ _ h) (cwV 3 hts (goodIn_up gB_X7_state) rfl rfl rfl (by decide +kernel) ⟨Nat.le_of_ble_eq_true rfl, Nat.le_of_ble_eq_true rfl⟩) (pbj_V hP hK hD hN hX hFc hS (ci := 7) (q0 := 0) rfl rfl) rfl rfl hl.1 rfl (lv_room (Nat.le_of_ble_eq_true rfl)) dL_bounds_110 ⟨Nat.le_of_ble_eq_true rfl, Nat.le_of_ble_eq_true rfl⟩) hS (fun q _ h => hFc q h) hFc (fun q _ h => hFc q h) (fun E9 ce9 q9 u t H locs ht hvm h hB hz1 hk1 hS hce hcv hcl => (show False from h).elim) (fun r_544 u_543 t H locs ht hvm h hB hz1 hk1 hS => ?_)
          obtain ⟨m_545, m_546, m_547, m_548, hP1, hD1⟩ := hB
          rw [ht] at hP1
          have hP : va_P (dC, dI) vwCl (lwO cI h0 h0_1 h0_2 h0_3 h0_4 h0_5 h0_6 h0_7 h0_8 h0_9 h0_10 h0_11 h0_12 h0_13 h0_14 h0_15 h0_16 h0_17 h0_18 h0_19 h0_20 h0_21 h0_22 m_545 m_546 h0_25 h0_26 m_547 m_548 h0_29 h0_30 u_543) H := hP1
          have hD : va_D A (lwO cI h0 h0_1 h0_2 h0_3 h0_4 h0_5 h0_6 h0_7 h0_8 h0_9 h0_10 h0_11 h0_12 h0_13 h0_14 h0_15 h0_16 h0_17 h0_18 h0_19 h0_20 h0_21 h0_22 m_545 m_546 h0_25 h0_26 m_547 m_548 h0_29 h0_30 u_543) := hD1.weaken (fun _ _ _ h => hFc _ h)
          refine W.widen (k := 96) (n := 10225) (Nat.le_of_ble_eq_true rfl) (Nat.le_of_ble_eq_true rfl) ?_
          obtain ⟨ht_, hf_⟩ := h
          refine lv_if_ne (tgt := 118) hx hb dL_bounds_113 (by decide) (fun c_549 => ?_) (fun c_549 => ?_)
          · have h := ht_ c_549
            refine lv_iinc (v := (54 : Int32)) (lv' := [(1, .int (54 : Int32)), (0, .ref h0)]) hx hb dL_bounds_118 hl (k := 0) rfl (by decide) (by decide) rfl (fun ls hl => ?_)
            refine lv_goto (tgt := 38) hx hb dL_bounds_121 (by decide) ?_
            refine lv_iload_n hx hb dL_bounds_38 rfl (lv_at hl 0 rfl) ?_
            refine lv_bipush (v := (60 : Int32)) hx hb dL_bounds_39 (by decide) ?_
            refine lv_icmp_ge (tgt := 124) hx hb dL_bounds_41 (by decide) (fun c_550 => absurd c_550 (by decide)) (fun c_550 => ?_)
            refine lv_iload_n hx hb dL_bounds_44 rfl (lv_at hl 0 rfl) ?_
            refine lv_bipush (v := (44 : Int32)) hx hb dL_bounds_45 (by decide) ?_
            refine lv_icmp_ne (tgt := 96) hx hb dL_bounds_47 (by decide) (fun c_551 => ?_) (fun c_551 => absurd c_551 (by decide))
            refine lv_aload_n hx hb dL_bounds_96 rfl (lv_at hl 1 rfl) ?_
            refine lv_iload_n hx hb dL_bounds_97 rfl (lv_at hl 0 rfl) ?_
            refine lv_bipush (v := (9 : Int32)) hx hb dL_bounds_98 (by decide) ?_
            refine lv_idiv hx hb dL_bounds_100 (by decide) ?_
            refine lv_lit (b := (6 : Int32)) (by decide) ?_
            refine lv_bipush (v := (10 : Int32)) hx hb dL_bounds_101 (by decide) ?_
            refine lv_bipush (v := (20 : Int32)) hx hb dL_bounds_103 (by decide) ?_
            refine lv_iload_n hx hb dL_bounds_105 rfl (lv_at hl 0 rfl) ?_
            refine lv_bipush (v := (9 : Int32)) hx hb dL_bounds_106 (by decide) ?_
            refine lv_irem hx hb dL_bounds_108 (by decide) ?_
            refine lv_lit (b := (0 : Int32)) (by decide) ?_
            refine lv_iadd hx hb dL_bounds_109 ?_
            refine lv_lit (b := (20 : Int32)) (by decide) ?_
            have hFc := frw hD hS hA
            refine vx_calli (vx_runV (As := [.int (6 : Int32), .int (10 : Int32), .int (20 : Int32)]) (rest := []) ⟨hx, hb, hml, hown, hts⟩ (c_X7_state l hst dC dI cI h0 h0_1 h0_2 h0_3 h0_4 h0_5 h0_6 h0_7 h0_8 h0_9 h0_10 h0_11 h0_12 h0_13 h0_14 h0_15 h0_16 h0_17 h0_18 h0_19 h0_20 h0_21 h0_22 m_545 m_546 h0_25 h0_26 m_547 m_548 h0_29 h0_30 _ u_543 (6 : Int32) (10 : Int32) (20 : Int32) _ _ h) (cwV 3 hts (goodIn_up gB_X7_state) rfl rfl rfl (by decide +kernel) ⟨Nat.le_of_ble_eq_true rfl, Nat.le_of_ble_eq_true rfl⟩) (pbj_V hP hK hD hN hX hFc hS (ci := 7) (q0 := 0) rfl rfl) rfl rfl hl.1 rfl (lv_room (Nat.le_of_ble_eq_true rfl)) dL_bounds_110 ⟨Nat.le_of_ble_eq_true rfl, Nat.le_of_ble_eq_true rfl⟩) hS (fun q _ h => hFc q h) hFc (fun q _ h => hFc q h) (fun E9 ce9 q9 u t H locs ht hvm h hB hz1 hk1 hS hce hcv hcl => (show False from h).elim) (fun r_553 u_552 t H locs ht hvm h hB hz1 hk1 hS => ?_)
            obtain ⟨m_554, m_555, m_556, m_557, hP1, hD1⟩ := hB
            rw [ht] at hP1
            have hP : va_P (dC, dI) vwCl (lwO cI h0 h0_1 h0_2 h0_3 h0_4 h0_5 h0_6 h0_7 h0_8 h0_9 h0_10 h0_11 h0_12 h0_13 h0_14 h0_15 h0_16 h0_17 h0_18 h0_19 h0_20 h0_21 h0_22 m_554 m_555 h0_25 h0_26 m_556 m_557 h0_29 h0_30 u_552) H := hP1
            have hD : va_D A (lwO cI h0 h0_1 h0_2 h0_3 h0_4 h0_5 h0_6 h0_7 h0_8 h0_9 h0_10 h0_11 h0_12 h0_13 h0_14 h0_15 h0_16 h0_17 h0_18 h0_19 h0_20 h0_21 h0_22 m_554 m_555 h0_25 h0_26 m_556 m_557 h0_29 h0_30 u_552) := hD1.weaken (fun _ _ _ h => hFc _ h)
            refine W.widen (k := 97) (n := 10231) (Nat.le_of_ble_eq_true rfl) (Nat.le_of_ble_eq_true rfl) ?_
            obtain ⟨ht_, hf_⟩ := h
            refine lv_if_ne (tgt := 118) hx hb dL_bounds_113 (by decide) (fun c_558 => ?_) (fun c_558 => ?_)
            · have h := ht_ c_558
              refine lv_iinc (v := (55 : Int32)) (lv' := [(1, .int (55 : Int32)), (0, .ref h0)]) hx hb dL_bounds_118 hl (k := 0) rfl (by decide) (by decide) rfl (fun ls hl => ?_)
              refine lv_goto (tgt := 38) hx hb dL_bounds_121 (by decide) ?_
              refine lv_iload_n hx hb dL_bounds_38 rfl (lv_at hl 0 rfl) ?_
              refine lv_bipush (v := (60 : Int32)) hx hb dL_bounds_39 (by decide) ?_
              refine lv_icmp_ge (tgt := 124) hx hb dL_bounds_41 (by decide) (fun c_559 => absurd c_559 (by decide)) (fun c_559 => ?_)
              refine lv_iload_n hx hb dL_bounds_44 rfl (lv_at hl 0 rfl) ?_
              refine lv_bipush (v := (44 : Int32)) hx hb dL_bounds_45 (by decide) ?_
              refine lv_icmp_ne (tgt := 96) hx hb dL_bounds_47 (by decide) (fun c_560 => ?_) (fun c_560 => absurd c_560 (by decide))
              refine lv_aload_n hx hb dL_bounds_96 rfl (lv_at hl 1 rfl) ?_
              refine lv_iload_n hx hb dL_bounds_97 rfl (lv_at hl 0 rfl) ?_
              refine lv_bipush (v := (9 : Int32)) hx hb dL_bounds_98 (by decide) ?_
              refine lv_idiv hx hb dL_bounds_100 (by decide) ?_
              refine lv_lit (b := (6 : Int32)) (by decide) ?_
              refine lv_bipush (v := (10 : Int32)) hx hb dL_bounds_101 (by decide) ?_
              refine lv_bipush (v := (20 : Int32)) hx hb dL_bounds_103 (by decide) ?_
              refine lv_iload_n hx hb dL_bounds_105 rfl (lv_at hl 0 rfl) ?_
              refine lv_bipush (v := (9 : Int32)) hx hb dL_bounds_106 (by decide) ?_
              refine lv_irem hx hb dL_bounds_108 (by decide) ?_
              refine lv_lit (b := (1 : Int32)) (by decide) ?_
              refine lv_iadd hx hb dL_bounds_109 ?_
              refine lv_lit (b := (21 : Int32)) (by decide) ?_
              have hFc := frw hD hS hA
              refine vx_calli (vx_runV (As := [.int (6 : Int32), .int (10 : Int32), .int (21 : Int32)]) (rest := []) ⟨hx, hb, hml, hown, hts⟩ (c_X7_state l hst dC dI cI h0 h0_1 h0_2 h0_3 h0_4 h0_5 h0_6 h0_7 h0_8 h0_9 h0_10 h0_11 h0_12 h0_13 h0_14 h0_15 h0_16 h0_17 h0_18 h0_19 h0_20 h0_21 h0_22 m_554 m_555 h0_25 h0_26 m_556 m_557 h0_29 h0_30 _ u_552 (6 : Int32) (10 : Int32) (21 : Int32) _ _ h) (cwV 3 hts (goodIn_up gB_X7_state) rfl rfl rfl (by decide +kernel) ⟨Nat.le_of_ble_eq_true rfl, Nat.le_of_ble_eq_true rfl⟩) (pbj_V hP hK hD hN hX hFc hS (ci := 7) (q0 := 0) rfl rfl) rfl rfl hl.1 rfl (lv_room (Nat.le_of_ble_eq_true rfl)) dL_bounds_110 ⟨Nat.le_of_ble_eq_true rfl, Nat.le_of_ble_eq_true rfl⟩) hS (fun q _ h => hFc q h) hFc (fun q _ h => hFc q h) (fun E9 ce9 q9 u t H locs ht hvm h hB hz1 hk1 hS hce hcv hcl => (show False from h).elim) (fun r_562 u_561 t H locs ht hvm h hB hz1 hk1 hS => ?_)
              obtain ⟨m_563, m_564, m_565, m_566, hP1, hD1⟩ := hB
              rw [ht] at hP1
              have hP : va_P (dC, dI) vwCl (lwO cI h0 h0_1 h0_2 h0_3 h0_4 h0_5 h0_6 h0_7 h0_8 h0_9 h0_10 h0_11 h0_12 h0_13 h0_14 h0_15 h0_16 h0_17 h0_18 h0_19 h0_20 h0_21 h0_22 m_563 m_564 h0_25 h0_26 m_565 m_566 h0_29 h0_30 u_561) H := hP1
              have hD : va_D A (lwO cI h0 h0_1 h0_2 h0_3 h0_4 h0_5 h0_6 h0_7 h0_8 h0_9 h0_10 h0_11 h0_12 h0_13 h0_14 h0_15 h0_16 h0_17 h0_18 h0_19 h0_20 h0_21 h0_22 m_563 m_564 h0_25 h0_26 m_565 m_566 h0_29 h0_30 u_561) := hD1.weaken (fun _ _ _ h => hFc _ h)
              refine W.widen (k := 98) (n := 10237) (Nat.le_of_ble_eq_true rfl) (Nat.le_of_ble_eq_true rfl) ?_
              obtain ⟨ht_, hf_⟩ := h
              refine lv_if_ne (tgt := 118) hx hb dL_bounds_113 (by decide) (fun c_567 => ?_) (fun c_567 => ?_)
              · have h := ht_ c_567
                have hl : lv_has ls 3 [(0, .ref h0), (1, .int (55 : Int32))] := lv_sub hl [1, 0] rfl
                refine W.widen (k := 98) (n := 10237) (Nat.le_of_ble_eq_true rfl) (Nat.le_of_ble_eq_true rfl) ?_
                exact sg_L_bounds_9 l hst C0 hK hN hX hC hA h0 h0_1 h0_2 h0_3 h0_4 h0_5 h0_6 h0_7 h0_8 h0_9 h0_10 h0_11 h0_12 h0_13 h0_14 h0_15 h0_16 h0_17 h0_18 h0_19 h0_20 h0_21 h0_22 h0_25 h0_26 h0_29 h0_30 _ u_561 h m_563 m_564 m_565 m_566 _ _ hP hD hS _ hl
              · have h := hf_ c_567
                exact (show False from h).elim
            · have h := hf_ c_558
              exact (show False from h).elim
          · have h := hf_ c_549
            exact (show False from h).elim
        · have h := hf_ c_540
          exact (show False from h).elim
      · have h := hf_ c_531
        exact (show False from h).elim
    · have h := hf_ c_522
      exact (show False from h).elim
  · have h := hf_ c_513
    exact (show False from h).elim
set_option maxHeartbeats 4000000 in
set_option maxRecDepth 100000 in
theorem sg_L_bounds_7 (l : Launch) (hst : l.stackTraces = false) {p : Program} {e : Env} {s : State} {m : MethodId} {below : List Frame} {meth : Method} {c : Code} (C0 : LC p s m (([] : List Value).toArray) meth c cL_bounds 3 wq_bounds) {dC : Nat → ClassId} {dI : Nat → Nat → Nat} {cI : ClassId} (hK : va_K (dC, dI) vwCl [(cI, .int)] s) (hN : nk s) {A : Nat → Prop} (hX : xj A s) (hC : xnc s) (hA : ∀ q : Nat, s.heap.size ≤ q → A q) (h0 h0_1 h0_2 h0_3 h0_4 h0_5 h0_6 h0_7 h0_8 h0_9 h0_10 h0_11 h0_12 h0_13 h0_14 h0_15 h0_16 h0_17 h0_18 h0_19 h0_20 h0_21 h0_22 h0_25 h0_26 h0_29 h0_30 : Nat) (post : Int32 → Prop) (s0 : TriS) (h : P_L_bounds_7 s0 post) (h0_23 h0_24 h0_27 h0_28 : Nat) (H : Heap) (locs : List Loc) (hP : va_P (dC, dI) vwCl (lwO cI h0 h0_1 h0_2 h0_3 h0_4 h0_5 h0_6 h0_7 h0_8 h0_9 h0_10 h0_11 h0_12 h0_13 h0_14 h0_15 h0_16 h0_17 h0_18 h0_19 h0_20 h0_21 h0_22 h0_23 h0_24 h0_25 h0_26 h0_27 h0_28 h0_29 h0_30 s0) H) (hD : va_D A (lwO cI h0 h0_1 h0_2 h0_3 h0_4 h0_5 h0_6 h0_7 h0_8 h0_9 h0_10 h0_11 h0_12 h0_13 h0_14 h0_15 h0_16 h0_17 h0_18 h0_19 h0_20 h0_21 h0_22 h0_23 h0_24 h0_25 h0_26 h0_27 h0_28 h0_29 h0_30 s0)) (hS : va_S A s.heap H locs) (ls : Array Slot) (hl : lv_has ls 3 [(0, .ref h0), (1, .int (44 : Int32))]) : W p l e rm_L_bounds s m (([] : List Value).toArray) below meth c H locs 84 10153 (MQ below (Q_L_bounds dC dI cI A post) (([] : List Value).toArray) s mc_L_bounds ms_L_bounds A) (F0 m 69 ls []) := by
  obtain ⟨hx, hb, hr, hml, hown, hts, hlocks⟩ := id C0
  refine lv_aload_n hx hb dL_bounds_69 rfl (lv_at hl 0 rfl) ?_
  refine lv_sipush (v := (1935 : Int32)) hx hb dL_bounds_70 (by decide) ?_
  refine lv_iconst (v := (3 : Int32)) hx hb dL_bounds_73 (by decide) ?_
  have hFc := fr0 hA hS
  refine vx_calli (vx_runV (As := [.int (1935 : Int32), .int (3 : Int32)]) (rest := []) ⟨hx, hb, hml, hown, hts⟩ (c_X7_answer l hst dC dI cI h0 h0_1 h0_2 h0_3 h0_4 h0_5 h0_6 h0_7 h0_8 h0_9 h0_10 h0_11 h0_12 h0_13 h0_14 h0_15 h0_16 h0_17 h0_18 h0_19 h0_20 h0_21 h0_22 h0_23 h0_24 h0_25 h0_26 h0_27 h0_28 h0_29 h0_30 _ s0 (1935 : Int32) (3 : Int32) _ _ h) (cwV 2 hts (goodIn_up gB_X7_answer) rfl rfl rfl (by decide +kernel) ⟨Nat.le_of_ble_eq_true rfl, Nat.le_of_ble_eq_true rfl⟩) (pbj_V hP hK hD hN hX hFc hS (ci := 7) (q0 := 0) rfl rfl) rfl rfl hl.1 rfl (lv_room (Nat.le_of_ble_eq_true rfl)) dL_bounds_74 ⟨Nat.le_of_ble_eq_true rfl, Nat.le_of_ble_eq_true rfl⟩) hS (fun q _ h => hFc q h) hFc (fun q _ h => hFc q h) (fun E9 ce9 q9 u t H locs ht hvm h hB hz1 hk1 hS hce hcv hcl => (show False from h).elim) (fun r_457 u_456 t H locs ht hvm h hB hz1 hk1 hS => ?_)
  have hP := vaPk hP hk1
  refine W.widen (k := 85) (n := 10159) (Nat.le_of_ble_eq_true rfl) (Nat.le_of_ble_eq_true rfl) ?_
  refine lv_bipush (v := (27 : Int32)) hx hb dL_bounds_77 (by decide) ?_
  obtain ⟨ht_, hf_⟩ := h
  refine lv_icmp_ne (tgt := 94) hx hb dL_bounds_79 (by decide) (fun c_458 => ?_) (fun c_458 => ?_)
  · have h := ht_ c_458
    exact (show False from h).elim
  · have h := hf_ c_458
    refine lv_aload_n hx hb dL_bounds_82 rfl (lv_at hl 0 rfl) ?_
    refine lv_sipush (v := (1935 : Int32)) hx hb dL_bounds_83 (by decide) ?_
    refine lv_iconst (v := (0 : Int32)) hx hb dL_bounds_86 (by decide) ?_
    have hFc := fr0 hA hS
    refine vx_calli (vx_runV (As := [.int (1935 : Int32), .int (0 : Int32)]) (rest := []) ⟨hx, hb, hml, hown, hts⟩ (c_X7_answer l hst dC dI cI h0 h0_1 h0_2 h0_3 h0_4 h0_5 h0_6 h0_7 h0_8 h0_9 h0_10 h0_11 h0_12 h0_13 h0_14 h0_15 h0_16 h0_17 h0_18 h0_19 h0_20 h0_21 h0_22 h0_23 h0_24 h0_25 h0_26 h0_27 h0_28 h0_29 h0_30 _ s0 (1935 : Int32) (0 : Int32) _ _ h) (cwV 2 hts (goodIn_up gB_X7_answer) rfl rfl rfl (by decide +kernel) ⟨Nat.le_of_ble_eq_true rfl, Nat.le_of_ble_eq_true rfl⟩) (pbj_V hP hK hD hN hX hFc hS (ci := 7) (q0 := 0) rfl rfl) rfl rfl hl.1 rfl (lv_room (Nat.le_of_ble_eq_true rfl)) dL_bounds_87 ⟨Nat.le_of_ble_eq_true rfl, Nat.le_of_ble_eq_true rfl⟩) hS (fun q _ h => hFc q h) hFc (fun q _ h => hFc q h) (fun E9 ce9 q9 u t H locs ht hvm h hB hz1 hk1 hS hce hcv hcl => (show False from h).elim) (fun r_460 u_459 t H locs ht hvm h hB hz1 hk1 hS => ?_)
    have hP := vaPk hP hk1
    refine W.widen (k := 86) (n := 10165) (Nat.le_of_ble_eq_true rfl) (Nat.le_of_ble_eq_true rfl) ?_
    refine lv_iconst (v := (4 : Int32)) hx hb dL_bounds_90 (by decide) ?_
    obtain ⟨ht_, hf_⟩ := h
    refine lv_icmp_eq (tgt := 96) hx hb dL_bounds_91 (by decide) (fun c_461 => ?_) (fun c_461 => ?_)
    · have h := ht_ c_461
      refine lv_aload_n hx hb dL_bounds_96 rfl (lv_at hl 0 rfl) ?_
      refine lv_iload_n hx hb dL_bounds_97 rfl (lv_at hl 1 rfl) ?_
      refine lv_bipush (v := (9 : Int32)) hx hb dL_bounds_98 (by decide) ?_
      refine lv_idiv hx hb dL_bounds_100 (by decide) ?_
      refine lv_lit (b := (4 : Int32)) (by decide) ?_
      refine lv_bipush (v := (10 : Int32)) hx hb dL_bounds_101 (by decide) ?_
      refine lv_bipush (v := (20 : Int32)) hx hb dL_bounds_103 (by decide) ?_
      refine lv_iload_n hx hb dL_bounds_105 rfl (lv_at hl 1 rfl) ?_
      refine lv_bipush (v := (9 : Int32)) hx hb dL_bounds_106 (by decide) ?_
      refine lv_irem hx hb dL_bounds_108 (by decide) ?_
      refine lv_lit (b := (8 : Int32)) (by decide) ?_
      refine lv_iadd hx hb dL_bounds_109 ?_
      refine lv_lit (b := (28 : Int32)) (by decide) ?_
      have hFc := frw hD hS hA
      refine vx_calli (vx_runV (As := [.int (4 : Int32), .int (10 : Int32), .int (28 : Int32)]) (rest := []) ⟨hx, hb, hml, hown, hts⟩ (c_X7_state l hst dC dI cI h0 h0_1 h0_2 h0_3 h0_4 h0_5 h0_6 h0_7 h0_8 h0_9 h0_10 h0_11 h0_12 h0_13 h0_14 h0_15 h0_16 h0_17 h0_18 h0_19 h0_20 h0_21 h0_22 h0_23 h0_24 h0_25 h0_26 h0_27 h0_28 h0_29 h0_30 _ s0 (4 : Int32) (10 : Int32) (28 : Int32) _ _ h) (cwV 3 hts (goodIn_up gB_X7_state) rfl rfl rfl (by decide +kernel) ⟨Nat.le_of_ble_eq_true rfl, Nat.le_of_ble_eq_true rfl⟩) (pbj_V hP hK hD hN hX hFc hS (ci := 7) (q0 := 0) rfl rfl) rfl rfl hl.1 rfl (lv_room (Nat.le_of_ble_eq_true rfl)) dL_bounds_110 ⟨Nat.le_of_ble_eq_true rfl, Nat.le_of_ble_eq_true rfl⟩) hS (fun q _ h => hFc q h) hFc (fun q _ h => hFc q h) (fun E9 ce9 q9 u t H locs ht hvm h hB hz1 hk1 hS hce hcv hcl => (show False from h).elim) (fun r_463 u_462 t H locs ht hvm h hB hz1 hk1 hS => ?_)
      obtain ⟨m_464, m_465, m_466, m_467, hP1, hD1⟩ := hB
      rw [ht] at hP1
      have hP : va_P (dC, dI) vwCl (lwO cI h0 h0_1 h0_2 h0_3 h0_4 h0_5 h0_6 h0_7 h0_8 h0_9 h0_10 h0_11 h0_12 h0_13 h0_14 h0_15 h0_16 h0_17 h0_18 h0_19 h0_20 h0_21 h0_22 m_464 m_465 h0_25 h0_26 m_466 m_467 h0_29 h0_30 u_462) H := hP1
      have hD : va_D A (lwO cI h0 h0_1 h0_2 h0_3 h0_4 h0_5 h0_6 h0_7 h0_8 h0_9 h0_10 h0_11 h0_12 h0_13 h0_14 h0_15 h0_16 h0_17 h0_18 h0_19 h0_20 h0_21 h0_22 m_464 m_465 h0_25 h0_26 m_466 m_467 h0_29 h0_30 u_462) := hD1.weaken (fun _ _ _ h => hFc _ h)
      refine W.widen (k := 87) (n := 10171) (Nat.le_of_ble_eq_true rfl) (Nat.le_of_ble_eq_true rfl) ?_
      obtain ⟨ht_, hf_⟩ := h
      refine lv_if_ne (tgt := 118) hx hb dL_bounds_113 (by decide) (fun c_468 => ?_) (fun c_468 => ?_)
      · have h := ht_ c_468
        refine lv_iinc (v := (45 : Int32)) (lv' := [(1, .int (45 : Int32)), (0, .ref h0)]) hx hb dL_bounds_118 hl (k := 1) rfl (by decide) (by decide) rfl (fun ls hl => ?_)
        refine lv_goto (tgt := 38) hx hb dL_bounds_121 (by decide) ?_
        refine lv_iload_n hx hb dL_bounds_38 rfl (lv_at hl 0 rfl) ?_
        refine lv_bipush (v := (60 : Int32)) hx hb dL_bounds_39 (by decide) ?_
        refine lv_icmp_ge (tgt := 124) hx hb dL_bounds_41 (by decide) (fun c_469 => absurd c_469 (by decide)) (fun c_469 => ?_)
        refine lv_iload_n hx hb dL_bounds_44 rfl (lv_at hl 0 rfl) ?_
        refine lv_bipush (v := (44 : Int32)) hx hb dL_bounds_45 (by decide) ?_
        refine lv_icmp_ne (tgt := 96) hx hb dL_bounds_47 (by decide) (fun c_470 => ?_) (fun c_470 => absurd c_470 (by decide))
        refine lv_aload_n hx hb dL_bounds_96 rfl (lv_at hl 1 rfl) ?_
        refine lv_iload_n hx hb dL_bounds_97 rfl (lv_at hl 0 rfl) ?_
        refine lv_bipush (v := (9 : Int32)) hx hb dL_bounds_98 (by decide) ?_
        refine lv_idiv hx hb dL_bounds_100 (by decide) ?_
        refine lv_lit (b := (5 : Int32)) (by decide) ?_
        refine lv_bipush (v := (10 : Int32)) hx hb dL_bounds_101 (by decide) ?_
        refine lv_bipush (v := (20 : Int32)) hx hb dL_bounds_103 (by decide) ?_
        refine lv_iload_n hx hb dL_bounds_105 rfl (lv_at hl 0 rfl) ?_
        refine lv_bipush (v := (9 : Int32)) hx hb dL_bounds_106 (by decide) ?_
        refine lv_irem hx hb dL_bounds_108 (by decide) ?_
        refine lv_lit (b := (0 : Int32)) (by decide) ?_
        refine lv_iadd hx hb dL_bounds_109 ?_
        refine lv_lit (b := (20 : Int32)) (by decide) ?_
        have hFc := frw hD hS hA
        refine vx_calli (vx_runV (As := [.int (5 : Int32), .int (10 : Int32), .int (20 : Int32)]) (rest := []) ⟨hx, hb, hml, hown, hts⟩ (c_X7_state l hst dC dI cI h0 h0_1 h0_2 h0_3 h0_4 h0_5 h0_6 h0_7 h0_8 h0_9 h0_10 h0_11 h0_12 h0_13 h0_14 h0_15 h0_16 h0_17 h0_18 h0_19 h0_20 h0_21 h0_22 m_464 m_465 h0_25 h0_26 m_466 m_467 h0_29 h0_30 _ u_462 (5 : Int32) (10 : Int32) (20 : Int32) _ _ h) (cwV 3 hts (goodIn_up gB_X7_state) rfl rfl rfl (by decide +kernel) ⟨Nat.le_of_ble_eq_true rfl, Nat.le_of_ble_eq_true rfl⟩) (pbj_V hP hK hD hN hX hFc hS (ci := 7) (q0 := 0) rfl rfl) rfl rfl hl.1 rfl (lv_room (Nat.le_of_ble_eq_true rfl)) dL_bounds_110 ⟨Nat.le_of_ble_eq_true rfl, Nat.le_of_ble_eq_true rfl⟩) hS (fun q _ h => hFc q h) hFc (fun q _ h => hFc q h) (fun E9 ce9 q9 u t H locs ht hvm h hB hz1 hk1 hS hce hcv hcl => (show False from h).elim) (fun r_472 u_471 t H locs ht hvm h hB hz1 hk1 hS => ?_)
        obtain ⟨m_473, m_474, m_475, m_476, hP1, hD1⟩ := hB
        rw [ht] at hP1
        have hP : va_P (dC, dI) vwCl (lwO cI h0 h0_1 h0_2 h0_3 h0_4 h0_5 h0_6 h0_7 h0_8 h0_9 h0_10 h0_11 h0_12 h0_13 h0_14 h0_15 h0_16 h0_17 h0_18 h0_19 h0_20 h0_21 h0_22 m_473 m_474 h0_25 h0_26 m_475 m_476 h0_29 h0_30 u_471) H := hP1
        have hD : va_D A (lwO cI h0 h0_1 h0_2 h0_3 h0_4 h0_5 h0_6 h0_7 h0_8 h0_9 h0_10 h0_11 h0_12 h0_13 h0_14 h0_15 h0_16 h0_17 h0_18 h0_19 h0_20 h0_21 h0_22 m_473 m_474 h0_25 h0_26 m_475 m_476 h0_29 h0_30 u_471) := hD1.weaken (fun _ _ _ h => hFc _ h)
        refine W.widen (k := 88) (n := 10177) (Nat.le_of_ble_eq_true rfl) (Nat.le_of_ble_eq_true rfl) ?_
        obtain ⟨ht_, hf_⟩ := h
        refine lv_if_ne (tgt := 118) hx hb dL_bounds_113 (by decide) (fun c_477 => ?_) (fun c_477 => ?_)
        · have h := ht_ c_477
          refine lv_iinc (v := (46 : Int32)) (lv' := [(1, .int (46 : Int32)), (0, .ref h0)]) hx hb dL_bounds_118 hl (k := 0) rfl (by decide) (by decide) rfl (fun ls hl => ?_)
          refine lv_goto (tgt := 38) hx hb dL_bounds_121 (by decide) ?_
          refine lv_iload_n hx hb dL_bounds_38 rfl (lv_at hl 0 rfl) ?_
          refine lv_bipush (v := (60 : Int32)) hx hb dL_bounds_39 (by decide) ?_
          refine lv_icmp_ge (tgt := 124) hx hb dL_bounds_41 (by decide) (fun c_478 => absurd c_478 (by decide)) (fun c_478 => ?_)
          refine lv_iload_n hx hb dL_bounds_44 rfl (lv_at hl 0 rfl) ?_
          refine lv_bipush (v := (44 : Int32)) hx hb dL_bounds_45 (by decide) ?_
          refine lv_icmp_ne (tgt := 96) hx hb dL_bounds_47 (by decide) (fun c_479 => ?_) (fun c_479 => absurd c_479 (by decide))
          refine lv_aload_n hx hb dL_bounds_96 rfl (lv_at hl 1 rfl) ?_
          refine lv_iload_n hx hb dL_bounds_97 rfl (lv_at hl 0 rfl) ?_
          refine lv_bipush (v := (9 : Int32)) hx hb dL_bounds_98 (by decide) ?_
          refine lv_idiv hx hb dL_bounds_100 (by decide) ?_
          refine lv_lit (b := (5 : Int32)) (by decide) ?_
          refine lv_bipush (v := (10 : Int32)) hx hb dL_bounds_101 (by decide) ?_
          refine lv_bipush (v := (20 : Int32)) hx hb dL_bounds_103 (by decide) ?_
          refine lv_iload_n hx hb dL_bounds_105 rfl (lv_at hl 0 rfl) ?_
          refine lv_bipush (v := (9 : Int32)) hx hb dL_bounds_106 (by decide) ?_
          refine lv_irem hx hb dL_bounds_108 (by decide) ?_
          refine lv_lit (b := (1 : Int32)) (by decide) ?_
          refine lv_iadd hx hb dL_bounds_109 ?_
          refine lv_lit (b := (21 : Int32)) (by decide) ?_
          have hFc := frw hD hS hA
          refine vx_calli (vx_runV (As := [.int (5 : Int32), .int (10 : Int32), .int (21 : Int32)]) (rest := []) ⟨hx, hb, hml, hown, hts⟩ (c_X7_state l hst dC dI cI h0 h0_1 h0_2 h0_3 h0_4 h0_5 h0_6 h0_7 h0_8 h0_9 h0_10 h0_11 h0_12 h0_13 h0_14 h0_15 h0_16 h0_17 h0_18 h0_19 h0_20 h0_21 h0_22 m_473 m_474 h0_25 h0_26 m_475 m_476 h0_29 h0_30 _ u_471 (5 : Int32) (10 : Int32) (21 : Int32) _ _ h) (cwV 3 hts (goodIn_up gB_X7_state) rfl rfl rfl (by decide +kernel) ⟨Nat.le_of_ble_eq_true rfl, Nat.le_of_ble_eq_true rfl⟩) (pbj_V hP hK hD hN hX hFc hS (ci := 7) (q0 := 0) rfl rfl) rfl rfl hl.1 rfl (lv_room (Nat.le_of_ble_eq_true rfl)) dL_bounds_110 ⟨Nat.le_of_ble_eq_true rfl, Nat.le_of_ble_eq_true rfl⟩) hS (fun q _ h => hFc q h) hFc (fun q _ h => hFc q h) (fun E9 ce9 q9 u t H locs ht hvm h hB hz1 hk1 hS hce hcv hcl => (show False from h).elim) (fun r_481 u_480 t H locs ht hvm h hB hz1 hk1 hS => ?_)
          obtain ⟨m_482, m_483, m_484, m_485, hP1, hD1⟩ := hB
          rw [ht] at hP1
          have hP : va_P (dC, dI) vwCl (lwO cI h0 h0_1 h0_2 h0_3 h0_4 h0_5 h0_6 h0_7 h0_8 h0_9 h0_10 h0_11 h0_12 h0_13 h0_14 h0_15 h0_16 h0_17 h0_18 h0_19 h0_20 h0_21 h0_22 m_482 m_483 h0_25 h0_26 m_484 m_485 h0_29 h0_30 u_480) H := hP1
          have hD : va_D A (lwO cI h0 h0_1 h0_2 h0_3 h0_4 h0_5 h0_6 h0_7 h0_8 h0_9 h0_10 h0_11 h0_12 h0_13 h0_14 h0_15 h0_16 h0_17 h0_18 h0_19 h0_20 h0_21 h0_22 m_482 m_483 h0_25 h0_26 m_484 m_485 h0_29 h0_30 u_480) := hD1.weaken (fun _ _ _ h => hFc _ h)
          refine W.widen (k := 89) (n := 10183) (Nat.le_of_ble_eq_true rfl) (Nat.le_of_ble_eq_true rfl) ?_
          obtain ⟨ht_, hf_⟩ := h
          refine lv_if_ne (tgt := 118) hx hb dL_bounds_113 (by decide) (fun c_486 => ?_) (fun c_486 => ?_)
          · have h := ht_ c_486
            refine lv_iinc (v := (47 : Int32)) (lv' := [(1, .int (47 : Int32)), (0, .ref h0)]) hx hb dL_bounds_118 hl (k := 0) rfl (by decide) (by decide) rfl (fun ls hl => ?_)
            refine lv_goto (tgt := 38) hx hb dL_bounds_121 (by decide) ?_
            refine lv_iload_n hx hb dL_bounds_38 rfl (lv_at hl 0 rfl) ?_
            refine lv_bipush (v := (60 : Int32)) hx hb dL_bounds_39 (by decide) ?_
            refine lv_icmp_ge (tgt := 124) hx hb dL_bounds_41 (by decide) (fun c_487 => absurd c_487 (by decide)) (fun c_487 => ?_)
            refine lv_iload_n hx hb dL_bounds_44 rfl (lv_at hl 0 rfl) ?_
            refine lv_bipush (v := (44 : Int32)) hx hb dL_bounds_45 (by decide) ?_
            refine lv_icmp_ne (tgt := 96) hx hb dL_bounds_47 (by decide) (fun c_488 => ?_) (fun c_488 => absurd c_488 (by decide))
            refine lv_aload_n hx hb dL_bounds_96 rfl (lv_at hl 1 rfl) ?_
            refine lv_iload_n hx hb dL_bounds_97 rfl (lv_at hl 0 rfl) ?_
            refine lv_bipush (v := (9 : Int32)) hx hb dL_bounds_98 (by decide) ?_
            refine lv_idiv hx hb dL_bounds_100 (by decide) ?_
            refine lv_lit (b := (5 : Int32)) (by decide) ?_
            refine lv_bipush (v := (10 : Int32)) hx hb dL_bounds_101 (by decide) ?_
            refine lv_bipush (v := (20 : Int32)) hx hb dL_bounds_103 (by decide) ?_
            refine lv_iload_n hx hb dL_bounds_105 rfl (lv_at hl 0 rfl) ?_
            refine lv_bipush (v := (9 : Int32)) hx hb dL_bounds_106 (by decide) ?_
            refine lv_irem hx hb dL_bounds_108 (by decide) ?_
            refine lv_lit (b := (2 : Int32)) (by decide) ?_
            refine lv_iadd hx hb dL_bounds_109 ?_
            refine lv_lit (b := (22 : Int32)) (by decide) ?_
            have hFc := frw hD hS hA
            refine vx_calli (vx_runV (As := [.int (5 : Int32), .int (10 : Int32), .int (22 : Int32)]) (rest := []) ⟨hx, hb, hml, hown, hts⟩ (c_X7_state l hst dC dI cI h0 h0_1 h0_2 h0_3 h0_4 h0_5 h0_6 h0_7 h0_8 h0_9 h0_10 h0_11 h0_12 h0_13 h0_14 h0_15 h0_16 h0_17 h0_18 h0_19 h0_20 h0_21 h0_22 m_482 m_483 h0_25 h0_26 m_484 m_485 h0_29 h0_30 _ u_480 (5 : Int32) (10 : Int32) (22 : Int32) _ _ h) (cwV 3 hts (goodIn_up gB_X7_state) rfl rfl rfl (by decide +kernel) ⟨Nat.le_of_ble_eq_true rfl, Nat.le_of_ble_eq_true rfl⟩) (pbj_V hP hK hD hN hX hFc hS (ci := 7) (q0 := 0) rfl rfl) rfl rfl hl.1 rfl (lv_room (Nat.le_of_ble_eq_true rfl)) dL_bounds_110 ⟨Nat.le_of_ble_eq_true rfl, Nat.le_of_ble_eq_true rfl⟩) hS (fun q _ h => hFc q h) hFc (fun q _ h => hFc q h) (fun E9 ce9 q9 u t H locs ht hvm h hB hz1 hk1 hS hce hcv hcl => (show False from h).elim) (fun r_490 u_489 t H locs ht hvm h hB hz1 hk1 hS => ?_)
            obtain ⟨m_491, m_492, m_493, m_494, hP1, hD1⟩ := hB
            rw [ht] at hP1
            have hP : va_P (dC, dI) vwCl (lwO cI h0 h0_1 h0_2 h0_3 h0_4 h0_5 h0_6 h0_7 h0_8 h0_9 h0_10 h0_11 h0_12 h0_13 h0_14 h0_15 h0_16 h0_17 h0_18 h0_19 h0_20 h0_21 h0_22 m_491 m_492 h0_25 h0_26 m_493 m_494 h0_29 h0_30 u_489) H := hP1
            have hD : va_D A (lwO cI h0 h0_1 h0_2 h0_3 h0_4 h0_5 h0_6 h0_7 h0_8 h0_9 h0_10 h0_11 h0_12 h0_13 h0_14 h0_15 h0_16 h0_17 h0_18 h0_19 h0_20 h0_21 h0_22 m_491 m_492 h0_25 h0_26 m_493 m_494 h0_29 h0_30 u_489) := hD1.weaken (fun _ _ _ h => hFc _ h)
            refine W.widen (k := 90) (n := 10189) (Nat.le_of_ble_eq_true rfl) (Nat.le_of_ble_eq_true rfl) ?_
            obtain ⟨ht_, hf_⟩ := h
            refine lv_if_ne (tgt := 118) hx hb dL_bounds_113 (by decide) (fun c_495 => ?_) (fun c_495 => ?_)
            · have h := ht_ c_495
              refine lv_iinc (v := (48 : Int32)) (lv' := [(1, .int (48 : Int32)), (0, .ref h0)]) hx hb dL_bounds_118 hl (k := 0) rfl (by decide) (by decide) rfl (fun ls hl => ?_)
              refine lv_goto (tgt := 38) hx hb dL_bounds_121 (by decide) ?_
              refine lv_iload_n hx hb dL_bounds_38 rfl (lv_at hl 0 rfl) ?_
              refine lv_bipush (v := (60 : Int32)) hx hb dL_bounds_39 (by decide) ?_
              refine lv_icmp_ge (tgt := 124) hx hb dL_bounds_41 (by decide) (fun c_496 => absurd c_496 (by decide)) (fun c_496 => ?_)
              refine lv_iload_n hx hb dL_bounds_44 rfl (lv_at hl 0 rfl) ?_
              refine lv_bipush (v := (44 : Int32)) hx hb dL_bounds_45 (by decide) ?_
              refine lv_icmp_ne (tgt := 96) hx hb dL_bounds_47 (by decide) (fun c_497 => ?_) (fun c_497 => absurd c_497 (by decide))
              refine lv_aload_n hx hb dL_bounds_96 rfl (lv_at hl 1 rfl) ?_
              refine lv_iload_n hx hb dL_bounds_97 rfl (lv_at hl 0 rfl) ?_
              refine lv_bipush (v := (9 : Int32)) hx hb dL_bounds_98 (by decide) ?_
              refine lv_idiv hx hb dL_bounds_100 (by decide) ?_
              refine lv_lit (b := (5 : Int32)) (by decide) ?_
              refine lv_bipush (v := (10 : Int32)) hx hb dL_bounds_101 (by decide) ?_
              refine lv_bipush (v := (20 : Int32)) hx hb dL_bounds_103 (by decide) ?_
              refine lv_iload_n hx hb dL_bounds_105 rfl (lv_at hl 0 rfl) ?_
              refine lv_bipush (v := (9 : Int32)) hx hb dL_bounds_106 (by decide) ?_
              refine lv_irem hx hb dL_bounds_108 (by decide) ?_
              refine lv_lit (b := (3 : Int32)) (by decide) ?_
              refine lv_iadd hx hb dL_bounds_109 ?_
              refine lv_lit (b := (23 : Int32)) (by decide) ?_
              have hFc := frw hD hS hA
              refine vx_calli (vx_runV (As := [.int (5 : Int32), .int (10 : Int32), .int (23 : Int32)]) (rest := []) ⟨hx, hb, hml, hown, hts⟩ (c_X7_state l hst dC dI cI h0 h0_1 h0_2 h0_3 h0_4 h0_5 h0_6 h0_7 h0_8 h0_9 h0_10 h0_11 h0_12 h0_13 h0_14 h0_15 h0_16 h0_17 h0_18 h0_19 h0_20 h0_21 h0_22 m_491 m_492 h0_25 h0_26 m_493 m_494 h0_29 h0_30 _ u_489 (5 : Int32) (10 : Int32) (23 : Int32) _ _ h) (cwV 3 hts (goodIn_up gB_X7_state) rfl rfl rfl (by decide +kernel) ⟨Nat.le_of_ble_eq_true rfl, Nat.le_of_ble_eq_true rfl⟩) (pbj_V hP hK hD hN hX hFc hS (ci := 7) (q0 := 0) rfl rfl) rfl rfl hl.1 rfl (lv_room (Nat.le_of_ble_eq_true rfl)) dL_bounds_110 ⟨Nat.le_of_ble_eq_true rfl, Nat.le_of_ble_eq_true rfl⟩) hS (fun q _ h => hFc q h) hFc (fun q _ h => hFc q h) (fun E9 ce9 q9 u t H locs ht hvm h hB hz1 hk1 hS hce hcv hcl => (show False from h).elim) (fun r_499 u_498 t H locs ht hvm h hB hz1 hk1 hS => ?_)
              obtain ⟨m_500, m_501, m_502, m_503, hP1, hD1⟩ := hB
              rw [ht] at hP1
              have hP : va_P (dC, dI) vwCl (lwO cI h0 h0_1 h0_2 h0_3 h0_4 h0_5 h0_6 h0_7 h0_8 h0_9 h0_10 h0_11 h0_12 h0_13 h0_14 h0_15 h0_16 h0_17 h0_18 h0_19 h0_20 h0_21 h0_22 m_500 m_501 h0_25 h0_26 m_502 m_503 h0_29 h0_30 u_498) H := hP1
              have hD : va_D A (lwO cI h0 h0_1 h0_2 h0_3 h0_4 h0_5 h0_6 h0_7 h0_8 h0_9 h0_10 h0_11 h0_12 h0_13 h0_14 h0_15 h0_16 h0_17 h0_18 h0_19 h0_20 h0_21 h0_22 m_500 m_501 h0_25 h0_26 m_502 m_503 h0_29 h0_30 u_498) := hD1.weaken (fun _ _ _ h => hFc _ h)
              refine W.widen (k := 91) (n := 10195) (Nat.le_of_ble_eq_true rfl) (Nat.le_of_ble_eq_true rfl) ?_
              obtain ⟨ht_, hf_⟩ := h
              refine lv_if_ne (tgt := 118) hx hb dL_bounds_113 (by decide) (fun c_504 => ?_) (fun c_504 => ?_)
              · have h := ht_ c_504
                have hl : lv_has ls 3 [(0, .ref h0), (1, .int (48 : Int32))] := lv_sub hl [1, 0] rfl
                refine W.widen (k := 91) (n := 10195) (Nat.le_of_ble_eq_true rfl) (Nat.le_of_ble_eq_true rfl) ?_
                exact sg_L_bounds_8 l hst C0 hK hN hX hC hA h0 h0_1 h0_2 h0_3 h0_4 h0_5 h0_6 h0_7 h0_8 h0_9 h0_10 h0_11 h0_12 h0_13 h0_14 h0_15 h0_16 h0_17 h0_18 h0_19 h0_20 h0_21 h0_22 h0_25 h0_26 h0_29 h0_30 _ u_498 h m_500 m_501 m_502 m_503 _ _ hP hD hS _ hl
              · have h := hf_ c_504
                exact (show False from h).elim
            · have h := hf_ c_495
              exact (show False from h).elim
          · have h := hf_ c_486
            exact (show False from h).elim
        · have h := hf_ c_477
          exact (show False from h).elim
      · have h := hf_ c_468
        exact (show False from h).elim
    · have h := hf_ c_461
      exact (show False from h).elim
set_option maxHeartbeats 4000000 in
set_option maxRecDepth 100000 in
theorem sg_L_bounds_6 (l : Launch) (hst : l.stackTraces = false) {p : Program} {e : Env} {s : State} {m : MethodId} {below : List Frame} {meth : Method} {c : Code} (C0 : LC p s m (([] : List Value).toArray) meth c cL_bounds 3 wq_bounds) {dC : Nat → ClassId} {dI : Nat → Nat → Nat} {cI : ClassId} (hK : va_K (dC, dI) vwCl [(cI, .int)] s) (hN : nk s) {A : Nat → Prop} (hX : xj A s) (hC : xnc s) (hA : ∀ q : Nat, s.heap.size ≤ q → A q) (h0 h0_1 h0_2 h0_3 h0_4 h0_5 h0_6 h0_7 h0_8 h0_9 h0_10 h0_11 h0_12 h0_13 h0_14 h0_15 h0_16 h0_17 h0_18 h0_19 h0_20 h0_21 h0_22 h0_25 h0_26 h0_29 h0_30 : Nat) (post : Int32 → Prop) (s0 : TriS) (h : P_L_bounds_6 s0 post) (h0_23 h0_24 h0_27 h0_28 : Nat) (H : Heap) (locs : List Loc) (hP : va_P (dC, dI) vwCl (lwO cI h0 h0_1 h0_2 h0_3 h0_4 h0_5 h0_6 h0_7 h0_8 h0_9 h0_10 h0_11 h0_12 h0_13 h0_14 h0_15 h0_16 h0_17 h0_18 h0_19 h0_20 h0_21 h0_22 h0_23 h0_24 h0_25 h0_26 h0_27 h0_28 h0_29 h0_30 s0) H) (hD : va_D A (lwO cI h0 h0_1 h0_2 h0_3 h0_4 h0_5 h0_6 h0_7 h0_8 h0_9 h0_10 h0_11 h0_12 h0_13 h0_14 h0_15 h0_16 h0_17 h0_18 h0_19 h0_20 h0_21 h0_22 h0_23 h0_24 h0_25 h0_26 h0_27 h0_28 h0_29 h0_30 s0)) (hS : va_S A s.heap H locs) (ls : Array Slot) (hl : lv_has ls 3 [(0, .ref h0), (1, .int (38 : Int32))]) : W p l e rm_L_bounds s m (([] : List Value).toArray) below meth c H locs 72 10081 (MQ below (Q_L_bounds dC dI cI A post) (([] : List Value).toArray) s mc_L_bounds ms_L_bounds A) (F0 m 118 ls []) := by
  obtain ⟨hx, hb, hr, hml, hown, hts, hlocks⟩ := id C0
  refine lv_iinc (v := (39 : Int32)) (lv' := [(1, .int (39 : Int32)), (0, .ref h0)]) hx hb dL_bounds_118 hl (k := 1) rfl (by decide) (by decide) rfl (fun ls hl => ?_)
  refine lv_goto (tgt := 38) hx hb dL_bounds_121 (by decide) ?_
  refine lv_iload_n hx hb dL_bounds_38 rfl (lv_at hl 0 rfl) ?_
  refine lv_bipush (v := (60 : Int32)) hx hb dL_bounds_39 (by decide) ?_
  refine lv_icmp_ge (tgt := 124) hx hb dL_bounds_41 (by decide) (fun c_399 => absurd c_399 (by decide)) (fun c_399 => ?_)
  refine lv_iload_n hx hb dL_bounds_44 rfl (lv_at hl 0 rfl) ?_
  refine lv_bipush (v := (44 : Int32)) hx hb dL_bounds_45 (by decide) ?_
  refine lv_icmp_ne (tgt := 96) hx hb dL_bounds_47 (by decide) (fun c_400 => ?_) (fun c_400 => absurd c_400 (by decide))
  refine lv_aload_n hx hb dL_bounds_96 rfl (lv_at hl 1 rfl) ?_
  refine lv_iload_n hx hb dL_bounds_97 rfl (lv_at hl 0 rfl) ?_
  refine lv_bipush (v := (9 : Int32)) hx hb dL_bounds_98 (by decide) ?_
  refine lv_idiv hx hb dL_bounds_100 (by decide) ?_
  refine lv_lit (b := (4 : Int32)) (by decide) ?_
  refine lv_bipush (v := (10 : Int32)) hx hb dL_bounds_101 (by decide) ?_
  refine lv_bipush (v := (20 : Int32)) hx hb dL_bounds_103 (by decide) ?_
  refine lv_iload_n hx hb dL_bounds_105 rfl (lv_at hl 0 rfl) ?_
  refine lv_bipush (v := (9 : Int32)) hx hb dL_bounds_106 (by decide) ?_
  refine lv_irem hx hb dL_bounds_108 (by decide) ?_
  refine lv_lit (b := (3 : Int32)) (by decide) ?_
  refine lv_iadd hx hb dL_bounds_109 ?_
  refine lv_lit (b := (23 : Int32)) (by decide) ?_
  have hFc := frw hD hS hA
  refine vx_calli (vx_runV (As := [.int (4 : Int32), .int (10 : Int32), .int (23 : Int32)]) (rest := []) ⟨hx, hb, hml, hown, hts⟩ (c_X7_state l hst dC dI cI h0 h0_1 h0_2 h0_3 h0_4 h0_5 h0_6 h0_7 h0_8 h0_9 h0_10 h0_11 h0_12 h0_13 h0_14 h0_15 h0_16 h0_17 h0_18 h0_19 h0_20 h0_21 h0_22 h0_23 h0_24 h0_25 h0_26 h0_27 h0_28 h0_29 h0_30 _ s0 (4 : Int32) (10 : Int32) (23 : Int32) _ _ h) (cwV 3 hts (goodIn_up gB_X7_state) rfl rfl rfl (by decide +kernel) ⟨Nat.le_of_ble_eq_true rfl, Nat.le_of_ble_eq_true rfl⟩) (pbj_V hP hK hD hN hX hFc hS (ci := 7) (q0 := 0) rfl rfl) rfl rfl hl.1 rfl (lv_room (Nat.le_of_ble_eq_true rfl)) dL_bounds_110 ⟨Nat.le_of_ble_eq_true rfl, Nat.le_of_ble_eq_true rfl⟩) hS (fun q _ h => hFc q h) hFc (fun q _ h => hFc q h) (fun E9 ce9 q9 u t H locs ht hvm h hB hz1 hk1 hS hce hcv hcl => (show False from h).elim) (fun r_402 u_401 t H locs ht hvm h hB hz1 hk1 hS => ?_)
  obtain ⟨m_403, m_404, m_405, m_406, hP1, hD1⟩ := hB
  rw [ht] at hP1
  have hP : va_P (dC, dI) vwCl (lwO cI h0 h0_1 h0_2 h0_3 h0_4 h0_5 h0_6 h0_7 h0_8 h0_9 h0_10 h0_11 h0_12 h0_13 h0_14 h0_15 h0_16 h0_17 h0_18 h0_19 h0_20 h0_21 h0_22 m_403 m_404 h0_25 h0_26 m_405 m_406 h0_29 h0_30 u_401) H := hP1
  have hD : va_D A (lwO cI h0 h0_1 h0_2 h0_3 h0_4 h0_5 h0_6 h0_7 h0_8 h0_9 h0_10 h0_11 h0_12 h0_13 h0_14 h0_15 h0_16 h0_17 h0_18 h0_19 h0_20 h0_21 h0_22 m_403 m_404 h0_25 h0_26 m_405 m_406 h0_29 h0_30 u_401) := hD1.weaken (fun _ _ _ h => hFc _ h)
  refine W.widen (k := 73) (n := 10087) (Nat.le_of_ble_eq_true rfl) (Nat.le_of_ble_eq_true rfl) ?_
  obtain ⟨ht_, hf_⟩ := h
  refine lv_if_ne (tgt := 118) hx hb dL_bounds_113 (by decide) (fun c_407 => ?_) (fun c_407 => ?_)
  · have h := ht_ c_407
    refine lv_iinc (v := (40 : Int32)) (lv' := [(1, .int (40 : Int32)), (0, .ref h0)]) hx hb dL_bounds_118 hl (k := 0) rfl (by decide) (by decide) rfl (fun ls hl => ?_)
    refine lv_goto (tgt := 38) hx hb dL_bounds_121 (by decide) ?_
    refine lv_iload_n hx hb dL_bounds_38 rfl (lv_at hl 0 rfl) ?_
    refine lv_bipush (v := (60 : Int32)) hx hb dL_bounds_39 (by decide) ?_
    refine lv_icmp_ge (tgt := 124) hx hb dL_bounds_41 (by decide) (fun c_408 => absurd c_408 (by decide)) (fun c_408 => ?_)
    refine lv_iload_n hx hb dL_bounds_44 rfl (lv_at hl 0 rfl) ?_
    refine lv_bipush (v := (44 : Int32)) hx hb dL_bounds_45 (by decide) ?_
    refine lv_icmp_ne (tgt := 96) hx hb dL_bounds_47 (by decide) (fun c_409 => ?_) (fun c_409 => absurd c_409 (by decide))
    refine lv_aload_n hx hb dL_bounds_96 rfl (lv_at hl 1 rfl) ?_
    refine lv_iload_n hx hb dL_bounds_97 rfl (lv_at hl 0 rfl) ?_
    refine lv_bipush (v := (9 : Int32)) hx hb dL_bounds_98 (by decide) ?_
    refine lv_idiv hx hb dL_bounds_100 (by decide) ?_
    refine lv_lit (b := (4 : Int32)) (by decide) ?_
    refine lv_bipush (v := (10 : Int32)) hx hb dL_bounds_101 (by decide) ?_
    refine lv_bipush (v := (20 : Int32)) hx hb dL_bounds_103 (by decide) ?_
    refine lv_iload_n hx hb dL_bounds_105 rfl (lv_at hl 0 rfl) ?_
    refine lv_bipush (v := (9 : Int32)) hx hb dL_bounds_106 (by decide) ?_
    refine lv_irem hx hb dL_bounds_108 (by decide) ?_
    refine lv_lit (b := (4 : Int32)) (by decide) ?_
    refine lv_iadd hx hb dL_bounds_109 ?_
    refine lv_lit (b := (24 : Int32)) (by decide) ?_
    have hFc := frw hD hS hA
    refine vx_calli (vx_runV (As := [.int (4 : Int32), .int (10 : Int32), .int (24 : Int32)]) (rest := []) ⟨hx, hb, hml, hown, hts⟩ (c_X7_state l hst dC dI cI h0 h0_1 h0_2 h0_3 h0_4 h0_5 h0_6 h0_7 h0_8 h0_9 h0_10 h0_11 h0_12 h0_13 h0_14 h0_15 h0_16 h0_17 h0_18 h0_19 h0_20 h0_21 h0_22 m_403 m_404 h0_25 h0_26 m_405 m_406 h0_29 h0_30 _ u_401 (4 : Int32) (10 : Int32) (24 : Int32) _ _ h) (cwV 3 hts (goodIn_up gB_X7_state) rfl rfl rfl (by decide +kernel) ⟨Nat.le_of_ble_eq_true rfl, Nat.le_of_ble_eq_true rfl⟩) (pbj_V hP hK hD hN hX hFc hS (ci := 7) (q0 := 0) rfl rfl) rfl rfl hl.1 rfl (lv_room (Nat.le_of_ble_eq_true rfl)) dL_bounds_110 ⟨Nat.le_of_ble_eq_true rfl, Nat.le_of_ble_eq_true rfl⟩) hS (fun q _ h => hFc q h) hFc (fun q _ h => hFc q h) (fun E9 ce9 q9 u t H locs ht hvm h hB hz1 hk1 hS hce hcv hcl => (show False from h).elim) (fun r_411 u_410 t H locs ht hvm h hB hz1 hk1 hS => ?_)
    obtain ⟨m_412, m_413, m_414, m_415, hP1, hD1⟩ := hB
    rw [ht] at hP1
    have hP : va_P (dC, dI) vwCl (lwO cI h0 h0_1 h0_2 h0_3 h0_4 h0_5 h0_6 h0_7 h0_8 h0_9 h0_10 h0_11 h0_12 h0_13 h0_14 h0_15 h0_16 h0_17 h0_18 h0_19 h0_20 h0_21 h0_22 m_412 m_413 h0_25 h0_26 m_414 m_415 h0_29 h0_30 u_410) H := hP1
    have hD : va_D A (lwO cI h0 h0_1 h0_2 h0_3 h0_4 h0_5 h0_6 h0_7 h0_8 h0_9 h0_10 h0_11 h0_12 h0_13 h0_14 h0_15 h0_16 h0_17 h0_18 h0_19 h0_20 h0_21 h0_22 m_412 m_413 h0_25 h0_26 m_414 m_415 h0_29 h0_30 u_410) := hD1.weaken (fun _ _ _ h => hFc _ h)
    refine W.widen (k := 74) (n := 10093) (Nat.le_of_ble_eq_true rfl) (Nat.le_of_ble_eq_true rfl) ?_
    obtain ⟨ht_, hf_⟩ := h
    refine lv_if_ne (tgt := 118) hx hb dL_bounds_113 (by decide) (fun c_416 => ?_) (fun c_416 => ?_)
    · have h := ht_ c_416
      refine lv_iinc (v := (41 : Int32)) (lv' := [(1, .int (41 : Int32)), (0, .ref h0)]) hx hb dL_bounds_118 hl (k := 0) rfl (by decide) (by decide) rfl (fun ls hl => ?_)
      refine lv_goto (tgt := 38) hx hb dL_bounds_121 (by decide) ?_
      refine lv_iload_n hx hb dL_bounds_38 rfl (lv_at hl 0 rfl) ?_
      refine lv_bipush (v := (60 : Int32)) hx hb dL_bounds_39 (by decide) ?_
      refine lv_icmp_ge (tgt := 124) hx hb dL_bounds_41 (by decide) (fun c_417 => absurd c_417 (by decide)) (fun c_417 => ?_)
      refine lv_iload_n hx hb dL_bounds_44 rfl (lv_at hl 0 rfl) ?_
      refine lv_bipush (v := (44 : Int32)) hx hb dL_bounds_45 (by decide) ?_
      refine lv_icmp_ne (tgt := 96) hx hb dL_bounds_47 (by decide) (fun c_418 => ?_) (fun c_418 => absurd c_418 (by decide))
      refine lv_aload_n hx hb dL_bounds_96 rfl (lv_at hl 1 rfl) ?_
      refine lv_iload_n hx hb dL_bounds_97 rfl (lv_at hl 0 rfl) ?_
      refine lv_bipush (v := (9 : Int32)) hx hb dL_bounds_98 (by decide) ?_
      refine lv_idiv hx hb dL_bounds_100 (by decide) ?_
      refine lv_lit (b := (4 : Int32)) (by decide) ?_
      refine lv_bipush (v := (10 : Int32)) hx hb dL_bounds_101 (by decide) ?_
      refine lv_bipush (v := (20 : Int32)) hx hb dL_bounds_103 (by decide) ?_
      refine lv_iload_n hx hb dL_bounds_105 rfl (lv_at hl 0 rfl) ?_
      refine lv_bipush (v := (9 : Int32)) hx hb dL_bounds_106 (by decide) ?_
      refine lv_irem hx hb dL_bounds_108 (by decide) ?_
      refine lv_lit (b := (5 : Int32)) (by decide) ?_
      refine lv_iadd hx hb dL_bounds_109 ?_
      refine lv_lit (b := (25 : Int32)) (by decide) ?_
      have hFc := frw hD hS hA
      refine vx_calli (vx_runV (As := [.int (4 : Int32), .int (10 : Int32), .int (25 : Int32)]) (rest := []) ⟨hx, hb, hml, hown, hts⟩ (c_X7_state l hst dC dI cI h0 h0_1 h0_2 h0_3 h0_4 h0_5 h0_6 h0_7 h0_8 h0_9 h0_10 h0_11 h0_12 h0_13 h0_14 h0_15 h0_16 h0_17 h0_18 h0_19 h0_20 h0_21 h0_22 m_412 m_413 h0_25 h0_26 m_414 m_415 h0_29 h0_30 _ u_410 (4 : Int32) (10 : Int32) (25 : Int32) _ _ h) (cwV 3 hts (goodIn_up gB_X7_state) rfl rfl rfl (by decide +kernel) ⟨Nat.le_of_ble_eq_true rfl, Nat.le_of_ble_eq_true rfl⟩) (pbj_V hP hK hD hN hX hFc hS (ci := 7) (q0 := 0) rfl rfl) rfl rfl hl.1 rfl (lv_room (Nat.le_of_ble_eq_true rfl)) dL_bounds_110 ⟨Nat.le_of_ble_eq_true rfl, Nat.le_of_ble_eq_true rfl⟩) hS (fun q _ h => hFc q h) hFc (fun q _ h => hFc q h) (fun E9 ce9 q9 u t H locs ht hvm h hB hz1 hk1 hS hce hcv hcl => (show False from h).elim) (fun r_420 u_419 t H locs ht hvm h hB hz1 hk1 hS => ?_)
      obtain ⟨m_421, m_422, m_423, m_424, hP1, hD1⟩ := hB
      rw [ht] at hP1
      have hP : va_P (dC, dI) vwCl (lwO cI h0 h0_1 h0_2 h0_3 h0_4 h0_5 h0_6 h0_7 h0_8 h0_9 h0_10 h0_11 h0_12 h0_13 h0_14 h0_15 h0_16 h0_17 h0_18 h0_19 h0_20 h0_21 h0_22 m_421 m_422 h0_25 h0_26 m_423 m_424 h0_29 h0_30 u_419) H := hP1
      have hD : va_D A (lwO cI h0 h0_1 h0_2 h0_3 h0_4 h0_5 h0_6 h0_7 h0_8 h0_9 h0_10 h0_11 h0_12 h0_13 h0_14 h0_15 h0_16 h0_17 h0_18 h0_19 h0_20 h0_21 h0_22 m_421 m_422 h0_25 h0_26 m_423 m_424 h0_29 h0_30 u_419) := hD1.weaken (fun _ _ _ h => hFc _ h)
      refine W.widen (k := 75) (n := 10099) (Nat.le_of_ble_eq_true rfl) (Nat.le_of_ble_eq_true rfl) ?_
      obtain ⟨ht_, hf_⟩ := h
      refine lv_if_ne (tgt := 118) hx hb dL_bounds_113 (by decide) (fun c_425 => ?_) (fun c_425 => ?_)
      · have h := ht_ c_425
        refine lv_iinc (v := (42 : Int32)) (lv' := [(1, .int (42 : Int32)), (0, .ref h0)]) hx hb dL_bounds_118 hl (k := 0) rfl (by decide) (by decide) rfl (fun ls hl => ?_)
        refine lv_goto (tgt := 38) hx hb dL_bounds_121 (by decide) ?_
        refine lv_iload_n hx hb dL_bounds_38 rfl (lv_at hl 0 rfl) ?_
        refine lv_bipush (v := (60 : Int32)) hx hb dL_bounds_39 (by decide) ?_
        refine lv_icmp_ge (tgt := 124) hx hb dL_bounds_41 (by decide) (fun c_426 => absurd c_426 (by decide)) (fun c_426 => ?_)
        refine lv_iload_n hx hb dL_bounds_44 rfl (lv_at hl 0 rfl) ?_
        refine lv_bipush (v := (44 : Int32)) hx hb dL_bounds_45 (by decide) ?_
        refine lv_icmp_ne (tgt := 96) hx hb dL_bounds_47 (by decide) (fun c_427 => ?_) (fun c_427 => absurd c_427 (by decide))
        refine lv_aload_n hx hb dL_bounds_96 rfl (lv_at hl 1 rfl) ?_
        refine lv_iload_n hx hb dL_bounds_97 rfl (lv_at hl 0 rfl) ?_
        refine lv_bipush (v := (9 : Int32)) hx hb dL_bounds_98 (by decide) ?_
        refine lv_idiv hx hb dL_bounds_100 (by decide) ?_
        refine lv_lit (b := (4 : Int32)) (by decide) ?_
        refine lv_bipush (v := (10 : Int32)) hx hb dL_bounds_101 (by decide) ?_
        refine lv_bipush (v := (20 : Int32)) hx hb dL_bounds_103 (by decide) ?_
        refine lv_iload_n hx hb dL_bounds_105 rfl (lv_at hl 0 rfl) ?_
        refine lv_bipush (v := (9 : Int32)) hx hb dL_bounds_106 (by decide) ?_
        refine lv_irem hx hb dL_bounds_108 (by decide) ?_
        refine lv_lit (b := (6 : Int32)) (by decide) ?_
        refine lv_iadd hx hb dL_bounds_109 ?_
        refine lv_lit (b := (26 : Int32)) (by decide) ?_
        have hFc := frw hD hS hA
        refine vx_calli (vx_runV (As := [.int (4 : Int32), .int (10 : Int32), .int (26 : Int32)]) (rest := []) ⟨hx, hb, hml, hown, hts⟩ (c_X7_state l hst dC dI cI h0 h0_1 h0_2 h0_3 h0_4 h0_5 h0_6 h0_7 h0_8 h0_9 h0_10 h0_11 h0_12 h0_13 h0_14 h0_15 h0_16 h0_17 h0_18 h0_19 h0_20 h0_21 h0_22 m_421 m_422 h0_25 h0_26 m_423 m_424 h0_29 h0_30 _ u_419 (4 : Int32) (10 : Int32) (26 : Int32) _ _ h) (cwV 3 hts (goodIn_up gB_X7_state) rfl rfl rfl (by decide +kernel) ⟨Nat.le_of_ble_eq_true rfl, Nat.le_of_ble_eq_true rfl⟩) (pbj_V hP hK hD hN hX hFc hS (ci := 7) (q0 := 0) rfl rfl) rfl rfl hl.1 rfl (lv_room (Nat.le_of_ble_eq_true rfl)) dL_bounds_110 ⟨Nat.le_of_ble_eq_true rfl, Nat.le_of_ble_eq_true rfl⟩) hS (fun q _ h => hFc q h) hFc (fun q _ h => hFc q h) (fun E9 ce9 q9 u t H locs ht hvm h hB hz1 hk1 hS hce hcv hcl => (show False from h).elim) (fun r_429 u_428 t H locs ht hvm h hB hz1 hk1 hS => ?_)
        obtain ⟨m_430, m_431, m_432, m_433, hP1, hD1⟩ := hB
        rw [ht] at hP1
        have hP : va_P (dC, dI) vwCl (lwO cI h0 h0_1 h0_2 h0_3 h0_4 h0_5 h0_6 h0_7 h0_8 h0_9 h0_10 h0_11 h0_12 h0_13 h0_14 h0_15 h0_16 h0_17 h0_18 h0_19 h0_20 h0_21 h0_22 m_430 m_431 h0_25 h0_26 m_432 m_433 h0_29 h0_30 u_428) H := hP1
        have hD : va_D A (lwO cI h0 h0_1 h0_2 h0_3 h0_4 h0_5 h0_6 h0_7 h0_8 h0_9 h0_10 h0_11 h0_12 h0_13 h0_14 h0_15 h0_16 h0_17 h0_18 h0_19 h0_20 h0_21 h0_22 m_430 m_431 h0_25 h0_26 m_432 m_433 h0_29 h0_30 u_428) := hD1.weaken (fun _ _ _ h => hFc _ h)
        refine W.widen (k := 76) (n := 10105) (Nat.le_of_ble_eq_true rfl) (Nat.le_of_ble_eq_true rfl) ?_
        obtain ⟨ht_, hf_⟩ := h
        refine lv_if_ne (tgt := 118) hx hb dL_bounds_113 (by decide) (fun c_434 => ?_) (fun c_434 => ?_)
        · have h := ht_ c_434
          refine lv_iinc (v := (43 : Int32)) (lv' := [(1, .int (43 : Int32)), (0, .ref h0)]) hx hb dL_bounds_118 hl (k := 0) rfl (by decide) (by decide) rfl (fun ls hl => ?_)
          refine lv_goto (tgt := 38) hx hb dL_bounds_121 (by decide) ?_
          refine lv_iload_n hx hb dL_bounds_38 rfl (lv_at hl 0 rfl) ?_
          refine lv_bipush (v := (60 : Int32)) hx hb dL_bounds_39 (by decide) ?_
          refine lv_icmp_ge (tgt := 124) hx hb dL_bounds_41 (by decide) (fun c_435 => absurd c_435 (by decide)) (fun c_435 => ?_)
          refine lv_iload_n hx hb dL_bounds_44 rfl (lv_at hl 0 rfl) ?_
          refine lv_bipush (v := (44 : Int32)) hx hb dL_bounds_45 (by decide) ?_
          refine lv_icmp_ne (tgt := 96) hx hb dL_bounds_47 (by decide) (fun c_436 => ?_) (fun c_436 => absurd c_436 (by decide))
          refine lv_aload_n hx hb dL_bounds_96 rfl (lv_at hl 1 rfl) ?_
          refine lv_iload_n hx hb dL_bounds_97 rfl (lv_at hl 0 rfl) ?_
          refine lv_bipush (v := (9 : Int32)) hx hb dL_bounds_98 (by decide) ?_
          refine lv_idiv hx hb dL_bounds_100 (by decide) ?_
          refine lv_lit (b := (4 : Int32)) (by decide) ?_
          refine lv_bipush (v := (10 : Int32)) hx hb dL_bounds_101 (by decide) ?_
          refine lv_bipush (v := (20 : Int32)) hx hb dL_bounds_103 (by decide) ?_
          refine lv_iload_n hx hb dL_bounds_105 rfl (lv_at hl 0 rfl) ?_
          refine lv_bipush (v := (9 : Int32)) hx hb dL_bounds_106 (by decide) ?_
          refine lv_irem hx hb dL_bounds_108 (by decide) ?_
          refine lv_lit (b := (7 : Int32)) (by decide) ?_
          refine lv_iadd hx hb dL_bounds_109 ?_
          refine lv_lit (b := (27 : Int32)) (by decide) ?_
          have hFc := frw hD hS hA
          refine vx_calli (vx_runV (As := [.int (4 : Int32), .int (10 : Int32), .int (27 : Int32)]) (rest := []) ⟨hx, hb, hml, hown, hts⟩ (c_X7_state l hst dC dI cI h0 h0_1 h0_2 h0_3 h0_4 h0_5 h0_6 h0_7 h0_8 h0_9 h0_10 h0_11 h0_12 h0_13 h0_14 h0_15 h0_16 h0_17 h0_18 h0_19 h0_20 h0_21 h0_22 m_430 m_431 h0_25 h0_26 m_432 m_433 h0_29 h0_30 _ u_428 (4 : Int32) (10 : Int32) (27 : Int32) _ _ h) (cwV 3 hts (goodIn_up gB_X7_state) rfl rfl rfl (by decide +kernel) ⟨Nat.le_of_ble_eq_true rfl, Nat.le_of_ble_eq_true rfl⟩) (pbj_V hP hK hD hN hX hFc hS (ci := 7) (q0 := 0) rfl rfl) rfl rfl hl.1 rfl (lv_room (Nat.le_of_ble_eq_true rfl)) dL_bounds_110 ⟨Nat.le_of_ble_eq_true rfl, Nat.le_of_ble_eq_true rfl⟩) hS (fun q _ h => hFc q h) hFc (fun q _ h => hFc q h) (fun E9 ce9 q9 u t H locs ht hvm h hB hz1 hk1 hS hce hcv hcl => (show False from h).elim) (fun r_438 u_437 t H locs ht hvm h hB hz1 hk1 hS => ?_)
          obtain ⟨m_439, m_440, m_441, m_442, hP1, hD1⟩ := hB
          rw [ht] at hP1
          have hP : va_P (dC, dI) vwCl (lwO cI h0 h0_1 h0_2 h0_3 h0_4 h0_5 h0_6 h0_7 h0_8 h0_9 h0_10 h0_11 h0_12 h0_13 h0_14 h0_15 h0_16 h0_17 h0_18 h0_19 h0_20 h0_21 h0_22 m_439 m_440 h0_25 h0_26 m_441 m_442 h0_29 h0_30 u_437) H := hP1
          have hD : va_D A (lwO cI h0 h0_1 h0_2 h0_3 h0_4 h0_5 h0_6 h0_7 h0_8 h0_9 h0_10 h0_11 h0_12 h0_13 h0_14 h0_15 h0_16 h0_17 h0_18 h0_19 h0_20 h0_21 h0_22 m_439 m_440 h0_25 h0_26 m_441 m_442 h0_29 h0_30 u_437) := hD1.weaken (fun _ _ _ h => hFc _ h)
          refine W.widen (k := 77) (n := 10111) (Nat.le_of_ble_eq_true rfl) (Nat.le_of_ble_eq_true rfl) ?_
          obtain ⟨ht_, hf_⟩ := h
          refine lv_if_ne (tgt := 118) hx hb dL_bounds_113 (by decide) (fun c_443 => ?_) (fun c_443 => ?_)
          · have h := ht_ c_443
            refine lv_iinc (v := (44 : Int32)) (lv' := [(1, .int (44 : Int32)), (0, .ref h0)]) hx hb dL_bounds_118 hl (k := 0) rfl (by decide) (by decide) rfl (fun ls hl => ?_)
            refine lv_goto (tgt := 38) hx hb dL_bounds_121 (by decide) ?_
            refine lv_iload_n hx hb dL_bounds_38 rfl (lv_at hl 0 rfl) ?_
            refine lv_bipush (v := (60 : Int32)) hx hb dL_bounds_39 (by decide) ?_
            refine lv_icmp_ge (tgt := 124) hx hb dL_bounds_41 (by decide) (fun c_444 => absurd c_444 (by decide)) (fun c_444 => ?_)
            refine lv_iload_n hx hb dL_bounds_44 rfl (lv_at hl 0 rfl) ?_
            refine lv_bipush (v := (44 : Int32)) hx hb dL_bounds_45 (by decide) ?_
            refine lv_icmp_ne (tgt := 96) hx hb dL_bounds_47 (by decide) (fun c_445 => absurd c_445 (by decide)) (fun c_445 => ?_)
            refine lv_aload_n hx hb dL_bounds_50 rfl (lv_at hl 1 rfl) ?_
            refine lv_sipush (v := (1936 : Int32)) hx hb dL_bounds_51 (by decide) ?_
            have hFc := frw hD hS hA
            refine va_calli (va_runS (As := [.ref h0, .int (1936 : Int32)]) (rest := []) ⟨hx, hb, hml, hown, hts⟩ (c_L_comes l hst dC dI cI h0 h0_1 h0_2 h0_3 h0_4 h0_5 h0_6 h0_7 h0_8 h0_9 h0_10 h0_11 h0_12 h0_13 h0_14 h0_15 h0_16 h0_17 h0_18 h0_19 h0_20 h0_21 h0_22 m_439 m_440 h0_25 h0_26 m_441 m_442 h0_29 h0_30 _ u_437 (1936 : Int32) _ h) (va_cwS 2 hts (goodIn_up gB_L_comes) rfl rfl rfl (by decide +kernel) ⟨Nat.le_of_ble_eq_true rfl, Nat.le_of_ble_eq_true rfl⟩) (pbl_S hP hK hD hN hX hC hFc hS) rfl rfl hl.1 rfl (lv_room (Nat.le_of_ble_eq_true rfl)) dL_bounds_54 ⟨Nat.le_of_ble_eq_true rfl, Nat.le_of_ble_eq_true rfl⟩) hS (fun q _ h => hFc q h) hFc (fun r_447 u_446 t H locs ht hvm h hB hz1 hk1 hS => ?_)
            obtain ⟨m_448, m_449, m_450, m_451, hP1, hD1⟩ := hB
            rw [ht] at hP1
            have hP : va_P (dC, dI) vwCl (lwO cI h0 h0_1 h0_2 h0_3 h0_4 h0_5 h0_6 h0_7 h0_8 h0_9 h0_10 h0_11 h0_12 h0_13 h0_14 h0_15 h0_16 h0_17 h0_18 h0_19 h0_20 h0_21 h0_22 m_448 m_449 h0_25 h0_26 m_450 m_451 h0_29 h0_30 u_446) H := hP1
            have hD : va_D A (lwO cI h0 h0_1 h0_2 h0_3 h0_4 h0_5 h0_6 h0_7 h0_8 h0_9 h0_10 h0_11 h0_12 h0_13 h0_14 h0_15 h0_16 h0_17 h0_18 h0_19 h0_20 h0_21 h0_22 m_448 m_449 h0_25 h0_26 m_450 m_451 h0_29 h0_30 u_446) := hD1.weaken (fun _ _ _ h => hFc _ h)
            refine W.widen (k := 83) (n := 10147) (Nat.le_of_ble_eq_true rfl) (Nat.le_of_ble_eq_true rfl) ?_
            obtain ⟨ht_, hf_⟩ := h
            refine lv_if_eq (tgt := 94) hx hb dL_bounds_57 (by decide) (fun c_452 => ?_) (fun c_452 => ?_)
            · have h := ht_ c_452
              exact (show False from h).elim
            · have h := hf_ c_452
              refine lv_aload_n hx hb dL_bounds_60 rfl (lv_at hl 1 rfl) ?_
              refine lv_iconst (v := (2 : Int32)) hx hb dL_bounds_61 (by decide) ?_
              have hFc := fr0 hA hS
              refine vx_calli (vx_runV (As := [.int (2 : Int32)]) (rest := []) ⟨hx, hb, hml, hown, hts⟩ (c_X7_termsFor l hst dC dI cI h0 h0_1 h0_2 h0_3 h0_4 h0_5 h0_6 h0_7 h0_8 h0_9 h0_10 h0_11 h0_12 h0_13 h0_14 h0_15 h0_16 h0_17 h0_18 h0_19 h0_20 h0_21 h0_22 m_448 m_449 h0_25 h0_26 m_450 m_451 h0_29 h0_30 _ u_446 (2 : Int32) _ _ h) (cwV 1 hts (goodIn_up gB_X7_termsFor) rfl rfl rfl (by decide +kernel) ⟨Nat.le_of_ble_eq_true rfl, Nat.le_of_ble_eq_true rfl⟩) (pbj_V hP hK hD hN hX hFc hS (ci := 7) (q0 := 0) rfl rfl) rfl rfl hl.1 rfl (lv_room (Nat.le_of_ble_eq_true rfl)) dL_bounds_62 ⟨Nat.le_of_ble_eq_true rfl, Nat.le_of_ble_eq_true rfl⟩) hS (fun q _ h => hFc q h) hFc (fun q _ h => hFc q h) (fun E9 ce9 q9 u t H locs ht hvm h hB hz1 hk1 hS hce hcv hcl => (show False from h).elim) (fun r_454 u_453 t H locs ht hvm h hB hz1 hk1 hS => ?_)
              have hP := vaPk hP hk1
              refine W.widen (k := 84) (n := 10153) (Nat.le_of_ble_eq_true rfl) (Nat.le_of_ble_eq_true rfl) ?_
              refine lv_iconst (v := (5 : Int32)) hx hb dL_bounds_65 (by decide) ?_
              obtain ⟨ht_, hf_⟩ := h
              refine lv_icmp_ne (tgt := 94) hx hb dL_bounds_66 (by decide) (fun c_455 => ?_) (fun c_455 => ?_)
              · have h := ht_ c_455
                exact (show False from h).elim
              · have h := hf_ c_455
                have hl : lv_has ls 3 [(0, .ref h0), (1, .int (44 : Int32))] := lv_sub hl [1, 0] rfl
                refine W.widen (k := 84) (n := 10153) (Nat.le_of_ble_eq_true rfl) (Nat.le_of_ble_eq_true rfl) ?_
                exact sg_L_bounds_7 l hst C0 hK hN hX hC hA h0 h0_1 h0_2 h0_3 h0_4 h0_5 h0_6 h0_7 h0_8 h0_9 h0_10 h0_11 h0_12 h0_13 h0_14 h0_15 h0_16 h0_17 h0_18 h0_19 h0_20 h0_21 h0_22 h0_25 h0_26 h0_29 h0_30 _ u_446 h m_448 m_449 m_450 m_451 _ _ hP hD hS _ hl
          · have h := hf_ c_443
            exact (show False from h).elim
        · have h := hf_ c_434
          exact (show False from h).elim
      · have h := hf_ c_425
        exact (show False from h).elim
    · have h := hf_ c_416
      exact (show False from h).elim
  · have h := hf_ c_407
    exact (show False from h).elim
