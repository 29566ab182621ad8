set_option maxHeartbeats 4000000 in
set_option maxRecDepth 100000 in
theorem sg_L_orders_8 (l : Launch) (hst : l.stackTraces = false) {p : Program} {e : Env} {s : State} {m : MethodId} {below : List Frame} {meth : Method} {c : Code} (C0 : LC p s m (([] : List Value).toArray) meth c cL_orders 5 wq_orders) {dC : Nat → ClassId} {dI : Nat → Nat → Nat} {cI : ClassId} (hK : va_K (dC, dI) vwCl [(cI, .int)] s) (hN : nk s) {A : Nat → Prop} (hX : xj A s) (hC : xnc s) (hA : ∀ q : Nat, s.heap.size ≤ q → A q) (h0 h0_1 h0_2 h0_3 h0_4 h0_5 h0_6 h0_7 h0_8 h0_9 h0_10 h0_11 h0_12 h0_13 h0_14 h0_15 h0_16 h0_17 h0_18 h0_19 h0_20 h0_21 h0_22 h0_25 h0_26 h0_29 h0_30 : Nat) (post : Int32 → Prop) (s0 : TriS) (h : P_L_orders_8 s0 post) (h0_23 h0_24 h0_27 h0_28 : Nat) (H : Heap) (locs : List Loc) (hP : va_P (dC, dI) vwCl (lwO cI h0 h0_1 h0_2 h0_3 h0_4 h0_5 h0_6 h0_7 h0_8 h0_9 h0_10 h0_11 h0_12 h0_13 h0_14 h0_15 h0_16 h0_17 h0_18 h0_19 h0_20 h0_21 h0_22 h0_23 h0_24 h0_25 h0_26 h0_27 h0_28 h0_29 h0_30 s0) H) (hD : va_D A (lwO cI h0 h0_1 h0_2 h0_3 h0_4 h0_5 h0_6 h0_7 h0_8 h0_9 h0_10 h0_11 h0_12 h0_13 h0_14 h0_15 h0_16 h0_17 h0_18 h0_19 h0_20 h0_21 h0_22 h0_23 h0_24 h0_25 h0_26 h0_27 h0_28 h0_29 h0_30 s0)) (hS : va_S A s.heap H locs) (ls : Array Slot) (hl : lv_has ls 5 [(0, .ref h0)]) : W p l e rm_L_orders s m (([] : List Value).toArray) below meth c H locs 268 11257 (MQ below (Q_L_orders dC dI cI A post) (([] : List Value).toArray) s mc_L_orders ms_L_orders A) (F0 m 599 ls []) := by
  obtain ⟨hx, hb, hr, hml, hown, hts, hlocks⟩ := id C0
  refine lv_aload_n hx hb dL_orders_599 rfl (lv_at hl 0 rfl) ?_
  have hFc := fr0 hA hS
  refine va_calli (va_runV (As := []) (rest := []) ⟨hx, hb, hml, hown, hts⟩ (c_X7_terms l dC dI cI h0 h0_1 h0_2 h0_3 h0_4 h0_5 h0_6 h0_7 h0_8 h0_9 h0_10 h0_11 h0_12 h0_13 h0_14 h0_15 h0_16 h0_17 h0_18 h0_19 h0_20 h0_21 h0_22 h0_23 h0_24 h0_25 h0_26 h0_27 h0_28 h0_29 h0_30 _ s0 _ h) (cwV 0 hts (goodIn_up gB_X7_terms) rfl rfl rfl (by decide +kernel) ⟨Nat.le_of_ble_eq_true rfl, Nat.le_of_ble_eq_true rfl⟩) (pb_V hP hK hD hN (ci := 7) (q0 := 0) rfl rfl) rfl rfl hl.1 rfl (lv_room (Nat.le_of_ble_eq_true rfl)) dL_orders_600 ⟨Nat.le_of_ble_eq_true rfl, Nat.le_of_ble_eq_true rfl⟩) hS (fun q _ h => hFc q h) hFc (fun r_303 u_302 t H locs ht hvm h hB hz1 hk1 hS => ?_)
  have hP := vaPk hP hk1
  refine lv_iconst (v := (5 : Int32)) hx hb dL_orders_603 (by decide) ?_
  obtain ⟨ht_, hf_⟩ := h
  refine lv_icmp_ne (tgt := 652) hx hb dL_orders_604 (by decide) (fun c_304 => ?_) (fun c_304 => ?_)
  · have h := ht_ c_304
    exact (show False from h).elim
  · have h := hf_ c_304
    refine lv_aload_n hx hb dL_orders_607 rfl (lv_at hl 0 rfl) ?_
    refine lv_iconst (v := (0 : Int32)) hx hb dL_orders_608 (by decide) ?_
    refine lv_iconst (v := (2 : Int32)) hx hb dL_orders_609 (by decide) ?_
    refine lv_iconst (v := (0 : Int32)) hx hb dL_orders_610 (by decide) ?_
    have hFc := fr0 hA hS
    refine vx_calli (vx_runV (As := [.int (0 : Int32), .int (2 : Int32), .int (0 : Int32)]) (rest := []) ⟨hx, hb, hml, hown, hts⟩ (c_X7_termAt l hst dC dI cI h0 h0_1 h0_2 h0_3 h0_4 h0_5 h0_6 h0_7 h0_8 h0_9 h0_10 h0_11 h0_12 h0_13 h0_14 h0_15 h0_16 h0_17 h0_18 h0_19 h0_20 h0_21 h0_22 h0_23 h0_24 h0_25 h0_26 h0_27 h0_28 h0_29 h0_30 _ s0 (0 : Int32) (2 : Int32) (0 : Int32) _ _ h) (cwV 3 hts (goodIn_up gB_X7_termAt) rfl rfl rfl (by decide +kernel) ⟨Nat.le_of_ble_eq_true rfl, Nat.le_of_ble_eq_true rfl⟩) (pbj_V hP hK hD hN hX hFc hS (ci := 7) (q0 := 0) rfl rfl) rfl rfl hl.1 rfl (lv_room (Nat.le_of_ble_eq_true rfl)) dL_orders_611 ⟨Nat.le_of_ble_eq_true rfl, Nat.le_of_ble_eq_true rfl⟩) hS (fun q _ h => hFc q h) hFc (fun q _ h => hFc q h) (fun E9 ce9 q9 u t H locs ht hvm h hB hz1 hk1 hS hce hcv hcl => (show False from h).elim) (fun r_306 u_305 t H locs ht hvm h hB hz1 hk1 hS => ?_)
    have hP := vaPk hP hk1
    refine W.widen (k := 269) (n := 11263) (Nat.le_of_ble_eq_true rfl) (Nat.le_of_ble_eq_true rfl) ?_
    refine lv_bipush (v := (9 : Int32)) hx hb dL_orders_614 (by decide) ?_
    obtain ⟨ht_, hf_⟩ := h
    refine lv_icmp_ne (tgt := 652) hx hb dL_orders_616 (by decide) (fun c_307 => ?_) (fun c_307 => ?_)
    · have h := ht_ c_307
      exact (show False from h).elim
    · have h := hf_ c_307
      refine lv_aload_n hx hb dL_orders_619 rfl (lv_at hl 0 rfl) ?_
      refine lv_iconst (v := (0 : Int32)) hx hb dL_orders_620 (by decide) ?_
      refine lv_bipush (v := (7 : Int32)) hx hb dL_orders_621 (by decide) ?_
      have hFc := fr0 hA hS
      refine vx_calli (vx_runV (As := [.int (0 : Int32), .int (7 : Int32)]) (rest := []) ⟨hx, hb, hml, hown, hts⟩ (c_X7_seek l hst dC dI cI h0 h0_1 h0_2 h0_3 h0_4 h0_5 h0_6 h0_7 h0_8 h0_9 h0_10 h0_11 h0_12 h0_13 h0_14 h0_15 h0_16 h0_17 h0_18 h0_19 h0_20 h0_21 h0_22 h0_23 h0_24 h0_25 h0_26 h0_27 h0_28 h0_29 h0_30 _ s0 (0 : Int32) (7 : Int32) _ _ h) (cwV 2 hts (goodIn_up gB_X7_seek) rfl rfl rfl (by decide +kernel) ⟨Nat.le_of_ble_eq_true rfl, Nat.le_of_ble_eq_true rfl⟩) (pbj_V hP hK hD hN hX hFc hS (ci := 7) (q0 := 0) rfl rfl) rfl rfl hl.1 rfl (lv_room (Nat.le_of_ble_eq_true rfl)) dL_orders_623 ⟨Nat.le_of_ble_eq_true rfl, Nat.le_of_ble_eq_true rfl⟩) hS (fun q _ h => hFc q h) hFc (fun q _ h => hFc q h) (fun E9 ce9 q9 u t H locs ht hvm h hB hz1 hk1 hS hce hcv hcl => (show False from h).elim) (fun r_309 u_308 t H locs ht hvm h hB hz1 hk1 hS => ?_)
      have hP := vaPk hP hk1
      refine W.widen (k := 270) (n := 11269) (Nat.le_of_ble_eq_true rfl) (Nat.le_of_ble_eq_true rfl) ?_
      refine lv_iconst (v := (2 : Int32)) hx hb dL_orders_626 (by decide) ?_
      obtain ⟨ht_, hf_⟩ := h
      refine lv_icmp_ne (tgt := 652) hx hb dL_orders_627 (by decide) (fun c_310 => ?_) (fun c_310 => ?_)
      · have h := ht_ c_310
        exact (show False from h).elim
      · have h := hf_ c_310
        refine lv_aload_n hx hb dL_orders_630 rfl (lv_at hl 0 rfl) ?_
        refine lv_iconst (v := (-1 : Int32)) hx hb dL_orders_631 (by decide) ?_
        refine lv_iconst (v := (1 : Int32)) hx hb dL_orders_632 (by decide) ?_
        refine lv_iconst (v := (-1 : Int32)) hx hb dL_orders_633 (by decide) ?_
        have hFc := fr0 hA hS
        refine vx_calli (vx_runV (As := [.int (-1 : Int32), .int (1 : Int32), .int (-1 : Int32)]) (rest := []) ⟨hx, hb, hml, hown, hts⟩ (c_X7_count l hst dC dI cI h0 h0_1 h0_2 h0_3 h0_4 h0_5 h0_6 h0_7 h0_8 h0_9 h0_10 h0_11 h0_12 h0_13 h0_14 h0_15 h0_16 h0_17 h0_18 h0_19 h0_20 h0_21 h0_22 h0_23 h0_24 h0_25 h0_26 h0_27 h0_28 h0_29 h0_30 _ s0 (-1 : Int32) (1 : Int32) (-1 : Int32) _ _ h) (cwV 3 hts (goodIn_up gB_X7_count) rfl rfl rfl (by decide +kernel) ⟨Nat.le_of_ble_eq_true rfl, Nat.le_of_ble_eq_true rfl⟩) (pbj_V hP hK hD hN hX hFc hS (ci := 7) (q0 := 0) rfl rfl) rfl rfl hl.1 rfl (lv_room (Nat.le_of_ble_eq_true rfl)) dL_orders_634 ⟨Nat.le_of_ble_eq_true rfl, Nat.le_of_ble_eq_true rfl⟩) hS (fun q _ h => hFc q h) hFc (fun q _ h => hFc q h) (fun E9 ce9 q9 u t H locs ht hvm h hB hz1 hk1 hS hce hcv hcl => (show False from h).elim) (fun r_312 u_311 t H locs ht hvm h hB hz1 hk1 hS => ?_)
        have hP := vaPk hP hk1
        refine W.widen (k := 271) (n := 11275) (Nat.le_of_ble_eq_true rfl) (Nat.le_of_ble_eq_true rfl) ?_
        refine lv_iconst (v := (2 : Int32)) hx hb dL_orders_637 (by decide) ?_
        obtain ⟨ht_, hf_⟩ := h
        refine lv_icmp_ne (tgt := 652) hx hb dL_orders_638 (by decide) (fun c_313 => ?_) (fun c_313 => ?_)
        · have h := ht_ c_313
          exact (show False from h).elim
        · have h := hf_ c_313
          refine lv_aload_n hx hb dL_orders_641 rfl (lv_at hl 0 rfl) ?_
          have hFc := frw hD hS hA
          refine va_calli (va_runS (As := [.ref h0]) (rest := []) ⟨hx, hb, hml, hown, hts⟩ (c_L_refuses l hst dC dI cI h0 h0_1 h0_2 h0_3 h0_4 h0_5 h0_6 h0_7 h0_8 h0_9 h0_10 h0_11 h0_12 h0_13 h0_14 h0_15 h0_16 h0_17 h0_18 h0_19 h0_20 h0_21 h0_22 h0_23 h0_24 h0_25 h0_26 h0_27 h0_28 h0_29 h0_30 _ s0 _ h) (va_cwS 1 hts (goodIn_up gB_L_refuses) rfl rfl rfl (by decide +kernel) ⟨Nat.le_of_ble_eq_true rfl, Nat.le_of_ble_eq_true rfl⟩) (pbl_S hP hK hD hN hX hC hFc hS) rfl rfl hl.1 rfl (lv_room (Nat.le_of_ble_eq_true rfl)) dL_orders_642 ⟨Nat.le_of_ble_eq_true rfl, Nat.le_of_ble_eq_true rfl⟩) hS (fun q _ h => hFc q h) hFc (fun r_315 u_314 t H locs ht hvm h hB hz1 hk1 hS => ?_)
          obtain ⟨m_316, m_317, m_318, m_319, hP1, hD1⟩ := hB
          rw [ht] at hP1
          have hP : va_P (dC, dI) vwCl (lwO cI h0 h0_1 h0_2 h0_3 h0_4 h0_5 h0_6 h0_7 h0_8 h0_9 h0_10 h0_11 h0_12 h0_13 h0_14 h0_15 h0_16 h0_17 h0_18 h0_19 h0_20 h0_21 h0_22 m_316 m_317 h0_25 h0_26 m_318 m_319 h0_29 h0_30 u_314) H := hP1
          have hD : va_D A (lwO cI h0 h0_1 h0_2 h0_3 h0_4 h0_5 h0_6 h0_7 h0_8 h0_9 h0_10 h0_11 h0_12 h0_13 h0_14 h0_15 h0_16 h0_17 h0_18 h0_19 h0_20 h0_21 h0_22 m_316 m_317 h0_25 h0_26 m_318 m_319 h0_29 h0_30 u_314) := hD1.weaken (fun _ _ _ h => hFc _ h)
          refine W.widen (k := 463) (n := 12427) (Nat.le_of_ble_eq_true rfl) (Nat.le_of_ble_eq_true rfl) ?_
          obtain ⟨ht_, hf_⟩ := h
          refine lv_if_eq (tgt := 652) hx hb dL_orders_645 (by decide) (fun c_320 => ?_) (fun c_320 => ?_)
          · have h := ht_ c_320
            exact (show False from h).elim
          · have h := hf_ c_320
            refine lv_iconst (v := (1 : Int32)) hx hb dL_orders_648 (by decide) ?_
            refine lv_goto (tgt := 653) hx hb dL_orders_649 (by decide) ?_
            refine W.widen (k := mc_L_orders) (n := ms_L_orders) (Nat.le_of_ble_eq_true rfl) (Nat.le_of_ble_eq_true rfl) ?_
            exact W.zret (v := (1 : Int32)) hx hb hr (by decide +kernel) (fun t ht hW => ⟨⟨(1 : Int32), (), rfl, h, trivial⟩, hS.F ht⟩) hS.2.2 dL_orders_653
set_option maxHeartbeats 4000000 in
set_option maxRecDepth 100000 in
theorem sg_L_orders_7 (l : Launch) (hst : l.stackTraces = false) {p : Program} {e : Env} {s : State} {m : MethodId} {below : List Frame} {meth : Method} {c : Code} (C0 : LC p s m (([] : List Value).toArray) meth c cL_orders 5 wq_orders) {dC : Nat → ClassId} {dI : Nat → Nat → Nat} {cI : ClassId} (hK : va_K (dC, dI) vwCl [(cI, .int)] s) (hN : nk s) {A : Nat → Prop} (hX : xj A s) (hC : xnc s) (hA : ∀ q : Nat, s.heap.size ≤ q → A q) (h0 h0_1 h0_2 h0_3 h0_4 h0_5 h0_6 h0_7 h0_8 h0_9 h0_10 h0_11 h0_12 h0_13 h0_14 h0_15 h0_16 h0_17 h0_18 h0_19 h0_20 h0_21 h0_22 h0_25 h0_26 h0_29 h0_30 : Nat) (post : Int32 → Prop) (s0 : TriS) (h : P_L_orders_7 s0 post) (h0_23 h0_24 h0_27 h0_28 : Nat) (H : Heap) (locs : List Loc) (hP : va_P (dC, dI) vwCl (lwO cI h0 h0_1 h0_2 h0_3 h0_4 h0_5 h0_6 h0_7 h0_8 h0_9 h0_10 h0_11 h0_12 h0_13 h0_14 h0_15 h0_16 h0_17 h0_18 h0_19 h0_20 h0_21 h0_22 h0_23 h0_24 h0_25 h0_26 h0_27 h0_28 h0_29 h0_30 s0) H) (hD : va_D A (lwO cI h0 h0_1 h0_2 h0_3 h0_4 h0_5 h0_6 h0_7 h0_8 h0_9 h0_10 h0_11 h0_12 h0_13 h0_14 h0_15 h0_16 h0_17 h0_18 h0_19 h0_20 h0_21 h0_22 h0_23 h0_24 h0_25 h0_26 h0_27 h0_28 h0_29 h0_30 s0)) (hS : va_S A s.heap H locs) (ls : Array Slot) (hl : lv_has ls 5 [(0, .ref h0), (1, .int (3 : Int32))]) : W p l e rm_L_orders s m (([] : List Value).toArray) below meth c H locs 266 11245 (MQ below (Q_L_orders dC dI cI A post) (([] : List Value).toArray) s mc_L_orders ms_L_orders A) (F0 m 561 ls []) := by
  obtain ⟨hx, hb, hr, hml, hown, hts, hlocks⟩ := id C0
  refine lv_iinc (v := (4 : Int32)) (lv' := [(1, .int (4 : Int32)), (0, .ref h0)]) hx hb dL_orders_561 hl (k := 1) rfl (by decide) (by decide) rfl (fun ls hl => ?_)
  refine lv_goto (tgt := 472) hx hb dL_orders_564 (by decide) ?_
  refine lv_iload_n hx hb dL_orders_472 rfl (lv_at hl 0 rfl) ?_
  refine lv_bipush (v := (8 : Int32)) hx hb dL_orders_473 (by decide) ?_
  refine lv_icmp_ge (tgt := 567) hx hb dL_orders_475 (by decide) (fun c_243 => absurd c_243 (by decide)) (fun c_243 => ?_)
  refine lv_iload_n hx hb dL_orders_478 rfl (lv_at hl 0 rfl) ?_
  refine lv_iconst (v := (1 : Int32)) hx hb dL_orders_479 (by decide) ?_
  refine lv_iand hx hb dL_orders_480 ?_
  refine lv_lit (b := (0 : Int32)) (by decide) ?_
  refine lv_iconst (v := (1 : Int32)) hx hb dL_orders_481 (by decide) ?_
  refine lv_icmp_ne (tgt := 489) hx hb dL_orders_482 (by decide) (fun c_244 => ?_) (fun c_244 => absurd c_244 (by decide))
  refine lv_iconst (v := (0 : Int32)) hx hb dL_orders_489 (by decide) ?_
  refine lv_istore_n (lv' := [(2, .int (0 : Int32)), (1, .int (4 : Int32)), (0, .ref h0)]) hx hb dL_orders_490 rfl hl (by decide) rfl (fun ls hl => ?_)
  refine lv_iload_n hx hb dL_orders_491 rfl (lv_at hl 1 rfl) ?_
  refine lv_iconst (v := (1 : Int32)) hx hb dL_orders_492 (by decide) ?_
  refine lv_ishr hx hb dL_orders_493 ?_
  refine lv_lit (b := (2 : Int32)) (by decide) ?_
  refine lv_iconst (v := (1 : Int32)) hx hb dL_orders_494 (by decide) ?_
  refine lv_iand hx hb dL_orders_495 ?_
  refine lv_lit (b := (0 : Int32)) (by decide) ?_
  refine lv_iconst (v := (1 : Int32)) hx hb dL_orders_496 (by decide) ?_
  refine lv_icmp_ne (tgt := 504) hx hb dL_orders_497 (by decide) (fun c_245 => ?_) (fun c_245 => absurd c_245 (by decide))
  refine lv_iconst (v := (0 : Int32)) hx hb dL_orders_504 (by decide) ?_
  refine lv_istore_n (lv' := [(3, .int (0 : Int32)), (2, .int (0 : Int32)), (1, .int (4 : Int32)), (0, .ref h0)]) hx hb dL_orders_505 rfl hl (by decide) rfl (fun ls hl => ?_)
  refine lv_iload_n hx hb dL_orders_506 rfl (lv_at hl 2 rfl) ?_
  refine lv_iconst (v := (3 : Int32)) hx hb dL_orders_507 (by decide) ?_
  refine lv_icmp_le (tgt := 515) hx hb dL_orders_508 (by decide) (fun c_246 => absurd c_246 (by decide)) (fun c_246 => ?_)
  refine lv_iconst (v := (1 : Int32)) hx hb dL_orders_511 (by decide) ?_
  refine lv_goto (tgt := 516) hx hb dL_orders_512 (by decide) ?_
  refine lv_istore (lv' := [(4, .int (1 : Int32)), (3, .int (0 : Int32)), (2, .int (0 : Int32)), (1, .int (4 : Int32)), (0, .ref h0)]) hx hb dL_orders_516 hl (by decide) rfl (fun ls hl => ?_)
  refine lv_aload_n hx hb dL_orders_518 rfl (lv_at hl 4 rfl) ?_
  refine lv_iload_n hx hb dL_orders_519 rfl (lv_at hl 2 rfl) ?_
  refine lv_iload_n hx hb dL_orders_520 rfl (lv_at hl 1 rfl) ?_
  refine lv_iload hx hb dL_orders_521 (lv_at hl 0 rfl) ?_
  have hFc := fr0 hA hS
  refine va_calli (va_runV (As := [.int (0 : Int32), .int (0 : Int32), .int (1 : Int32)]) (rest := []) ⟨hx, hb, hml, hown, hts⟩ (c_X7_orderFor l dC dI cI h0 h0_1 h0_2 h0_3 h0_4 h0_5 h0_6 h0_7 h0_8 h0_9 h0_10 h0_11 h0_12 h0_13 h0_14 h0_15 h0_16 h0_17 h0_18 h0_19 h0_20 h0_21 h0_22 h0_23 h0_24 h0_25 h0_26 h0_27 h0_28 h0_29 h0_30 _ s0 (0 : Int32) (0 : Int32) (1 : Int32) _ h) (cwV 3 hts (goodIn_up gB_X7_orderFor) rfl rfl rfl (by decide +kernel) ⟨Nat.le_of_ble_eq_true rfl, Nat.le_of_ble_eq_true rfl⟩) (pb_V hP hK hD hN (ci := 7) (q0 := 0) rfl rfl) rfl rfl hl.1 rfl (lv_room (Nat.le_of_ble_eq_true rfl)) dL_orders_523 ⟨Nat.le_of_ble_eq_true rfl, Nat.le_of_ble_eq_true rfl⟩) hS (fun q _ h => hFc q h) hFc (fun r_248 u_247 t H locs ht hvm h hB hz1 hk1 hS => ?_)
  have hP := vaPk hP hk1
  refine lv_iload_n hx hb dL_orders_526 rfl (lv_at hl 3 rfl) ?_
  refine lv_iconst (v := (2 : Int32)) hx hb dL_orders_527 (by decide) ?_
  refine lv_icmp_eq (tgt := 537) hx hb dL_orders_528 (by decide) (fun c_249 => absurd c_249 (by decide)) (fun c_249 => ?_)
  refine lv_iload_n hx hb dL_orders_531 rfl (lv_at hl 3 rfl) ?_
  refine lv_bipush (v := (6 : Int32)) hx hb dL_orders_532 (by decide) ?_
  refine lv_icmp_ne (tgt := 541) hx hb dL_orders_534 (by decide) (fun c_250 => ?_) (fun c_250 => absurd c_250 (by decide))
  refine lv_iload_n hx hb dL_orders_541 rfl (lv_at hl 3 rfl) ?_
  refine lv_iconst (v := (4 : Int32)) hx hb dL_orders_542 (by decide) ?_
  refine lv_icmp_eq (tgt := 551) hx hb dL_orders_543 (by decide) (fun c_251 => ?_) (fun c_251 => absurd c_251 (by decide))
  refine lv_iconst (v := (2 : Int32)) hx hb dL_orders_551 (by decide) ?_
  refine lv_goto (tgt := 556) hx hb dL_orders_552 (by decide) ?_
  obtain ⟨ht_, hf_⟩ := h
  refine lv_icmp_eq (tgt := 561) hx hb dL_orders_556 (by decide) (fun c_252 => ?_) (fun c_252 => ?_)
  · have h := ht_ c_252
    refine lv_iinc (v := (5 : Int32)) (lv' := [(1, .int (5 : Int32)), (4, .int (1 : Int32)), (3, .int (0 : Int32)), (2, .int (0 : Int32)), (0, .ref h0)]) hx hb dL_orders_561 hl (k := 3) rfl (by decide) (by decide) rfl (fun ls hl => ?_)
    refine lv_goto (tgt := 472) hx hb dL_orders_564 (by decide) ?_
    refine lv_iload_n hx hb dL_orders_472 rfl (lv_at hl 0 rfl) ?_
    refine lv_bipush (v := (8 : Int32)) hx hb dL_orders_473 (by decide) ?_
    refine lv_icmp_ge (tgt := 567) hx hb dL_orders_475 (by decide) (fun c_253 => absurd c_253 (by decide)) (fun c_253 => ?_)
    refine lv_iload_n hx hb dL_orders_478 rfl (lv_at hl 0 rfl) ?_
    refine lv_iconst (v := (1 : Int32)) hx hb dL_orders_479 (by decide) ?_
    refine lv_iand hx hb dL_orders_480 ?_
    refine lv_lit (b := (1 : Int32)) (by decide) ?_
    refine lv_iconst (v := (1 : Int32)) hx hb dL_orders_481 (by decide) ?_
    refine lv_icmp_ne (tgt := 489) hx hb dL_orders_482 (by decide) (fun c_254 => absurd c_254 (by decide)) (fun c_254 => ?_)
    refine lv_iconst (v := (1 : Int32)) hx hb dL_orders_485 (by decide) ?_
    refine lv_goto (tgt := 490) hx hb dL_orders_486 (by decide) ?_
    refine lv_istore_n (lv' := [(2, .int (1 : Int32)), (1, .int (5 : Int32)), (4, .int (1 : Int32)), (3, .int (0 : Int32)), (0, .ref h0)]) hx hb dL_orders_490 rfl hl (by decide) rfl (fun ls hl => ?_)
    refine lv_iload_n hx hb dL_orders_491 rfl (lv_at hl 1 rfl) ?_
    refine lv_iconst (v := (1 : Int32)) hx hb dL_orders_492 (by decide) ?_
    refine lv_ishr hx hb dL_orders_493 ?_
    refine lv_lit (b := (2 : Int32)) (by decide) ?_
    refine lv_iconst (v := (1 : Int32)) hx hb dL_orders_494 (by decide) ?_
    refine lv_iand hx hb dL_orders_495 ?_
    refine lv_lit (b := (0 : Int32)) (by decide) ?_
    refine lv_iconst (v := (1 : Int32)) hx hb dL_orders_496 (by decide) ?_
    refine lv_icmp_ne (tgt := 504) hx hb dL_orders_497 (by decide) (fun c_255 => ?_) (fun c_255 => absurd c_255 (by decide))
    refine lv_iconst (v := (0 : Int32)) hx hb dL_orders_504 (by decide) ?_
    refine lv_istore_n (lv' := [(3, .int (0 : Int32)), (2, .int (1 : Int32)), (1, .int (5 : Int32)), (4, .int (1 : Int32)), (0, .ref h0)]) hx hb dL_orders_505 rfl hl (by decide) rfl (fun ls hl => ?_)
    refine lv_iload_n hx hb dL_orders_506 rfl (lv_at hl 2 rfl) ?_
    refine lv_iconst (v := (3 : Int32)) hx hb dL_orders_507 (by decide) ?_
    refine lv_icmp_le (tgt := 515) hx hb dL_orders_508 (by decide) (fun c_256 => absurd c_256 (by decide)) (fun c_256 => ?_)
    refine lv_iconst (v := (1 : Int32)) hx hb dL_orders_511 (by decide) ?_
    refine lv_goto (tgt := 516) hx hb dL_orders_512 (by decide) ?_
    refine lv_istore (lv' := [(4, .int (1 : Int32)), (3, .int (0 : Int32)), (2, .int (1 : Int32)), (1, .int (5 : Int32)), (0, .ref h0)]) hx hb dL_orders_516 hl (by decide) rfl (fun ls hl => ?_)
    refine lv_aload_n hx hb dL_orders_518 rfl (lv_at hl 4 rfl) ?_
    refine lv_iload_n hx hb dL_orders_519 rfl (lv_at hl 2 rfl) ?_
    refine lv_iload_n hx hb dL_orders_520 rfl (lv_at hl 1 rfl) ?_
    refine lv_iload hx hb dL_orders_521 (lv_at hl 0 rfl) ?_
    have hFc := fr0 hA hS
    refine va_calli (va_runV (As := [.int (1 : Int32), .int (0 : Int32), .int (1 : Int32)]) (rest := []) ⟨hx, hb, hml, hown, hts⟩ (c_X7_orderFor l dC dI cI h0 h0_1 h0_2 h0_3 h0_4 h0_5 h0_6 h0_7 h0_8 h0_9 h0_10 h0_11 h0_12 h0_13 h0_14 h0_15 h0_16 h0_17 h0_18 h0_19 h0_20 h0_21 h0_22 h0_23 h0_24 h0_25 h0_26 h0_27 h0_28 h0_29 h0_30 _ s0 (1 : Int32) (0 : Int32) (1 : Int32) _ h) (cwV 3 hts (goodIn_up gB_X7_orderFor) rfl rfl rfl (by decide +kernel) ⟨Nat.le_of_ble_eq_true rfl, Nat.le_of_ble_eq_true rfl⟩) (pb_V hP hK hD hN (ci := 7) (q0 := 0) rfl rfl) rfl rfl hl.1 rfl (lv_room (Nat.le_of_ble_eq_true rfl)) dL_orders_523 ⟨Nat.le_of_ble_eq_true rfl, Nat.le_of_ble_eq_true rfl⟩) hS (fun q _ h => hFc q h) hFc (fun r_258 u_257 t H locs ht hvm h hB hz1 hk1 hS => ?_)
    have hP := vaPk hP hk1
    refine lv_iload_n hx hb dL_orders_526 rfl (lv_at hl 3 rfl) ?_
    refine lv_iconst (v := (2 : Int32)) hx hb dL_orders_527 (by decide) ?_
    refine lv_icmp_eq (tgt := 537) hx hb dL_orders_528 (by decide) (fun c_259 => absurd c_259 (by decide)) (fun c_259 => ?_)
    refine lv_iload_n hx hb dL_orders_531 rfl (lv_at hl 3 rfl) ?_
    refine lv_bipush (v := (6 : Int32)) hx hb dL_orders_532 (by decide) ?_
    refine lv_icmp_ne (tgt := 541) hx hb dL_orders_534 (by decide) (fun c_260 => ?_) (fun c_260 => absurd c_260 (by decide))
    refine lv_iload_n hx hb dL_orders_541 rfl (lv_at hl 3 rfl) ?_
    refine lv_iconst (v := (4 : Int32)) hx hb dL_orders_542 (by decide) ?_
    refine lv_icmp_eq (tgt := 551) hx hb dL_orders_543 (by decide) (fun c_261 => absurd c_261 (by decide)) (fun c_261 => ?_)
    refine lv_iload_n hx hb dL_orders_546 rfl (lv_at hl 3 rfl) ?_
    refine lv_iconst (v := (5 : Int32)) hx hb dL_orders_547 (by decide) ?_
    refine lv_icmp_ne (tgt := 555) hx hb dL_orders_548 (by decide) (fun c_262 => absurd c_262 (by decide)) (fun c_262 => ?_)
    refine lv_iconst (v := (2 : Int32)) hx hb dL_orders_551 (by decide) ?_
    refine lv_goto (tgt := 556) hx hb dL_orders_552 (by decide) ?_
    obtain ⟨ht_, hf_⟩ := h
    refine lv_icmp_eq (tgt := 561) hx hb dL_orders_556 (by decide) (fun c_263 => ?_) (fun c_263 => ?_)
    · have h := ht_ c_263
      refine lv_iinc (v := (6 : Int32)) (lv' := [(1, .int (6 : Int32)), (4, .int (1 : Int32)), (3, .int (0 : Int32)), (2, .int (1 : Int32)), (0, .ref h0)]) hx hb dL_orders_561 hl (k := 3) rfl (by decide) (by decide) rfl (fun ls hl => ?_)
      refine lv_goto (tgt := 472) hx hb dL_orders_564 (by decide) ?_
      refine lv_iload_n hx hb dL_orders_472 rfl (lv_at hl 0 rfl) ?_
      refine lv_bipush (v := (8 : Int32)) hx hb dL_orders_473 (by decide) ?_
      refine lv_icmp_ge (tgt := 567) hx hb dL_orders_475 (by decide) (fun c_264 => absurd c_264 (by decide)) (fun c_264 => ?_)
      refine lv_iload_n hx hb dL_orders_478 rfl (lv_at hl 0 rfl) ?_
      refine lv_iconst (v := (1 : Int32)) hx hb dL_orders_479 (by decide) ?_
      refine lv_iand hx hb dL_orders_480 ?_
      refine lv_lit (b := (0 : Int32)) (by decide) ?_
      refine lv_iconst (v := (1 : Int32)) hx hb dL_orders_481 (by decide) ?_
      refine lv_icmp_ne (tgt := 489) hx hb dL_orders_482 (by decide) (fun c_265 => ?_) (fun c_265 => absurd c_265 (by decide))
      refine lv_iconst (v := (0 : Int32)) hx hb dL_orders_489 (by decide) ?_
      refine lv_istore_n (lv' := [(2, .int (0 : Int32)), (1, .int (6 : Int32)), (4, .int (1 : Int32)), (3, .int (0 : Int32)), (0, .ref h0)]) hx hb dL_orders_490 rfl hl (by decide) rfl (fun ls hl => ?_)
      refine lv_iload_n hx hb dL_orders_491 rfl (lv_at hl 1 rfl) ?_
      refine lv_iconst (v := (1 : Int32)) hx hb dL_orders_492 (by decide) ?_
      refine lv_ishr hx hb dL_orders_493 ?_
      refine lv_lit (b := (3 : Int32)) (by decide) ?_
      refine lv_iconst (v := (1 : Int32)) hx hb dL_orders_494 (by decide) ?_
      refine lv_iand hx hb dL_orders_495 ?_
      refine lv_lit (b := (1 : Int32)) (by decide) ?_
      refine lv_iconst (v := (1 : Int32)) hx hb dL_orders_496 (by decide) ?_
      refine lv_icmp_ne (tgt := 504) hx hb dL_orders_497 (by decide) (fun c_266 => absurd c_266 (by decide)) (fun c_266 => ?_)
      refine lv_iconst (v := (1 : Int32)) hx hb dL_orders_500 (by decide) ?_
      refine lv_goto (tgt := 505) hx hb dL_orders_501 (by decide) ?_
      refine lv_istore_n (lv' := [(3, .int (1 : Int32)), (2, .int (0 : Int32)), (1, .int (6 : Int32)), (4, .int (1 : Int32)), (0, .ref h0)]) hx hb dL_orders_505 rfl hl (by decide) rfl (fun ls hl => ?_)
      refine lv_iload_n hx hb dL_orders_506 rfl (lv_at hl 2 rfl) ?_
      refine lv_iconst (v := (3 : Int32)) hx hb dL_orders_507 (by decide) ?_
      refine lv_icmp_le (tgt := 515) hx hb dL_orders_508 (by decide) (fun c_267 => absurd c_267 (by decide)) (fun c_267 => ?_)
      refine lv_iconst (v := (1 : Int32)) hx hb dL_orders_511 (by decide) ?_
      refine lv_goto (tgt := 516) hx hb dL_orders_512 (by decide) ?_
      refine lv_istore (lv' := [(4, .int (1 : Int32)), (3, .int (1 : Int32)), (2, .int (0 : Int32)), (1, .int (6 : Int32)), (0, .ref h0)]) hx hb dL_orders_516 hl (by decide) rfl (fun ls hl => ?_)
      refine lv_aload_n hx hb dL_orders_518 rfl (lv_at hl 4 rfl) ?_
      refine lv_iload_n hx hb dL_orders_519 rfl (lv_at hl 2 rfl) ?_
      refine lv_iload_n hx hb dL_orders_520 rfl (lv_at hl 1 rfl) ?_
      refine lv_iload hx hb dL_orders_521 (lv_at hl 0 rfl) ?_
      have hFc := fr0 hA hS
      refine va_calli (va_runV (As := [.int (0 : Int32), .int (1 : Int32), .int (1 : Int32)]) (rest := []) ⟨hx, hb, hml, hown, hts⟩ (c_X7_orderFor l dC dI cI h0 h0_1 h0_2 h0_3 h0_4 h0_5 h0_6 h0_7 h0_8 h0_9 h0_10 h0_11 h0_12 h0_13 h0_14 h0_15 h0_16 h0_17 h0_18 h0_19 h0_20 h0_21 h0_22 h0_23 h0_24 h0_25 h0_26 h0_27 h0_28 h0_29 h0_30 _ s0 (0 : Int32) (1 : Int32) (1 : Int32) _ h) (cwV 3 hts (goodIn_up gB_X7_orderFor) rfl rfl rfl (by decide +kernel) ⟨Nat.le_of_ble_eq_true rfl, Nat.le_of_ble_eq_true rfl⟩) (pb_V hP hK hD hN (ci := 7) (q0 := 0) rfl rfl) rfl rfl hl.1 rfl (lv_room (Nat.le_of_ble_eq_true rfl)) dL_orders_523 ⟨Nat.le_of_ble_eq_true rfl, Nat.le_of_ble_eq_true rfl⟩) hS (fun q _ h => hFc q h) hFc (fun r_269 u_268 t H locs ht hvm h hB hz1 hk1 hS => ?_)
      have hP := vaPk hP hk1
      refine lv_iload_n hx hb dL_orders_526 rfl (lv_at hl 3 rfl) ?_
      refine lv_iconst (v := (2 : Int32)) hx hb dL_orders_527 (by decide) ?_
      refine lv_icmp_eq (tgt := 537) hx hb dL_orders_528 (by decide) (fun c_270 => absurd c_270 (by decide)) (fun c_270 => ?_)
      refine lv_iload_n hx hb dL_orders_531 rfl (lv_at hl 3 rfl) ?_
      refine lv_bipush (v := (6 : Int32)) hx hb dL_orders_532 (by decide) ?_
      refine lv_icmp_ne (tgt := 541) hx hb dL_orders_534 (by decide) (fun c_271 => absurd c_271 (by decide)) (fun c_271 => ?_)
      refine lv_iconst (v := (1 : Int32)) hx hb dL_orders_537 (by decide) ?_
      refine lv_goto (tgt := 556) hx hb dL_orders_538 (by decide) ?_
      obtain ⟨ht_, hf_⟩ := h
      refine lv_icmp_eq (tgt := 561) hx hb dL_orders_556 (by decide) (fun c_272 => ?_) (fun c_272 => ?_)
      · have h := ht_ c_272
        refine lv_iinc (v := (7 : Int32)) (lv' := [(1, .int (7 : Int32)), (4, .int (1 : Int32)), (3, .int (1 : Int32)), (2, .int (0 : Int32)), (0, .ref h0)]) hx hb dL_orders_561 hl (k := 3) rfl (by decide) (by decide) rfl (fun ls hl => ?_)
        refine lv_goto (tgt := 472) hx hb dL_orders_564 (by decide) ?_
        refine lv_iload_n hx hb dL_orders_472 rfl (lv_at hl 0 rfl) ?_
        refine lv_bipush (v := (8 : Int32)) hx hb dL_orders_473 (by decide) ?_
        refine lv_icmp_ge (tgt := 567) hx hb dL_orders_475 (by decide) (fun c_273 => absurd c_273 (by decide)) (fun c_273 => ?_)
        refine lv_iload_n hx hb dL_orders_478 rfl (lv_at hl 0 rfl) ?_
        refine lv_iconst (v := (1 : Int32)) hx hb dL_orders_479 (by decide) ?_
        refine lv_iand hx hb dL_orders_480 ?_
        refine lv_lit (b := (1 : Int32)) (by decide) ?_
        refine lv_iconst (v := (1 : Int32)) hx hb dL_orders_481 (by decide) ?_
        refine lv_icmp_ne (tgt := 489) hx hb dL_orders_482 (by decide) (fun c_274 => absurd c_274 (by decide)) (fun c_274 => ?_)
        refine lv_iconst (v := (1 : Int32)) hx hb dL_orders_485 (by decide) ?_
        refine lv_goto (tgt := 490) hx hb dL_orders_486 (by decide) ?_
        refine lv_istore_n (lv' := [(2, .int (1 : Int32)), (1, .int (7 : Int32)), (4, .int (1 : Int32)), (3, .int (1 : Int32)), (0, .ref h0)]) hx hb dL_orders_490 rfl hl (by decide) rfl (fun ls hl => ?_)
        refine lv_iload_n hx hb dL_orders_491 rfl (lv_at hl 1 rfl) ?_
        refine lv_iconst (v := (1 : Int32)) hx hb dL_orders_492 (by decide) ?_
        refine lv_ishr hx hb dL_orders_493 ?_
        refine lv_lit (b := (3 : Int32)) (by decide) ?_
        refine lv_iconst (v := (1 : Int32)) hx hb dL_orders_494 (by decide) ?_
        refine lv_iand hx hb dL_orders_495 ?_
        refine lv_lit (b := (1 : Int32)) (by decide) ?_
        refine lv_iconst (v := (1 : Int32)) hx hb dL_orders_496 (by decide) ?_
        refine lv_icmp_ne (tgt := 504) hx hb dL_orders_497 (by decide) (fun c_275 => absurd c_275 (by decide)) (fun c_275 => ?_)
        refine lv_iconst (v := (1 : Int32)) hx hb dL_orders_500 (by decide) ?_
        refine lv_goto (tgt := 505) hx hb dL_orders_501 (by decide) ?_
        refine lv_istore_n (lv' := [(3, .int (1 : Int32)), (2, .int (1 : Int32)), (1, .int (7 : Int32)), (4, .int (1 : Int32)), (0, .ref h0)]) hx hb dL_orders_505 rfl hl (by decide) rfl (fun ls hl => ?_)
        refine lv_iload_n hx hb dL_orders_506 rfl (lv_at hl 2 rfl) ?_
        refine lv_iconst (v := (3 : Int32)) hx hb dL_orders_507 (by decide) ?_
        refine lv_icmp_le (tgt := 515) hx hb dL_orders_508 (by decide) (fun c_276 => absurd c_276 (by decide)) (fun c_276 => ?_)
        refine lv_iconst (v := (1 : Int32)) hx hb dL_orders_511 (by decide) ?_
        refine lv_goto (tgt := 516) hx hb dL_orders_512 (by decide) ?_
        refine lv_istore (lv' := [(4, .int (1 : Int32)), (3, .int (1 : Int32)), (2, .int (1 : Int32)), (1, .int (7 : Int32)), (0, .ref h0)]) hx hb dL_orders_516 hl (by decide) rfl (fun ls hl => ?_)
        refine lv_aload_n hx hb dL_orders_518 rfl (lv_at hl 4 rfl) ?_
        refine lv_iload_n hx hb dL_orders_519 rfl (lv_at hl 2 rfl) ?_
        refine lv_iload_n hx hb dL_orders_520 rfl (lv_at hl 1 rfl) ?_
        refine lv_iload hx hb dL_orders_521 (lv_at hl 0 rfl) ?_
        have hFc := fr0 hA hS
        refine va_calli (va_runV (As := [.int (1 : Int32), .int (1 : Int32), .int (1 : Int32)]) (rest := []) ⟨hx, hb, hml, hown, hts⟩ (c_X7_orderFor l dC dI cI h0 h0_1 h0_2 h0_3 h0_4 h0_5 h0_6 h0_7 h0_8 h0_9 h0_10 h0_11 h0_12 h0_13 h0_14 h0_15 h0_16 h0_17 h0_18 h0_19 h0_20 h0_21 h0_22 h0_23 h0_24 h0_25 h0_26 h0_27 h0_28 h0_29 h0_30 _ s0 (1 : Int32) (1 : Int32) (1 : Int32) _ h) (cwV 3 hts (goodIn_up gB_X7_orderFor) rfl rfl rfl (by decide +kernel) ⟨Nat.le_of_ble_eq_true rfl, Nat.le_of_ble_eq_true rfl⟩) (pb_V hP hK hD hN (ci := 7) (q0 := 0) rfl rfl) rfl rfl hl.1 rfl (lv_room (Nat.le_of_ble_eq_true rfl)) dL_orders_523 ⟨Nat.le_of_ble_eq_true rfl, Nat.le_of_ble_eq_true rfl⟩) hS (fun q _ h => hFc q h) hFc (fun r_278 u_277 t H locs ht hvm h hB hz1 hk1 hS => ?_)
        have hP := vaPk hP hk1
        refine lv_iload_n hx hb dL_orders_526 rfl (lv_at hl 3 rfl) ?_
        refine lv_iconst (v := (2 : Int32)) hx hb dL_orders_527 (by decide) ?_
        refine lv_icmp_eq (tgt := 537) hx hb dL_orders_528 (by decide) (fun c_279 => absurd c_279 (by decide)) (fun c_279 => ?_)
        refine lv_iload_n hx hb dL_orders_531 rfl (lv_at hl 3 rfl) ?_
        refine lv_bipush (v := (6 : Int32)) hx hb dL_orders_532 (by decide) ?_
        refine lv_icmp_ne (tgt := 541) hx hb dL_orders_534 (by decide) (fun c_280 => ?_) (fun c_280 => absurd c_280 (by decide))
        refine lv_iload_n hx hb dL_orders_541 rfl (lv_at hl 3 rfl) ?_
        refine lv_iconst (v := (4 : Int32)) hx hb dL_orders_542 (by decide) ?_
        refine lv_icmp_eq (tgt := 551) hx hb dL_orders_543 (by decide) (fun c_281 => absurd c_281 (by decide)) (fun c_281 => ?_)
        refine lv_iload_n hx hb dL_orders_546 rfl (lv_at hl 3 rfl) ?_
        refine lv_iconst (v := (5 : Int32)) hx hb dL_orders_547 (by decide) ?_
        refine lv_icmp_ne (tgt := 555) hx hb dL_orders_548 (by decide) (fun c_282 => ?_) (fun c_282 => absurd c_282 (by decide))
        refine lv_iconst (v := (0 : Int32)) hx hb dL_orders_555 (by decide) ?_
        obtain ⟨ht_, hf_⟩ := h
        refine lv_icmp_eq (tgt := 561) hx hb dL_orders_556 (by decide) (fun c_283 => ?_) (fun c_283 => ?_)
        · have h := ht_ c_283
          refine lv_iinc (v := (8 : Int32)) (lv' := [(1, .int (8 : Int32)), (4, .int (1 : Int32)), (3, .int (1 : Int32)), (2, .int (1 : Int32)), (0, .ref h0)]) hx hb dL_orders_561 hl (k := 3) rfl (by decide) (by decide) rfl (fun ls hl => ?_)
          refine lv_goto (tgt := 472) hx hb dL_orders_564 (by decide) ?_
          refine lv_iload_n hx hb dL_orders_472 rfl (lv_at hl 0 rfl) ?_
          refine lv_bipush (v := (8 : Int32)) hx hb dL_orders_473 (by decide) ?_
          refine lv_icmp_ge (tgt := 567) hx hb dL_orders_475 (by decide) (fun c_284 => ?_) (fun c_284 => absurd c_284 (by decide))
          refine lv_aload_n hx hb dL_orders_567 rfl (lv_at hl 4 rfl) ?_
          refine lv_bipush (v := (7 : Int32)) hx hb dL_orders_568 (by decide) ?_
          refine lv_iconst (v := (1 : Int32)) hx hb dL_orders_570 (by decide) ?_
          refine lv_bipush (v := (9 : Int32)) hx hb dL_orders_571 (by decide) ?_
          have hFc := frw hD hS hA
          refine vx_calli (vx_runV (As := [.int (7 : Int32), .int (1 : Int32), .int (9 : Int32)]) (rest := []) ⟨hx, hb, hml, hown, hts⟩ (c_X7_takeBack l hst dC dI cI h0 h0_1 h0_2 h0_3 h0_4 h0_5 h0_6 h0_7 h0_8 h0_9 h0_10 h0_11 h0_12 h0_13 h0_14 h0_15 h0_16 h0_17 h0_18 h0_19 h0_20 h0_21 h0_22 h0_23 h0_24 h0_25 h0_26 h0_27 h0_28 h0_29 h0_30 _ s0 (7 : Int32) (1 : Int32) (9 : Int32) _ _ h) (cwV 3 hts (goodIn_up gB_X7_takeBack) rfl rfl rfl (by decide +kernel) ⟨Nat.le_of_ble_eq_true rfl, Nat.le_of_ble_eq_true rfl⟩) (pbj_V hP hK hD hN hX hFc hS (ci := 7) (q0 := 0) rfl rfl) rfl rfl hl.1 rfl (lv_room (Nat.le_of_ble_eq_true rfl)) dL_orders_573 ⟨Nat.le_of_ble_eq_true rfl, Nat.le_of_ble_eq_true rfl⟩) hS (fun q _ h => hFc q h) hFc (fun q _ h => hFc q h) (fun E9 ce9 q9 u t H locs ht hvm h hB hz1 hk1 hS hce hcv hcl => (show False from h).elim) (fun r_286 u_285 t H locs ht hvm h hB hz1 hk1 hS => ?_)
          obtain ⟨m_287, m_288, m_289, m_290, hP1, hD1⟩ := hB
          rw [ht] at hP1
          have hP : va_P (dC, dI) vwCl (lwO cI h0 h0_1 h0_2 h0_3 h0_4 h0_5 h0_6 h0_7 h0_8 h0_9 h0_10 h0_11 h0_12 h0_13 h0_14 h0_15 h0_16 h0_17 h0_18 h0_19 h0_20 h0_21 h0_22 m_287 m_288 h0_25 h0_26 m_289 m_290 h0_29 h0_30 u_285) H := hP1
          have hD : va_D A (lwO cI h0 h0_1 h0_2 h0_3 h0_4 h0_5 h0_6 h0_7 h0_8 h0_9 h0_10 h0_11 h0_12 h0_13 h0_14 h0_15 h0_16 h0_17 h0_18 h0_19 h0_20 h0_21 h0_22 m_287 m_288 h0_25 h0_26 m_289 m_290 h0_29 h0_30 u_285) := hD1.weaken (fun _ _ _ h => hFc _ h)
          refine W.widen (k := 267) (n := 11251) (Nat.le_of_ble_eq_true rfl) (Nat.le_of_ble_eq_true rfl) ?_
          obtain ⟨ht_, hf_⟩ := h
          refine lv_if_eq (tgt := 652) hx hb dL_orders_576 (by decide) (fun c_291 => ?_) (fun c_291 => ?_)
          · have h := ht_ c_291
            exact (show False from h).elim
          · have h := hf_ c_291
            refine lv_aload_n hx hb dL_orders_579 rfl (lv_at hl 4 rfl) ?_
            refine lv_bipush (v := (7 : Int32)) hx hb dL_orders_580 (by decide) ?_
            refine lv_iconst (v := (1 : Int32)) hx hb dL_orders_582 (by decide) ?_
            refine lv_bipush (v := (9 : Int32)) hx hb dL_orders_583 (by decide) ?_
            have hFc := frw hD hS hA
            refine vx_calli (vx_runV (As := [.int (7 : Int32), .int (1 : Int32), .int (9 : Int32)]) (rest := []) ⟨hx, hb, hml, hown, hts⟩ (c_X7_takeBack l hst dC dI cI h0 h0_1 h0_2 h0_3 h0_4 h0_5 h0_6 h0_7 h0_8 h0_9 h0_10 h0_11 h0_12 h0_13 h0_14 h0_15 h0_16 h0_17 h0_18 h0_19 h0_20 h0_21 h0_22 m_287 m_288 h0_25 h0_26 m_289 m_290 h0_29 h0_30 _ u_285 (7 : Int32) (1 : Int32) (9 : Int32) _ _ h) (cwV 3 hts (goodIn_up gB_X7_takeBack) rfl rfl rfl (by decide +kernel) ⟨Nat.le_of_ble_eq_true rfl, Nat.le_of_ble_eq_true rfl⟩) (pbj_V hP hK hD hN hX hFc hS (ci := 7) (q0 := 0) rfl rfl) rfl rfl hl.1 rfl (lv_room (Nat.le_of_ble_eq_true rfl)) dL_orders_585 ⟨Nat.le_of_ble_eq_true rfl, Nat.le_of_ble_eq_true rfl⟩) hS (fun q _ h => hFc q h) hFc (fun q _ h => hFc q h) (fun E9 ce9 q9 u t H locs ht hvm h hB hz1 hk1 hS hce hcv hcl => (show False from h).elim) (fun r_293 u_292 t H locs ht hvm h hB hz1 hk1 hS => ?_)
            obtain ⟨m_294, m_295, m_296, m_297, hP1, hD1⟩ := hB
            rw [ht] at hP1
            have hP : va_P (dC, dI) vwCl (lwO cI h0 h0_1 h0_2 h0_3 h0_4 h0_5 h0_6 h0_7 h0_8 h0_9 h0_10 h0_11 h0_12 h0_13 h0_14 h0_15 h0_16 h0_17 h0_18 h0_19 h0_20 h0_21 h0_22 m_294 m_295 h0_25 h0_26 m_296 m_297 h0_29 h0_30 u_292) H := hP1
            have hD : va_D A (lwO cI h0 h0_1 h0_2 h0_3 h0_4 h0_5 h0_6 h0_7 h0_8 h0_9 h0_10 h0_11 h0_12 h0_13 h0_14 h0_15 h0_16 h0_17 h0_18 h0_19 h0_20 h0_21 h0_22 m_294 m_295 h0_25 h0_26 m_296 m_297 h0_29 h0_30 u_292) := hD1.weaken (fun _ _ _ h => hFc _ h)
            refine W.widen (k := 268) (n := 11257) (Nat.le_of_ble_eq_true rfl) (Nat.le_of_ble_eq_true rfl) ?_
            obtain ⟨ht_, hf_⟩ := h
            refine lv_if_ne (tgt := 652) hx hb dL_orders_588 (by decide) (fun c_298 => ?_) (fun c_298 => ?_)
            · have h := ht_ c_298
              exact (show False from h).elim
            · have h := hf_ c_298
              refine lv_aload_n hx hb dL_orders_591 rfl (lv_at hl 4 rfl) ?_
              have hFc := fr0 hA hS
              refine va_calli (va_runV (As := []) (rest := []) ⟨hx, hb, hml, hown, hts⟩ (c_X7_triples l dC dI cI h0 h0_1 h0_2 h0_3 h0_4 h0_5 h0_6 h0_7 h0_8 h0_9 h0_10 h0_11 h0_12 h0_13 h0_14 h0_15 h0_16 h0_17 h0_18 h0_19 h0_20 h0_21 h0_22 m_294 m_295 h0_25 h0_26 m_296 m_297 h0_29 h0_30 _ u_292 _ h) (cwV 0 hts (goodIn_up gB_X7_triples) rfl rfl rfl (by decide +kernel) ⟨Nat.le_of_ble_eq_true rfl, Nat.le_of_ble_eq_true rfl⟩) (pb_V hP hK hD hN (ci := 7) (q0 := 0) rfl rfl) rfl rfl hl.1 rfl (lv_room (Nat.le_of_ble_eq_true rfl)) dL_orders_592 ⟨Nat.le_of_ble_eq_true rfl, Nat.le_of_ble_eq_true rfl⟩) hS (fun q _ h => hFc q h) hFc (fun r_300 u_299 t H locs ht hvm h hB hz1 hk1 hS => ?_)
              have hP := vaPk hP hk1
              refine lv_iconst (v := (3 : Int32)) hx hb dL_orders_595 (by decide) ?_
              obtain ⟨ht_, hf_⟩ := h
              refine lv_icmp_ne (tgt := 652) hx hb dL_orders_596 (by decide) (fun c_301 => ?_) (fun c_301 => ?_)
              · have h := ht_ c_301
                exact (show False from h).elim
              · have h := hf_ c_301
                have hl : lv_has ls 5 [(0, .ref h0)] := lv_sub hl [4] rfl
                refine W.widen (k := 268) (n := 11257) (Nat.le_of_ble_eq_true rfl) (Nat.le_of_ble_eq_true rfl) ?_
                exact sg_L_orders_8 l hst C0 hK hN hX hC hA h0 h0_1 h0_2 h0_3 h0_4 h0_5 h0_6 h0_7 h0_8 h0_9 h0_10 h0_11 h0_12 h0_13 h0_14 h0_15 h0_16 h0_17 h0_18 h0_19 h0_20 h0_21 h0_22 h0_25 h0_26 h0_29 h0_30 _ u_292 h m_294 m_295 m_296 m_297 _ _ hP hD hS _ hl
        · have h := hf_ c_283
          exact (show False from h).elim
      · have h := hf_ c_272
        exact (show False from h).elim
    · have h := hf_ c_263
      exact (show False from h).elim
  · have h := hf_ c_252
    exact (show False from h).elim
set_option maxHeartbeats 4000000 in
set_option maxRecDepth 100000 in
theorem sg_L_orders_6 (l : Launch) (hst : l.stackTraces = false) {p : Program} {e : Env} {s : State} {m : MethodId} {below : List Frame} {meth : Method} {c : Code} (C0 : LC p s m (([] : List Value).toArray) meth c cL_orders 5 wq_orders) {dC : Nat → ClassId} {dI : Nat → Nat → Nat} {cI : ClassId} (hK : va_K (dC, dI) vwCl [(cI, .int)] s) (hN : nk s) {A : Nat → Prop} (hX : xj A s) (hC : xnc s) (hA : ∀ q : Nat, s.heap.size ≤ q → A q) (h0 h0_1 h0_2 h0_3 h0_4 h0_5 h0_6 h0_7 h0_8 h0_9 h0_10 h0_11 h0_12 h0_13 h0_14 h0_15 h0_16 h0_17 h0_18 h0_19 h0_20 h0_21 h0_22 h0_25 h0_26 h0_29 h0_30 : Nat) (post : Int32 → Prop) (s0 : TriS) (h : P_L_orders_6 s0 post) (h0_23 h0_24 h0_27 h0_28 : Nat) (H : Heap) (locs : List Loc) (hP : va_P (dC, dI) vwCl (lwO cI h0 h0_1 h0_2 h0_3 h0_4 h0_5 h0_6 h0_7 h0_8 h0_9 h0_10 h0_11 h0_12 h0_13 h0_14 h0_15 h0_16 h0_17 h0_18 h0_19 h0_20 h0_21 h0_22 h0_23 h0_24 h0_25 h0_26 h0_27 h0_28 h0_29 h0_30 s0) H) (hD : va_D A (lwO cI h0 h0_1 h0_2 h0_3 h0_4 h0_5 h0_6 h0_7 h0_8 h0_9 h0_10 h0_11 h0_12 h0_13 h0_14 h0_15 h0_16 h0_17 h0_18 h0_19 h0_20 h0_21 h0_22 h0_23 h0_24 h0_25 h0_26 h0_27 h0_28 h0_29 h0_30 s0)) (hS : va_S A s.heap H locs) (ls : Array Slot) (hl : lv_has ls 5 [(0, .ref h0)]) : W p l e rm_L_orders s m (([] : List Value).toArray) below meth c H locs 262 11221 (MQ below (Q_L_orders dC dI cI A post) (([] : List Value).toArray) s mc_L_orders ms_L_orders A) (F0 m 433 ls []) := by
  obtain ⟨hx, hb, hr, hml, hown, hts, hlocks⟩ := id C0
  refine lv_aload_n hx hb dL_orders_433 rfl (lv_at hl 0 rfl) ?_
  refine lv_iconst (v := (2 : Int32)) hx hb dL_orders_434 (by decide) ?_
  refine lv_iconst (v := (1 : Int32)) hx hb dL_orders_435 (by decide) ?_
  have hFc := fr0 hA hS
  refine vx_calli (vx_runV (As := [.int (2 : Int32), .int (1 : Int32)]) (rest := []) ⟨hx, hb, hml, hown, hts⟩ (c_X7_seek l hst dC dI cI h0 h0_1 h0_2 h0_3 h0_4 h0_5 h0_6 h0_7 h0_8 h0_9 h0_10 h0_11 h0_12 h0_13 h0_14 h0_15 h0_16 h0_17 h0_18 h0_19 h0_20 h0_21 h0_22 h0_23 h0_24 h0_25 h0_26 h0_27 h0_28 h0_29 h0_30 _ s0 (2 : Int32) (1 : Int32) _ _ h) (cwV 2 hts (goodIn_up gB_X7_seek) rfl rfl rfl (by decide +kernel) ⟨Nat.le_of_ble_eq_true rfl, Nat.le_of_ble_eq_true rfl⟩) (pbj_V hP hK hD hN hX hFc hS (ci := 7) (q0 := 0) rfl rfl) rfl rfl hl.1 rfl (lv_room (Nat.le_of_ble_eq_true rfl)) dL_orders_436 ⟨Nat.le_of_ble_eq_true rfl, Nat.le_of_ble_eq_true rfl⟩) hS (fun q _ h => hFc q h) hFc (fun q _ h => hFc q h) (fun E9 ce9 q9 u t H locs ht hvm h hB hz1 hk1 hS hce hcv hcl => (show False from h).elim) (fun r_190 u_189 t H locs ht hvm h hB hz1 hk1 hS => ?_)
  have hP := vaPk hP hk1
  refine W.widen (k := 263) (n := 11227) (Nat.le_of_ble_eq_true rfl) (Nat.le_of_ble_eq_true rfl) ?_
  refine lv_iconst (v := (1 : Int32)) hx hb dL_orders_439 (by decide) ?_
  obtain ⟨ht_, hf_⟩ := h
  refine lv_icmp_ne (tgt := 468) hx hb dL_orders_440 (by decide) (fun c_191 => ?_) (fun c_191 => ?_)
  · have h := ht_ c_191
    exact (show False from h).elim
  · have h := hf_ c_191
    refine lv_aload_n hx hb dL_orders_443 rfl (lv_at hl 0 rfl) ?_
    refine lv_iconst (v := (0 : Int32)) hx hb dL_orders_444 (by decide) ?_
    refine lv_iconst (v := (2 : Int32)) hx hb dL_orders_445 (by decide) ?_
    have hFc := fr0 hA hS
    refine vx_calli (vx_runV (As := [.int (0 : Int32), .int (2 : Int32)]) (rest := []) ⟨hx, hb, hml, hown, hts⟩ (c_X7_seek l hst dC dI cI h0 h0_1 h0_2 h0_3 h0_4 h0_5 h0_6 h0_7 h0_8 h0_9 h0_10 h0_11 h0_12 h0_13 h0_14 h0_15 h0_16 h0_17 h0_18 h0_19 h0_20 h0_21 h0_22 h0_23 h0_24 h0_25 h0_26 h0_27 h0_28 h0_29 h0_30 _ s0 (0 : Int32) (2 : Int32) _ _ h) (cwV 2 hts (goodIn_up gB_X7_seek) rfl rfl rfl (by decide +kernel) ⟨Nat.le_of_ble_eq_true rfl, Nat.le_of_ble_eq_true rfl⟩) (pbj_V hP hK hD hN hX hFc hS (ci := 7) (q0 := 0) rfl rfl) rfl rfl hl.1 rfl (lv_room (Nat.le_of_ble_eq_true rfl)) dL_orders_446 ⟨Nat.le_of_ble_eq_true rfl, Nat.le_of_ble_eq_true rfl⟩) hS (fun q _ h => hFc q h) hFc (fun q _ h => hFc q h) (fun E9 ce9 q9 u t H locs ht hvm h hB hz1 hk1 hS hce hcv hcl => (show False from h).elim) (fun r_193 u_192 t H locs ht hvm h hB hz1 hk1 hS => ?_)
    have hP := vaPk hP hk1
    refine W.widen (k := 264) (n := 11233) (Nat.le_of_ble_eq_true rfl) (Nat.le_of_ble_eq_true rfl) ?_
    refine lv_iconst (v := (4 : Int32)) hx hb dL_orders_449 (by decide) ?_
    obtain ⟨ht_, hf_⟩ := h
    refine lv_icmp_ne (tgt := 468) hx hb dL_orders_450 (by decide) (fun c_194 => ?_) (fun c_194 => ?_)
    · have h := ht_ c_194
      exact (show False from h).elim
    · have h := hf_ c_194
      refine lv_aload_n hx hb dL_orders_453 rfl (lv_at hl 0 rfl) ?_
      refine lv_bipush (v := (6 : Int32)) hx hb dL_orders_454 (by decide) ?_
      refine lv_iconst (v := (0 : Int32)) hx hb dL_orders_456 (by decide) ?_
      refine lv_bipush (v := (8 : Int32)) hx hb dL_orders_457 (by decide) ?_
      refine lv_iconst (v := (0 : Int32)) hx hb dL_orders_459 (by decide) ?_
      have hFc := frw hD hS hA
      refine vx_calli (SX := Unit) (px := fun _ => False) (BX := fun _ _ _ => True) (AX := A) (vx_runSX0 (vx_runSX (As := [.ref h0, .int (6 : Int32), .int (0 : Int32), .int (8 : Int32), .int (0 : Int32)]) (rest := []) ⟨hx, hb, hml, hown, hts⟩ (c_L_act l hst dC dI cI h0 h0_1 h0_2 h0_3 h0_4 h0_5 h0_6 h0_7 h0_8 h0_9 h0_10 h0_11 h0_12 h0_13 h0_14 h0_15 h0_16 h0_17 h0_18 h0_19 h0_20 h0_21 h0_22 h0_23 h0_24 h0_25 h0_26 h0_27 h0_28 h0_29 h0_30 _ s0 (6 : Int32) (0 : Int32) (8 : Int32) (0 : Int32) _ h) (vx_cwSW 5 hts (goodIn_up gB_L_act) rfl rfl rfl (by decide +kernel) ⟨Nat.le_of_ble_eq_true rfl, Nat.le_of_ble_eq_true rfl⟩) (pbl_S hP hK hD hN hX hC hFc hS) rfl rfl hl.1 rfl (lv_room (Nat.le_of_ble_eq_true rfl)) dL_orders_460 ⟨Nat.le_of_ble_eq_true rfl, Nat.le_of_ble_eq_true rfl⟩)) hS (fun q _ h => hFc q h) hFc (fun q _ h => h) (fun E9 ce9 q9 u t H locs ht hvm h hB hz1 hk1 hS hce hcv hcl => h.elim) (fun r_196 u_195 t H locs ht hvm h hB hz1 hk1 hS => ?_)
      obtain ⟨m_197, m_198, m_199, m_200, hP1, hD1⟩ := hB
      rw [ht] at hP1
      have hP : va_P (dC, dI) vwCl (lwO cI h0 h0_1 h0_2 h0_3 h0_4 h0_5 h0_6 h0_7 h0_8 h0_9 h0_10 h0_11 h0_12 h0_13 h0_14 h0_15 h0_16 h0_17 h0_18 h0_19 h0_20 h0_21 h0_22 m_197 m_198 h0_25 h0_26 m_199 m_200 h0_29 h0_30 u_195) H := hP1
      have hD : va_D A (lwO cI h0 h0_1 h0_2 h0_3 h0_4 h0_5 h0_6 h0_7 h0_8 h0_9 h0_10 h0_11 h0_12 h0_13 h0_14 h0_15 h0_16 h0_17 h0_18 h0_19 h0_20 h0_21 h0_22 m_197 m_198 h0_25 h0_26 m_199 m_200 h0_29 h0_30 u_195) := hD1.weaken (fun _ _ _ h => hFc _ h)
      refine W.widen (k := 266) (n := 11245) (Nat.le_of_ble_eq_true rfl) (Nat.le_of_ble_eq_true rfl) ?_
      refine lv_bipush (v := (-93 : Int32)) hx hb dL_orders_463 (by decide) ?_
      obtain ⟨ht_, hf_⟩ := h
      refine lv_icmp_eq (tgt := 470) hx hb dL_orders_465 (by decide) (fun c_201 => ?_) (fun c_201 => ?_)
      · have h := ht_ c_201
        refine lv_iconst (v := (0 : Int32)) hx hb dL_orders_470 (by decide) ?_
        refine lv_istore_n (lv' := [(1, .int (0 : Int32)), (0, .ref h0)]) hx hb dL_orders_471 rfl hl (by decide) rfl (fun ls hl => ?_)
        refine lv_iload_n hx hb dL_orders_472 rfl (lv_at hl 0 rfl) ?_
        refine lv_bipush (v := (8 : Int32)) hx hb dL_orders_473 (by decide) ?_
        refine lv_icmp_ge (tgt := 567) hx hb dL_orders_475 (by decide) (fun c_202 => absurd c_202 (by decide)) (fun c_202 => ?_)
        refine lv_iload_n hx hb dL_orders_478 rfl (lv_at hl 0 rfl) ?_
        refine lv_iconst (v := (1 : Int32)) hx hb dL_orders_479 (by decide) ?_
        refine lv_iand hx hb dL_orders_480 ?_
        refine lv_lit (b := (0 : Int32)) (by decide) ?_
        refine lv_iconst (v := (1 : Int32)) hx hb dL_orders_481 (by decide) ?_
        refine lv_icmp_ne (tgt := 489) hx hb dL_orders_482 (by decide) (fun c_203 => ?_) (fun c_203 => absurd c_203 (by decide))
        refine lv_iconst (v := (0 : Int32)) hx hb dL_orders_489 (by decide) ?_
        refine lv_istore_n (lv' := [(2, .int (0 : Int32)), (1, .int (0 : Int32)), (0, .ref h0)]) hx hb dL_orders_490 rfl hl (by decide) rfl (fun ls hl => ?_)
        refine lv_iload_n hx hb dL_orders_491 rfl (lv_at hl 1 rfl) ?_
        refine lv_iconst (v := (1 : Int32)) hx hb dL_orders_492 (by decide) ?_
        refine lv_ishr hx hb dL_orders_493 ?_
        refine lv_lit (b := (0 : Int32)) (by decide) ?_
        refine lv_iconst (v := (1 : Int32)) hx hb dL_orders_494 (by decide) ?_
        refine lv_iand hx hb dL_orders_495 ?_
        refine lv_lit (b := (0 : Int32)) (by decide) ?_
        refine lv_iconst (v := (1 : Int32)) hx hb dL_orders_496 (by decide) ?_
        refine lv_icmp_ne (tgt := 504) hx hb dL_orders_497 (by decide) (fun c_204 => ?_) (fun c_204 => absurd c_204 (by decide))
        refine lv_iconst (v := (0 : Int32)) hx hb dL_orders_504 (by decide) ?_
        refine lv_istore_n (lv' := [(3, .int (0 : Int32)), (2, .int (0 : Int32)), (1, .int (0 : Int32)), (0, .ref h0)]) hx hb dL_orders_505 rfl hl (by decide) rfl (fun ls hl => ?_)
        refine lv_iload_n hx hb dL_orders_506 rfl (lv_at hl 2 rfl) ?_
        refine lv_iconst (v := (3 : Int32)) hx hb dL_orders_507 (by decide) ?_
        refine lv_icmp_le (tgt := 515) hx hb dL_orders_508 (by decide) (fun c_205 => ?_) (fun c_205 => absurd c_205 (by decide))
        refine lv_iconst (v := (0 : Int32)) hx hb dL_orders_515 (by decide) ?_
        refine lv_istore (lv' := [(4, .int (0 : Int32)), (3, .int (0 : Int32)), (2, .int (0 : Int32)), (1, .int (0 : Int32)), (0, .ref h0)]) hx hb dL_orders_516 hl (by decide) rfl (fun ls hl => ?_)
        refine lv_aload_n hx hb dL_orders_518 rfl (lv_at hl 4 rfl) ?_
        refine lv_iload_n hx hb dL_orders_519 rfl (lv_at hl 2 rfl) ?_
        refine lv_iload_n hx hb dL_orders_520 rfl (lv_at hl 1 rfl) ?_
        refine lv_iload hx hb dL_orders_521 (lv_at hl 0 rfl) ?_
        have hFc := fr0 hA hS
        refine va_calli (va_runV (As := [.int (0 : Int32), .int (0 : Int32), .int (0 : Int32)]) (rest := []) ⟨hx, hb, hml, hown, hts⟩ (c_X7_orderFor l dC dI cI h0 h0_1 h0_2 h0_3 h0_4 h0_5 h0_6 h0_7 h0_8 h0_9 h0_10 h0_11 h0_12 h0_13 h0_14 h0_15 h0_16 h0_17 h0_18 h0_19 h0_20 h0_21 h0_22 m_197 m_198 h0_25 h0_26 m_199 m_200 h0_29 h0_30 _ u_195 (0 : Int32) (0 : Int32) (0 : Int32) _ h) (cwV 3 hts (goodIn_up gB_X7_orderFor) rfl rfl rfl (by decide +kernel) ⟨Nat.le_of_ble_eq_true rfl, Nat.le_of_ble_eq_true rfl⟩) (pb_V hP hK hD hN (ci := 7) (q0 := 0) rfl rfl) rfl rfl hl.1 rfl (lv_room (Nat.le_of_ble_eq_true rfl)) dL_orders_523 ⟨Nat.le_of_ble_eq_true rfl, Nat.le_of_ble_eq_true rfl⟩) hS (fun q _ h => hFc q h) hFc (fun r_207 u_206 t H locs ht hvm h hB hz1 hk1 hS => ?_)
        have hP := vaPk hP hk1
        refine lv_iload_n hx hb dL_orders_526 rfl (lv_at hl 3 rfl) ?_
        refine lv_iconst (v := (2 : Int32)) hx hb dL_orders_527 (by decide) ?_
        refine lv_icmp_eq (tgt := 537) hx hb dL_orders_528 (by decide) (fun c_208 => absurd c_208 (by decide)) (fun c_208 => ?_)
        refine lv_iload_n hx hb dL_orders_531 rfl (lv_at hl 3 rfl) ?_
        refine lv_bipush (v := (6 : Int32)) hx hb dL_orders_532 (by decide) ?_
        refine lv_icmp_ne (tgt := 541) hx hb dL_orders_534 (by decide) (fun c_209 => ?_) (fun c_209 => absurd c_209 (by decide))
        refine lv_iload_n hx hb dL_orders_541 rfl (lv_at hl 3 rfl) ?_
        refine lv_iconst (v := (4 : Int32)) hx hb dL_orders_542 (by decide) ?_
        refine lv_icmp_eq (tgt := 551) hx hb dL_orders_543 (by decide) (fun c_210 => absurd c_210 (by decide)) (fun c_210 => ?_)
        refine lv_iload_n hx hb dL_orders_546 rfl (lv_at hl 3 rfl) ?_
        refine lv_iconst (v := (5 : Int32)) hx hb dL_orders_547 (by decide) ?_
        refine lv_icmp_ne (tgt := 555) hx hb dL_orders_548 (by decide) (fun c_211 => ?_) (fun c_211 => absurd c_211 (by decide))
        refine lv_iconst (v := (0 : Int32)) hx hb dL_orders_555 (by decide) ?_
        obtain ⟨ht_, hf_⟩ := h
        refine lv_icmp_eq (tgt := 561) hx hb dL_orders_556 (by decide) (fun c_212 => ?_) (fun c_212 => ?_)
        · have h := ht_ c_212
          refine lv_iinc (v := (1 : Int32)) (lv' := [(1, .int (1 : Int32)), (4, .int (0 : Int32)), (3, .int (0 : Int32)), (2, .int (0 : Int32)), (0, .ref h0)]) hx hb dL_orders_561 hl (k := 3) rfl (by decide) (by decide) rfl (fun ls hl => ?_)
          refine lv_goto (tgt := 472) hx hb dL_orders_564 (by decide) ?_
          refine lv_iload_n hx hb dL_orders_472 rfl (lv_at hl 0 rfl) ?_
          refine lv_bipush (v := (8 : Int32)) hx hb dL_orders_473 (by decide) ?_
          refine lv_icmp_ge (tgt := 567) hx hb dL_orders_475 (by decide) (fun c_213 => absurd c_213 (by decide)) (fun c_213 => ?_)
          refine lv_iload_n hx hb dL_orders_478 rfl (lv_at hl 0 rfl) ?_
          refine lv_iconst (v := (1 : Int32)) hx hb dL_orders_479 (by decide) ?_
          refine lv_iand hx hb dL_orders_480 ?_
          refine lv_lit (b := (1 : Int32)) (by decide) ?_
          refine lv_iconst (v := (1 : Int32)) hx hb dL_orders_481 (by decide) ?_
          refine lv_icmp_ne (tgt := 489) hx hb dL_orders_482 (by decide) (fun c_214 => absurd c_214 (by decide)) (fun c_214 => ?_)
          refine lv_iconst (v := (1 : Int32)) hx hb dL_orders_485 (by decide) ?_
          refine lv_goto (tgt := 490) hx hb dL_orders_486 (by decide) ?_
          refine lv_istore_n (lv' := [(2, .int (1 : Int32)), (1, .int (1 : Int32)), (4, .int (0 : Int32)), (3, .int (0 : Int32)), (0, .ref h0)]) hx hb dL_orders_490 rfl hl (by decide) rfl (fun ls hl => ?_)
          refine lv_iload_n hx hb dL_orders_491 rfl (lv_at hl 1 rfl) ?_
          refine lv_iconst (v := (1 : Int32)) hx hb dL_orders_492 (by decide) ?_
          refine lv_ishr hx hb dL_orders_493 ?_
          refine lv_lit (b := (0 : Int32)) (by decide) ?_
          refine lv_iconst (v := (1 : Int32)) hx hb dL_orders_494 (by decide) ?_
          refine lv_iand hx hb dL_orders_495 ?_
          refine lv_lit (b := (0 : Int32)) (by decide) ?_
          refine lv_iconst (v := (1 : Int32)) hx hb dL_orders_496 (by decide) ?_
          refine lv_icmp_ne (tgt := 504) hx hb dL_orders_497 (by decide) (fun c_215 => ?_) (fun c_215 => absurd c_215 (by decide))
          refine lv_iconst (v := (0 : Int32)) hx hb dL_orders_504 (by decide) ?_
          refine lv_istore_n (lv' := [(3, .int (0 : Int32)), (2, .int (1 : Int32)), (1, .int (1 : Int32)), (4, .int (0 : Int32)), (0, .ref h0)]) hx hb dL_orders_505 rfl hl (by decide) rfl (fun ls hl => ?_)
          refine lv_iload_n hx hb dL_orders_506 rfl (lv_at hl 2 rfl) ?_
          refine lv_iconst (v := (3 : Int32)) hx hb dL_orders_507 (by decide) ?_
          refine lv_icmp_le (tgt := 515) hx hb dL_orders_508 (by decide) (fun c_216 => ?_) (fun c_216 => absurd c_216 (by decide))
          refine lv_iconst (v := (0 : Int32)) hx hb dL_orders_515 (by decide) ?_
          refine lv_istore (lv' := [(4, .int (0 : Int32)), (3, .int (0 : Int32)), (2, .int (1 : Int32)), (1, .int (1 : Int32)), (0, .ref h0)]) hx hb dL_orders_516 hl (by decide) rfl (fun ls hl => ?_)
          refine lv_aload_n hx hb dL_orders_518 rfl (lv_at hl 4 rfl) ?_
          refine lv_iload_n hx hb dL_orders_519 rfl (lv_at hl 2 rfl) ?_
          refine lv_iload_n hx hb dL_orders_520 rfl (lv_at hl 1 rfl) ?_
          refine lv_iload hx hb dL_orders_521 (lv_at hl 0 rfl) ?_
          have hFc := fr0 hA hS
          refine va_calli (va_runV (As := [.int (1 : Int32), .int (0 : Int32), .int (0 : Int32)]) (rest := []) ⟨hx, hb, hml, hown, hts⟩ (c_X7_orderFor l dC dI cI h0 h0_1 h0_2 h0_3 h0_4 h0_5 h0_6 h0_7 h0_8 h0_9 h0_10 h0_11 h0_12 h0_13 h0_14 h0_15 h0_16 h0_17 h0_18 h0_19 h0_20 h0_21 h0_22 m_197 m_198 h0_25 h0_26 m_199 m_200 h0_29 h0_30 _ u_195 (1 : Int32) (0 : Int32) (0 : Int32) _ h) (cwV 3 hts (goodIn_up gB_X7_orderFor) rfl rfl rfl (by decide +kernel) ⟨Nat.le_of_ble_eq_true rfl, Nat.le_of_ble_eq_true rfl⟩) (pb_V hP hK hD hN (ci := 7) (q0 := 0) rfl rfl) rfl rfl hl.1 rfl (lv_room (Nat.le_of_ble_eq_true rfl)) dL_orders_523 ⟨Nat.le_of_ble_eq_true rfl, Nat.le_of_ble_eq_true rfl⟩) hS (fun q _ h => hFc q h) hFc (fun r_218 u_217 t H locs ht hvm h hB hz1 hk1 hS => ?_)
          have hP := vaPk hP hk1
          refine lv_iload_n hx hb dL_orders_526 rfl (lv_at hl 3 rfl) ?_
          refine lv_iconst (v := (2 : Int32)) hx hb dL_orders_527 (by decide) ?_
          refine lv_icmp_eq (tgt := 537) hx hb dL_orders_528 (by decide) (fun c_219 => absurd c_219 (by decide)) (fun c_219 => ?_)
          refine lv_iload_n hx hb dL_orders_531 rfl (lv_at hl 3 rfl) ?_
          refine lv_bipush (v := (6 : Int32)) hx hb dL_orders_532 (by decide) ?_
          refine lv_icmp_ne (tgt := 541) hx hb dL_orders_534 (by decide) (fun c_220 => ?_) (fun c_220 => absurd c_220 (by decide))
          refine lv_iload_n hx hb dL_orders_541 rfl (lv_at hl 3 rfl) ?_
          refine lv_iconst (v := (4 : Int32)) hx hb dL_orders_542 (by decide) ?_
          refine lv_icmp_eq (tgt := 551) hx hb dL_orders_543 (by decide) (fun c_221 => absurd c_221 (by decide)) (fun c_221 => ?_)
          refine lv_iload_n hx hb dL_orders_546 rfl (lv_at hl 3 rfl) ?_
          refine lv_iconst (v := (5 : Int32)) hx hb dL_orders_547 (by decide) ?_
          refine lv_icmp_ne (tgt := 555) hx hb dL_orders_548 (by decide) (fun c_222 => ?_) (fun c_222 => absurd c_222 (by decide))
          refine lv_iconst (v := (0 : Int32)) hx hb dL_orders_555 (by decide) ?_
          obtain ⟨ht_, hf_⟩ := h
          refine lv_icmp_eq (tgt := 561) hx hb dL_orders_556 (by decide) (fun c_223 => ?_) (fun c_223 => ?_)
          · have h := ht_ c_223
            refine lv_iinc (v := (2 : Int32)) (lv' := [(1, .int (2 : Int32)), (4, .int (0 : Int32)), (3, .int (0 : Int32)), (2, .int (1 : Int32)), (0, .ref h0)]) hx hb dL_orders_561 hl (k := 3) rfl (by decide) (by decide) rfl (fun ls hl => ?_)
            refine lv_goto (tgt := 472) hx hb dL_orders_564 (by decide) ?_
            refine lv_iload_n hx hb dL_orders_472 rfl (lv_at hl 0 rfl) ?_
            refine lv_bipush (v := (8 : Int32)) hx hb dL_orders_473 (by decide) ?_
            refine lv_icmp_ge (tgt := 567) hx hb dL_orders_475 (by decide) (fun c_224 => absurd c_224 (by decide)) (fun c_224 => ?_)
            refine lv_iload_n hx hb dL_orders_478 rfl (lv_at hl 0 rfl) ?_
            refine lv_iconst (v := (1 : Int32)) hx hb dL_orders_479 (by decide) ?_
            refine lv_iand hx hb dL_orders_480 ?_
            refine lv_lit (b := (0 : Int32)) (by decide) ?_
            refine lv_iconst (v := (1 : Int32)) hx hb dL_orders_481 (by decide) ?_
            refine lv_icmp_ne (tgt := 489) hx hb dL_orders_482 (by decide) (fun c_225 => ?_) (fun c_225 => absurd c_225 (by decide))
            refine lv_iconst (v := (0 : Int32)) hx hb dL_orders_489 (by decide) ?_
            refine lv_istore_n (lv' := [(2, .int (0 : Int32)), (1, .int (2 : Int32)), (4, .int (0 : Int32)), (3, .int (0 : Int32)), (0, .ref h0)]) hx hb dL_orders_490 rfl hl (by decide) rfl (fun ls hl => ?_)
            refine lv_iload_n hx hb dL_orders_491 rfl (lv_at hl 1 rfl) ?_
            refine lv_iconst (v := (1 : Int32)) hx hb dL_orders_492 (by decide) ?_
            refine lv_ishr hx hb dL_orders_493 ?_
            refine lv_lit (b := (1 : Int32)) (by decide) ?_
            refine lv_iconst (v := (1 : Int32)) hx hb dL_orders_494 (by decide) ?_
            refine lv_iand hx hb dL_orders_495 ?_
            refine lv_lit (b := (1 : Int32)) (by decide) ?_
            refine lv_iconst (v := (1 : Int32)) hx hb dL_orders_496 (by decide) ?_
            refine lv_icmp_ne (tgt := 504) hx hb dL_orders_497 (by decide) (fun c_226 => absurd c_226 (by decide)) (fun c_226 => ?_)
            refine lv_iconst (v := (1 : Int32)) hx hb dL_orders_500 (by decide) ?_
            refine lv_goto (tgt := 505) hx hb dL_orders_501 (by decide) ?_
            refine lv_istore_n (lv' := [(3, .int (1 : Int32)), (2, .int (0 : Int32)), (1, .int (2 : Int32)), (4, .int (0 : Int32)), (0, .ref h0)]) hx hb dL_orders_505 rfl hl (by decide) rfl (fun ls hl => ?_)
            refine lv_iload_n hx hb dL_orders_506 rfl (lv_at hl 2 rfl) ?_
            refine lv_iconst (v := (3 : Int32)) hx hb dL_orders_507 (by decide) ?_
            refine lv_icmp_le (tgt := 515) hx hb dL_orders_508 (by decide) (fun c_227 => ?_) (fun c_227 => absurd c_227 (by decide))
            refine lv_iconst (v := (0 : Int32)) hx hb dL_orders_515 (by decide) ?_
            refine lv_istore (lv' := [(4, .int (0 : Int32)), (3, .int (1 : Int32)), (2, .int (0 : Int32)), (1, .int (2 : Int32)), (0, .ref h0)]) hx hb dL_orders_516 hl (by decide) rfl (fun ls hl => ?_)
            refine lv_aload_n hx hb dL_orders_518 rfl (lv_at hl 4 rfl) ?_
            refine lv_iload_n hx hb dL_orders_519 rfl (lv_at hl 2 rfl) ?_
            refine lv_iload_n hx hb dL_orders_520 rfl (lv_at hl 1 rfl) ?_
            refine lv_iload hx hb dL_orders_521 (lv_at hl 0 rfl) ?_
            have hFc := fr0 hA hS
            refine va_calli (va_runV (As := [.int (0 : Int32), .int (1 : Int32), .int (0 : Int32)]) (rest := []) ⟨hx, hb, hml, hown, hts⟩ (c_X7_orderFor l dC dI cI h0 h0_1 h0_2 h0_3 h0_4 h0_5 h0_6 h0_7 h0_8 h0_9 h0_10 h0_11 h0_12 h0_13 h0_14 h0_15 h0_16 h0_17 h0_18 h0_19 h0_20 h0_21 h0_22 m_197 m_198 h0_25 h0_26 m_199 m_200 h0_29 h0_30 _ u_195 (0 : Int32) (1 : Int32) (0 : Int32) _ h) (cwV 3 hts (goodIn_up gB_X7_orderFor) rfl rfl rfl (by decide +kernel) ⟨Nat.le_of_ble_eq_true rfl, Nat.le_of_ble_eq_true rfl⟩) (pb_V hP hK hD hN (ci := 7) (q0 := 0) rfl rfl) rfl rfl hl.1 rfl (lv_room (Nat.le_of_ble_eq_true rfl)) dL_orders_523 ⟨Nat.le_of_ble_eq_true rfl, Nat.le_of_ble_eq_true rfl⟩) hS (fun q _ h => hFc q h) hFc (fun r_229 u_228 t H locs ht hvm h hB hz1 hk1 hS => ?_)
            have hP := vaPk hP hk1
            refine lv_iload_n hx hb dL_orders_526 rfl (lv_at hl 3 rfl) ?_
            refine lv_iconst (v := (2 : Int32)) hx hb dL_orders_527 (by decide) ?_
            refine lv_icmp_eq (tgt := 537) hx hb dL_orders_528 (by decide) (fun c_230 => ?_) (fun c_230 => absurd c_230 (by decide))
            refine lv_iconst (v := (1 : Int32)) hx hb dL_orders_537 (by decide) ?_
            refine lv_goto (tgt := 556) hx hb dL_orders_538 (by decide) ?_
            obtain ⟨ht_, hf_⟩ := h
            refine lv_icmp_eq (tgt := 561) hx hb dL_orders_556 (by decide) (fun c_231 => ?_) (fun c_231 => ?_)
            · have h := ht_ c_231
              refine lv_iinc (v := (3 : Int32)) (lv' := [(1, .int (3 : Int32)), (4, .int (0 : Int32)), (3, .int (1 : Int32)), (2, .int (0 : Int32)), (0, .ref h0)]) hx hb dL_orders_561 hl (k := 3) rfl (by decide) (by decide) rfl (fun ls hl => ?_)
              refine lv_goto (tgt := 472) hx hb dL_orders_564 (by decide) ?_
              refine lv_iload_n hx hb dL_orders_472 rfl (lv_at hl 0 rfl) ?_
              refine lv_bipush (v := (8 : Int32)) hx hb dL_orders_473 (by decide) ?_
              refine lv_icmp_ge (tgt := 567) hx hb dL_orders_475 (by decide) (fun c_232 => absurd c_232 (by decide)) (fun c_232 => ?_)
              refine lv_iload_n hx hb dL_orders_478 rfl (lv_at hl 0 rfl) ?_
              refine lv_iconst (v := (1 : Int32)) hx hb dL_orders_479 (by decide) ?_
              refine lv_iand hx hb dL_orders_480 ?_
              refine lv_lit (b := (1 : Int32)) (by decide) ?_
              refine lv_iconst (v := (1 : Int32)) hx hb dL_orders_481 (by decide) ?_
              refine lv_icmp_ne (tgt := 489) hx hb dL_orders_482 (by decide) (fun c_233 => absurd c_233 (by decide)) (fun c_233 => ?_)
              refine lv_iconst (v := (1 : Int32)) hx hb dL_orders_485 (by decide) ?_
              refine lv_goto (tgt := 490) hx hb dL_orders_486 (by decide) ?_
              refine lv_istore_n (lv' := [(2, .int (1 : Int32)), (1, .int (3 : Int32)), (4, .int (0 : Int32)), (3, .int (1 : Int32)), (0, .ref h0)]) hx hb dL_orders_490 rfl hl (by decide) rfl (fun ls hl => ?_)
              refine lv_iload_n hx hb dL_orders_491 rfl (lv_at hl 1 rfl) ?_
              refine lv_iconst (v := (1 : Int32)) hx hb dL_orders_492 (by decide) ?_
              refine lv_ishr hx hb dL_orders_493 ?_
              refine lv_lit (b := (1 : Int32)) (by decide) ?_
              refine lv_iconst (v := (1 : Int32)) hx hb dL_orders_494 (by decide) ?_
              refine lv_iand hx hb dL_orders_495 ?_
              refine lv_lit (b := (1 : Int32)) (by decide) ?_
              refine lv_iconst (v := (1 : Int32)) hx hb dL_orders_496 (by decide) ?_
              refine lv_icmp_ne (tgt := 504) hx hb dL_orders_497 (by decide) (fun c_234 => absurd c_234 (by decide)) (fun c_234 => ?_)
              refine lv_iconst (v := (1 : Int32)) hx hb dL_orders_500 (by decide) ?_
              refine lv_goto (tgt := 505) hx hb dL_orders_501 (by decide) ?_
              refine lv_istore_n (lv' := [(3, .int (1 : Int32)), (2, .int (1 : Int32)), (1, .int (3 : Int32)), (4, .int (0 : Int32)), (0, .ref h0)]) hx hb dL_orders_505 rfl hl (by decide) rfl (fun ls hl => ?_)
              refine lv_iload_n hx hb dL_orders_506 rfl (lv_at hl 2 rfl) ?_
              refine lv_iconst (v := (3 : Int32)) hx hb dL_orders_507 (by decide) ?_
              refine lv_icmp_le (tgt := 515) hx hb dL_orders_508 (by decide) (fun c_235 => ?_) (fun c_235 => absurd c_235 (by decide))
              refine lv_iconst (v := (0 : Int32)) hx hb dL_orders_515 (by decide) ?_
              refine lv_istore (lv' := [(4, .int (0 : Int32)), (3, .int (1 : Int32)), (2, .int (1 : Int32)), (1, .int (3 : Int32)), (0, .ref h0)]) hx hb dL_orders_516 hl (by decide) rfl (fun ls hl => ?_)
              refine lv_aload_n hx hb dL_orders_518 rfl (lv_at hl 4 rfl) ?_
              refine lv_iload_n hx hb dL_orders_519 rfl (lv_at hl 2 rfl) ?_
              refine lv_iload_n hx hb dL_orders_520 rfl (lv_at hl 1 rfl) ?_
              refine lv_iload hx hb dL_orders_521 (lv_at hl 0 rfl) ?_
              have hFc := fr0 hA hS
              refine va_calli (va_runV (As := [.int (1 : Int32), .int (1 : Int32), .int (0 : Int32)]) (rest := []) ⟨hx, hb, hml, hown, hts⟩ (c_X7_orderFor l dC dI cI h0 h0_1 h0_2 h0_3 h0_4 h0_5 h0_6 h0_7 h0_8 h0_9 h0_10 h0_11 h0_12 h0_13 h0_14 h0_15 h0_16 h0_17 h0_18 h0_19 h0_20 h0_21 h0_22 m_197 m_198 h0_25 h0_26 m_199 m_200 h0_29 h0_30 _ u_195 (1 : Int32) (1 : Int32) (0 : Int32) _ h) (cwV 3 hts (goodIn_up gB_X7_orderFor) rfl rfl rfl (by decide +kernel) ⟨Nat.le_of_ble_eq_true rfl, Nat.le_of_ble_eq_true rfl⟩) (pb_V hP hK hD hN (ci := 7) (q0 := 0) rfl rfl) rfl rfl hl.1 rfl (lv_room (Nat.le_of_ble_eq_true rfl)) dL_orders_523 ⟨Nat.le_of_ble_eq_true rfl, Nat.le_of_ble_eq_true rfl⟩) hS (fun q _ h => hFc q h) hFc (fun r_237 u_236 t H locs ht hvm h hB hz1 hk1 hS => ?_)
              have hP := vaPk hP hk1
              refine lv_iload_n hx hb dL_orders_526 rfl (lv_at hl 3 rfl) ?_
              refine lv_iconst (v := (2 : Int32)) hx hb dL_orders_527 (by decide) ?_
              refine lv_icmp_eq (tgt := 537) hx hb dL_orders_528 (by decide) (fun c_238 => absurd c_238 (by decide)) (fun c_238 => ?_)
              refine lv_iload_n hx hb dL_orders_531 rfl (lv_at hl 3 rfl) ?_
              refine lv_bipush (v := (6 : Int32)) hx hb dL_orders_532 (by decide) ?_
              refine lv_icmp_ne (tgt := 541) hx hb dL_orders_534 (by decide) (fun c_239 => ?_) (fun c_239 => absurd c_239 (by decide))
              refine lv_iload_n hx hb dL_orders_541 rfl (lv_at hl 3 rfl) ?_
              refine lv_iconst (v := (4 : Int32)) hx hb dL_orders_542 (by decide) ?_
              refine lv_icmp_eq (tgt := 551) hx hb dL_orders_543 (by decide) (fun c_240 => absurd c_240 (by decide)) (fun c_240 => ?_)
              refine lv_iload_n hx hb dL_orders_546 rfl (lv_at hl 3 rfl) ?_
              refine lv_iconst (v := (5 : Int32)) hx hb dL_orders_547 (by decide) ?_
              refine lv_icmp_ne (tgt := 555) hx hb dL_orders_548 (by decide) (fun c_241 => ?_) (fun c_241 => absurd c_241 (by decide))
              refine lv_iconst (v := (0 : Int32)) hx hb dL_orders_555 (by decide) ?_
              obtain ⟨ht_, hf_⟩ := h
              refine lv_icmp_eq (tgt := 561) hx hb dL_orders_556 (by decide) (fun c_242 => ?_) (fun c_242 => ?_)
              · have h := ht_ c_242
                have hl : lv_has ls 5 [(0, .ref h0), (1, .int (3 : Int32))] := lv_sub hl [4, 3] rfl
                refine W.widen (k := 266) (n := 11245) (Nat.le_of_ble_eq_true rfl) (Nat.le_of_ble_eq_true rfl) ?_
                exact sg_L_orders_7 l hst C0 hK hN hX hC hA h0 h0_1 h0_2 h0_3 h0_4 h0_5 h0_6 h0_7 h0_8 h0_9 h0_10 h0_11 h0_12 h0_13 h0_14 h0_15 h0_16 h0_17 h0_18 h0_19 h0_20 h0_21 h0_22 h0_25 h0_26 h0_29 h0_30 _ u_195 h m_197 m_198 m_199 m_200 _ _ hP hD hS _ hl
              · have h := hf_ c_242
                exact (show False from h).elim
            · have h := hf_ c_231
              exact (show False from h).elim
          · have h := hf_ c_223
            exact (show False from h).elim
        · have h := hf_ c_212
          exact (show False from h).elim
      · have h := hf_ c_201
        exact (show False from h).elim
