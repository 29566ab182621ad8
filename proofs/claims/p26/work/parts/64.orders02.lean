set_option maxHeartbeats 4000000 in
set_option maxRecDepth 100000 in
theorem sg_L_orders_5 (l : Launch) (hst : l.stackTraces = false) {p : Program} {e : Env} {s : State} {m : MethodId} {below : List Frame} {meth : Method} {c : Code} (C0 : LC p s m (([] : List Value).toArray) meth c cL_orders 5 wq_orders) {dC : Nat → ClassId} {dI : Nat → Nat → Nat} {cI : ClassId} (hK : va_K (dC, dI) vwCl [(cI, .int)] s) (hN : nk s) {A : Nat → Prop} (hX : xj A s) (hC : xnc s) (hA : ∀ q : Nat, s.heap.size ≤ q → A q) (h0 h0_1 h0_2 h0_3 h0_4 h0_5 h0_6 h0_7 h0_8 h0_9 h0_10 h0_11 h0_12 h0_13 h0_14 h0_15 h0_16 h0_17 h0_18 h0_19 h0_20 h0_21 h0_22 h0_25 h0_26 h0_29 h0_30 : Nat) (post : Int32 → Prop) (s0 : TriS) (h : P_L_orders_5 s0 post) (h0_23 h0_24 h0_27 h0_28 : Nat) (H : Heap) (locs : List Loc) (hP : va_P (dC, dI) vwCl (lwO cI h0 h0_1 h0_2 h0_3 h0_4 h0_5 h0_6 h0_7 h0_8 h0_9 h0_10 h0_11 h0_12 h0_13 h0_14 h0_15 h0_16 h0_17 h0_18 h0_19 h0_20 h0_21 h0_22 h0_23 h0_24 h0_25 h0_26 h0_27 h0_28 h0_29 h0_30 s0) H) (hD : va_D A (lwO cI h0 h0_1 h0_2 h0_3 h0_4 h0_5 h0_6 h0_7 h0_8 h0_9 h0_10 h0_11 h0_12 h0_13 h0_14 h0_15 h0_16 h0_17 h0_18 h0_19 h0_20 h0_21 h0_22 h0_23 h0_24 h0_25 h0_26 h0_27 h0_28 h0_29 h0_30 s0)) (hS : va_S A s.heap H locs) (ls : Array Slot) (hl : lv_has ls 5 [(0, .ref h0)]) : W p l e rm_L_orders s m (([] : List Value).toArray) below meth c H locs 255 11179 (MQ below (Q_L_orders dC dI cI A post) (([] : List Value).toArray) s mc_L_orders ms_L_orders A) (F0 m 355 ls []) := by
  obtain ⟨hx, hb, hr, hml, hown, hts, hlocks⟩ := id C0
  refine lv_aload_n hx hb dL_orders_355 rfl (lv_at hl 0 rfl) ?_
  refine lv_iconst (v := (5 : Int32)) hx hb dL_orders_356 (by decide) ?_
  refine lv_iconst (v := (1 : Int32)) hx hb dL_orders_357 (by decide) ?_
  refine lv_bipush (v := (7 : Int32)) hx hb dL_orders_358 (by decide) ?_
  have hFc := fr0 hA hS
  refine vx_calli (vx_runV (As := [.int (5 : Int32), .int (1 : Int32), .int (7 : Int32)]) (rest := []) ⟨hx, hb, hml, hown, hts⟩ (c_X7_count l hst dC dI cI h0 h0_1 h0_2 h0_3 h0_4 h0_5 h0_6 h0_7 h0_8 h0_9 h0_10 h0_11 h0_12 h0_13 h0_14 h0_15 h0_16 h0_17 h0_18 h0_19 h0_20 h0_21 h0_22 h0_23 h0_24 h0_25 h0_26 h0_27 h0_28 h0_29 h0_30 _ s0 (5 : Int32) (1 : Int32) (7 : Int32) _ _ h) (cwV 3 hts (goodIn_up gB_X7_count) rfl rfl rfl (by decide +kernel) ⟨Nat.le_of_ble_eq_true rfl, Nat.le_of_ble_eq_true rfl⟩) (pbj_V hP hK hD hN hX hFc hS (ci := 7) (q0 := 0) rfl rfl) rfl rfl hl.1 rfl (lv_room (Nat.le_of_ble_eq_true rfl)) dL_orders_360 ⟨Nat.le_of_ble_eq_true rfl, Nat.le_of_ble_eq_true rfl⟩) hS (fun q _ h => hFc q h) hFc (fun q _ h => hFc q h) (fun E9 ce9 q9 u t H locs ht hvm h hB hz1 hk1 hS hce hcv hcl => (show False from h).elim) (fun r_169 u_168 t H locs ht hvm h hB hz1 hk1 hS => ?_)
  have hP := vaPk hP hk1
  refine W.widen (k := 256) (n := 11185) (Nat.le_of_ble_eq_true rfl) (Nat.le_of_ble_eq_true rfl) ?_
  refine lv_iconst (v := (1 : Int32)) hx hb dL_orders_363 (by decide) ?_
  obtain ⟨ht_, hf_⟩ := h
  refine lv_icmp_ne (tgt := 468) hx hb dL_orders_364 (by decide) (fun c_170 => ?_) (fun c_170 => ?_)
  · have h := ht_ c_170
    exact (show False from h).elim
  · have h := hf_ c_170
    refine lv_aload_n hx hb dL_orders_367 rfl (lv_at hl 0 rfl) ?_
    refine lv_bipush (v := (8 : Int32)) hx hb dL_orders_368 (by decide) ?_
    refine lv_iconst (v := (-1 : Int32)) hx hb dL_orders_370 (by decide) ?_
    refine lv_iconst (v := (-1 : Int32)) hx hb dL_orders_371 (by decide) ?_
    have hFc := fr0 hA hS
    refine vx_calli (vx_runV (As := [.int (8 : Int32), .int (-1 : Int32), .int (-1 : Int32)]) (rest := []) ⟨hx, hb, hml, hown, hts⟩ (c_X7_count l hst dC dI cI h0 h0_1 h0_2 h0_3 h0_4 h0_5 h0_6 h0_7 h0_8 h0_9 h0_10 h0_11 h0_12 h0_13 h0_14 h0_15 h0_16 h0_17 h0_18 h0_19 h0_20 h0_21 h0_22 h0_23 h0_24 h0_25 h0_26 h0_27 h0_28 h0_29 h0_30 _ s0 (8 : Int32) (-1 : Int32) (-1 : Int32) _ _ h) (cwV 3 hts (goodIn_up gB_X7_count) rfl rfl rfl (by decide +kernel) ⟨Nat.le_of_ble_eq_true rfl, Nat.le_of_ble_eq_true rfl⟩) (pbj_V hP hK hD hN hX hFc hS (ci := 7) (q0 := 0) rfl rfl) rfl rfl hl.1 rfl (lv_room (Nat.le_of_ble_eq_true rfl)) dL_orders_372 ⟨Nat.le_of_ble_eq_true rfl, Nat.le_of_ble_eq_true rfl⟩) hS (fun q _ h => hFc q h) hFc (fun q _ h => hFc q h) (fun E9 ce9 q9 u t H locs ht hvm h hB hz1 hk1 hS hce hcv hcl => (show False from h).elim) (fun r_172 u_171 t H locs ht hvm h hB hz1 hk1 hS => ?_)
    have hP := vaPk hP hk1
    refine W.widen (k := 257) (n := 11191) (Nat.le_of_ble_eq_true rfl) (Nat.le_of_ble_eq_true rfl) ?_
    obtain ⟨ht_, hf_⟩ := h
    refine lv_if_ne (tgt := 468) hx hb dL_orders_375 (by decide) (fun c_173 => ?_) (fun c_173 => ?_)
    · have h := ht_ c_173
      exact (show False from h).elim
    · have h := hf_ c_173
      refine lv_aload_n hx hb dL_orders_378 rfl (lv_at hl 0 rfl) ?_
      refine lv_iconst (v := (-1 : Int32)) hx hb dL_orders_379 (by decide) ?_
      refine lv_iconst (v := (-1 : Int32)) hx hb dL_orders_380 (by decide) ?_
      refine lv_bipush (v := (9 : Int32)) hx hb dL_orders_381 (by decide) ?_
      have hFc := fr0 hA hS
      refine vx_calli (vx_runV (As := [.int (-1 : Int32), .int (-1 : Int32), .int (9 : Int32)]) (rest := []) ⟨hx, hb, hml, hown, hts⟩ (c_X7_count l hst dC dI cI h0 h0_1 h0_2 h0_3 h0_4 h0_5 h0_6 h0_7 h0_8 h0_9 h0_10 h0_11 h0_12 h0_13 h0_14 h0_15 h0_16 h0_17 h0_18 h0_19 h0_20 h0_21 h0_22 h0_23 h0_24 h0_25 h0_26 h0_27 h0_28 h0_29 h0_30 _ s0 (-1 : Int32) (-1 : Int32) (9 : Int32) _ _ h) (cwV 3 hts (goodIn_up gB_X7_count) rfl rfl rfl (by decide +kernel) ⟨Nat.le_of_ble_eq_true rfl, Nat.le_of_ble_eq_true rfl⟩) (pbj_V hP hK hD hN hX hFc hS (ci := 7) (q0 := 0) rfl rfl) rfl rfl hl.1 rfl (lv_room (Nat.le_of_ble_eq_true rfl)) dL_orders_383 ⟨Nat.le_of_ble_eq_true rfl, Nat.le_of_ble_eq_true rfl⟩) hS (fun q _ h => hFc q h) hFc (fun q _ h => hFc q h) (fun E9 ce9 q9 u t H locs ht hvm h hB hz1 hk1 hS hce hcv hcl => (show False from h).elim) (fun r_175 u_174 t H locs ht hvm h hB hz1 hk1 hS => ?_)
      have hP := vaPk hP hk1
      refine W.widen (k := 258) (n := 11197) (Nat.le_of_ble_eq_true rfl) (Nat.le_of_ble_eq_true rfl) ?_
      refine lv_iconst (v := (2 : Int32)) hx hb dL_orders_386 (by decide) ?_
      obtain ⟨ht_, hf_⟩ := h
      refine lv_icmp_ne (tgt := 468) hx hb dL_orders_387 (by decide) (fun c_176 => ?_) (fun c_176 => ?_)
      · have h := ht_ c_176
        exact (show False from h).elim
      · have h := hf_ c_176
        refine lv_aload_n hx hb dL_orders_390 rfl (lv_at hl 0 rfl) ?_
        refine lv_iconst (v := (-1 : Int32)) hx hb dL_orders_391 (by decide) ?_
        refine lv_iconst (v := (-1 : Int32)) hx hb dL_orders_392 (by decide) ?_
        refine lv_iconst (v := (-1 : Int32)) hx hb dL_orders_393 (by decide) ?_
        have hFc := fr0 hA hS
        refine vx_calli (vx_runV (As := [.int (-1 : Int32), .int (-1 : Int32), .int (-1 : Int32)]) (rest := []) ⟨hx, hb, hml, hown, hts⟩ (c_X7_count l hst dC dI cI h0 h0_1 h0_2 h0_3 h0_4 h0_5 h0_6 h0_7 h0_8 h0_9 h0_10 h0_11 h0_12 h0_13 h0_14 h0_15 h0_16 h0_17 h0_18 h0_19 h0_20 h0_21 h0_22 h0_23 h0_24 h0_25 h0_26 h0_27 h0_28 h0_29 h0_30 _ s0 (-1 : Int32) (-1 : Int32) (-1 : Int32) _ _ h) (cwV 3 hts (goodIn_up gB_X7_count) rfl rfl rfl (by decide +kernel) ⟨Nat.le_of_ble_eq_true rfl, Nat.le_of_ble_eq_true rfl⟩) (pbj_V hP hK hD hN hX hFc hS (ci := 7) (q0 := 0) rfl rfl) rfl rfl hl.1 rfl (lv_room (Nat.le_of_ble_eq_true rfl)) dL_orders_394 ⟨Nat.le_of_ble_eq_true rfl, Nat.le_of_ble_eq_true rfl⟩) hS (fun q _ h => hFc q h) hFc (fun q _ h => hFc q h) (fun E9 ce9 q9 u t H locs ht hvm h hB hz1 hk1 hS hce hcv hcl => (show False from h).elim) (fun r_178 u_177 t H locs ht hvm h hB hz1 hk1 hS => ?_)
        have hP := vaPk hP hk1
        refine W.widen (k := 259) (n := 11203) (Nat.le_of_ble_eq_true rfl) (Nat.le_of_ble_eq_true rfl) ?_
        refine lv_iconst (v := (4 : Int32)) hx hb dL_orders_397 (by decide) ?_
        obtain ⟨ht_, hf_⟩ := h
        refine lv_icmp_ne (tgt := 468) hx hb dL_orders_398 (by decide) (fun c_179 => ?_) (fun c_179 => ?_)
        · have h := ht_ c_179
          exact (show False from h).elim
        · have h := hf_ c_179
          refine lv_aload_n hx hb dL_orders_401 rfl (lv_at hl 0 rfl) ?_
          refine lv_iconst (v := (5 : Int32)) hx hb dL_orders_402 (by decide) ?_
          refine lv_iconst (v := (1 : Int32)) hx hb dL_orders_403 (by decide) ?_
          refine lv_bipush (v := (9 : Int32)) hx hb dL_orders_404 (by decide) ?_
          have hFc := fr0 hA hS
          refine vx_calli (vx_runV (As := [.int (5 : Int32), .int (1 : Int32), .int (9 : Int32)]) (rest := []) ⟨hx, hb, hml, hown, hts⟩ (c_X7_count l hst dC dI cI h0 h0_1 h0_2 h0_3 h0_4 h0_5 h0_6 h0_7 h0_8 h0_9 h0_10 h0_11 h0_12 h0_13 h0_14 h0_15 h0_16 h0_17 h0_18 h0_19 h0_20 h0_21 h0_22 h0_23 h0_24 h0_25 h0_26 h0_27 h0_28 h0_29 h0_30 _ s0 (5 : Int32) (1 : Int32) (9 : Int32) _ _ h) (cwV 3 hts (goodIn_up gB_X7_count) rfl rfl rfl (by decide +kernel) ⟨Nat.le_of_ble_eq_true rfl, Nat.le_of_ble_eq_true rfl⟩) (pbj_V hP hK hD hN hX hFc hS (ci := 7) (q0 := 0) rfl rfl) rfl rfl hl.1 rfl (lv_room (Nat.le_of_ble_eq_true rfl)) dL_orders_406 ⟨Nat.le_of_ble_eq_true rfl, Nat.le_of_ble_eq_true rfl⟩) hS (fun q _ h => hFc q h) hFc (fun q _ h => hFc q h) (fun E9 ce9 q9 u t H locs ht hvm h hB hz1 hk1 hS hce hcv hcl => (show False from h).elim) (fun r_181 u_180 t H locs ht hvm h hB hz1 hk1 hS => ?_)
          have hP := vaPk hP hk1
          refine W.widen (k := 260) (n := 11209) (Nat.le_of_ble_eq_true rfl) (Nat.le_of_ble_eq_true rfl) ?_
          obtain ⟨ht_, hf_⟩ := h
          refine lv_if_ne (tgt := 468) hx hb dL_orders_409 (by decide) (fun c_182 => ?_) (fun c_182 => ?_)
          · have h := ht_ c_182
            exact (show False from h).elim
          · have h := hf_ c_182
            refine lv_aload_n hx hb dL_orders_412 rfl (lv_at hl 0 rfl) ?_
            refine lv_iconst (v := (0 : Int32)) hx hb dL_orders_413 (by decide) ?_
            refine lv_bipush (v := (7 : Int32)) hx hb dL_orders_414 (by decide) ?_
            have hFc := fr0 hA hS
            refine vx_calli (vx_runV (As := [.int (0 : Int32), .int (7 : Int32)]) (rest := []) ⟨hx, hb, hml, hown, hts⟩ (c_X7_seek l hst dC dI cI h0 h0_1 h0_2 h0_3 h0_4 h0_5 h0_6 h0_7 h0_8 h0_9 h0_10 h0_11 h0_12 h0_13 h0_14 h0_15 h0_16 h0_17 h0_18 h0_19 h0_20 h0_21 h0_22 h0_23 h0_24 h0_25 h0_26 h0_27 h0_28 h0_29 h0_30 _ s0 (0 : Int32) (7 : Int32) _ _ h) (cwV 2 hts (goodIn_up gB_X7_seek) rfl rfl rfl (by decide +kernel) ⟨Nat.le_of_ble_eq_true rfl, Nat.le_of_ble_eq_true rfl⟩) (pbj_V hP hK hD hN hX hFc hS (ci := 7) (q0 := 0) rfl rfl) rfl rfl hl.1 rfl (lv_room (Nat.le_of_ble_eq_true rfl)) dL_orders_416 ⟨Nat.le_of_ble_eq_true rfl, Nat.le_of_ble_eq_true rfl⟩) hS (fun q _ h => hFc q h) hFc (fun q _ h => hFc q h) (fun E9 ce9 q9 u t H locs ht hvm h hB hz1 hk1 hS hce hcv hcl => (show False from h).elim) (fun r_184 u_183 t H locs ht hvm h hB hz1 hk1 hS => ?_)
            have hP := vaPk hP hk1
            refine W.widen (k := 261) (n := 11215) (Nat.le_of_ble_eq_true rfl) (Nat.le_of_ble_eq_true rfl) ?_
            refine lv_iconst (v := (2 : Int32)) hx hb dL_orders_419 (by decide) ?_
            obtain ⟨ht_, hf_⟩ := h
            refine lv_icmp_ne (tgt := 468) hx hb dL_orders_420 (by decide) (fun c_185 => ?_) (fun c_185 => ?_)
            · have h := ht_ c_185
              exact (show False from h).elim
            · have h := hf_ c_185
              refine lv_aload_n hx hb dL_orders_423 rfl (lv_at hl 0 rfl) ?_
              refine lv_iconst (v := (1 : Int32)) hx hb dL_orders_424 (by decide) ?_
              refine lv_iconst (v := (2 : Int32)) hx hb dL_orders_425 (by decide) ?_
              have hFc := fr0 hA hS
              refine vx_calli (vx_runV (As := [.int (1 : Int32), .int (2 : Int32)]) (rest := []) ⟨hx, hb, hml, hown, hts⟩ (c_X7_seek l hst dC dI cI h0 h0_1 h0_2 h0_3 h0_4 h0_5 h0_6 h0_7 h0_8 h0_9 h0_10 h0_11 h0_12 h0_13 h0_14 h0_15 h0_16 h0_17 h0_18 h0_19 h0_20 h0_21 h0_22 h0_23 h0_24 h0_25 h0_26 h0_27 h0_28 h0_29 h0_30 _ s0 (1 : Int32) (2 : Int32) _ _ h) (cwV 2 hts (goodIn_up gB_X7_seek) rfl rfl rfl (by decide +kernel) ⟨Nat.le_of_ble_eq_true rfl, Nat.le_of_ble_eq_true rfl⟩) (pbj_V hP hK hD hN hX hFc hS (ci := 7) (q0 := 0) rfl rfl) rfl rfl hl.1 rfl (lv_room (Nat.le_of_ble_eq_true rfl)) dL_orders_426 ⟨Nat.le_of_ble_eq_true rfl, Nat.le_of_ble_eq_true rfl⟩) hS (fun q _ h => hFc q h) hFc (fun q _ h => hFc q h) (fun E9 ce9 q9 u t H locs ht hvm h hB hz1 hk1 hS hce hcv hcl => (show False from h).elim) (fun r_187 u_186 t H locs ht hvm h hB hz1 hk1 hS => ?_)
              have hP := vaPk hP hk1
              refine W.widen (k := 262) (n := 11221) (Nat.le_of_ble_eq_true rfl) (Nat.le_of_ble_eq_true rfl) ?_
              refine lv_iconst (v := (3 : Int32)) hx hb dL_orders_429 (by decide) ?_
              obtain ⟨ht_, hf_⟩ := h
              refine lv_icmp_ne (tgt := 468) hx hb dL_orders_430 (by decide) (fun c_188 => ?_) (fun c_188 => ?_)
              · have h := ht_ c_188
                exact (show False from h).elim
              · have h := hf_ c_188
                refine W.widen (k := 262) (n := 11221) (Nat.le_of_ble_eq_true rfl) (Nat.le_of_ble_eq_true rfl) ?_
                exact sg_L_orders_6 l hst C0 hK hN hX hC hA h0 h0_1 h0_2 h0_3 h0_4 h0_5 h0_6 h0_7 h0_8 h0_9 h0_10 h0_11 h0_12 h0_13 h0_14 h0_15 h0_16 h0_17 h0_18 h0_19 h0_20 h0_21 h0_22 h0_25 h0_26 h0_29 h0_30 _ s0 h h0_23 h0_24 h0_27 h0_28 _ _ hP hD hS _ hl
set_option maxHeartbeats 4000000 in
set_option maxRecDepth 100000 in
theorem sg_L_orders_4 (l : Launch) (hst : l.stackTraces = false) {p : Program} {e : Env} {s : State} {m : MethodId} {below : List Frame} {meth : Method} {c : Code} (C0 : LC p s m (([] : List Value).toArray) meth c cL_orders 5 wq_orders) {dC : Nat → ClassId} {dI : Nat → Nat → Nat} {cI : ClassId} (hK : va_K (dC, dI) vwCl [(cI, .int)] s) (hN : nk s) {A : Nat → Prop} (hX : xj A s) (hC : xnc s) (hA : ∀ q : Nat, s.heap.size ≤ q → A q) (h0 h0_1 h0_2 h0_3 h0_4 h0_5 h0_6 h0_7 h0_8 h0_9 h0_10 h0_11 h0_12 h0_13 h0_14 h0_15 h0_16 h0_17 h0_18 h0_19 h0_20 h0_21 h0_22 h0_25 h0_26 h0_29 h0_30 : Nat) (post : Int32 → Prop) (s0 : TriS) (h : P_L_orders_4 s0 post) (h0_23 h0_24 h0_27 h0_28 : Nat) (H : Heap) (locs : List Loc) (hP : va_P (dC, dI) vwCl (lwO cI h0 h0_1 h0_2 h0_3 h0_4 h0_5 h0_6 h0_7 h0_8 h0_9 h0_10 h0_11 h0_12 h0_13 h0_14 h0_15 h0_16 h0_17 h0_18 h0_19 h0_20 h0_21 h0_22 h0_23 h0_24 h0_25 h0_26 h0_27 h0_28 h0_29 h0_30 s0) H) (hD : va_D A (lwO cI h0 h0_1 h0_2 h0_3 h0_4 h0_5 h0_6 h0_7 h0_8 h0_9 h0_10 h0_11 h0_12 h0_13 h0_14 h0_15 h0_16 h0_17 h0_18 h0_19 h0_20 h0_21 h0_22 h0_23 h0_24 h0_25 h0_26 h0_27 h0_28 h0_29 h0_30 s0)) (hS : va_S A s.heap H locs) (ls : Array Slot) (hl : lv_has ls 5 [(0, .ref h0)]) : W p l e rm_L_orders s m (([] : List Value).toArray) below meth c H locs 248 11137 (MQ below (Q_L_orders dC dI cI A post) (([] : List Value).toArray) s mc_L_orders ms_L_orders A) (F0 m 274 ls []) := by
  obtain ⟨hx, hb, hr, hml, hown, hts, hlocks⟩ := id C0
  refine lv_aload_n hx hb dL_orders_274 rfl (lv_at hl 0 rfl) ?_
  refine lv_iconst (v := (2 : Int32)) hx hb dL_orders_275 (by decide) ?_
  refine lv_iconst (v := (0 : Int32)) hx hb dL_orders_276 (by decide) ?_
  refine lv_iconst (v := (2 : Int32)) hx hb dL_orders_277 (by decide) ?_
  have hFc := fr0 hA hS
  refine vx_calli (vx_runV (As := [.int (2 : Int32), .int (0 : Int32), .int (2 : Int32)]) (rest := []) ⟨hx, hb, hml, hown, hts⟩ (c_X7_termAt l hst dC dI cI h0 h0_1 h0_2 h0_3 h0_4 h0_5 h0_6 h0_7 h0_8 h0_9 h0_10 h0_11 h0_12 h0_13 h0_14 h0_15 h0_16 h0_17 h0_18 h0_19 h0_20 h0_21 h0_22 h0_23 h0_24 h0_25 h0_26 h0_27 h0_28 h0_29 h0_30 _ s0 (2 : Int32) (0 : Int32) (2 : Int32) _ _ h) (cwV 3 hts (goodIn_up gB_X7_termAt) rfl rfl rfl (by decide +kernel) ⟨Nat.le_of_ble_eq_true rfl, Nat.le_of_ble_eq_true rfl⟩) (pbj_V hP hK hD hN hX hFc hS (ci := 7) (q0 := 0) rfl rfl) rfl rfl hl.1 rfl (lv_room (Nat.le_of_ble_eq_true rfl)) dL_orders_278 ⟨Nat.le_of_ble_eq_true rfl, Nat.le_of_ble_eq_true rfl⟩) hS (fun q _ h => hFc q h) hFc (fun q _ h => hFc q h) (fun E9 ce9 q9 u t H locs ht hvm h hB hz1 hk1 hS hce hcv hcl => (show False from h).elim) (fun r_148 u_147 t H locs ht hvm h hB hz1 hk1 hS => ?_)
  have hP := vaPk hP hk1
  refine W.widen (k := 249) (n := 11143) (Nat.le_of_ble_eq_true rfl) (Nat.le_of_ble_eq_true rfl) ?_
  refine lv_iconst (v := (5 : Int32)) hx hb dL_orders_281 (by decide) ?_
  obtain ⟨ht_, hf_⟩ := h
  refine lv_icmp_ne (tgt := 331) hx hb dL_orders_282 (by decide) (fun c_149 => ?_) (fun c_149 => ?_)
  · have h := ht_ c_149
    exact (show False from h).elim
  · have h := hf_ c_149
    refine lv_aload_n hx hb dL_orders_285 rfl (lv_at hl 0 rfl) ?_
    refine lv_iconst (v := (2 : Int32)) hx hb dL_orders_286 (by decide) ?_
    refine lv_iconst (v := (1 : Int32)) hx hb dL_orders_287 (by decide) ?_
    refine lv_iconst (v := (2 : Int32)) hx hb dL_orders_288 (by decide) ?_
    have hFc := fr0 hA hS
    refine vx_calli (vx_runV (As := [.int (2 : Int32), .int (1 : Int32), .int (2 : Int32)]) (rest := []) ⟨hx, hb, hml, hown, hts⟩ (c_X7_termAt l hst dC dI cI h0 h0_1 h0_2 h0_3 h0_4 h0_5 h0_6 h0_7 h0_8 h0_9 h0_10 h0_11 h0_12 h0_13 h0_14 h0_15 h0_16 h0_17 h0_18 h0_19 h0_20 h0_21 h0_22 h0_23 h0_24 h0_25 h0_26 h0_27 h0_28 h0_29 h0_30 _ s0 (2 : Int32) (1 : Int32) (2 : Int32) _ _ h) (cwV 3 hts (goodIn_up gB_X7_termAt) rfl rfl rfl (by decide +kernel) ⟨Nat.le_of_ble_eq_true rfl, Nat.le_of_ble_eq_true rfl⟩) (pbj_V hP hK hD hN hX hFc hS (ci := 7) (q0 := 0) rfl rfl) rfl rfl hl.1 rfl (lv_room (Nat.le_of_ble_eq_true rfl)) dL_orders_289 ⟨Nat.le_of_ble_eq_true rfl, Nat.le_of_ble_eq_true rfl⟩) hS (fun q _ h => hFc q h) hFc (fun q _ h => hFc q h) (fun E9 ce9 q9 u t H locs ht hvm h hB hz1 hk1 hS hce hcv hcl => (show False from h).elim) (fun r_151 u_150 t H locs ht hvm h hB hz1 hk1 hS => ?_)
    have hP := vaPk hP hk1
    refine W.widen (k := 250) (n := 11149) (Nat.le_of_ble_eq_true rfl) (Nat.le_of_ble_eq_true rfl) ?_
    refine lv_bipush (v := (7 : Int32)) hx hb dL_orders_292 (by decide) ?_
    obtain ⟨ht_, hf_⟩ := h
    refine lv_icmp_ne (tgt := 331) hx hb dL_orders_294 (by decide) (fun c_152 => ?_) (fun c_152 => ?_)
    · have h := ht_ c_152
      exact (show False from h).elim
    · have h := hf_ c_152
      refine lv_aload_n hx hb dL_orders_297 rfl (lv_at hl 0 rfl) ?_
      refine lv_iconst (v := (2 : Int32)) hx hb dL_orders_298 (by decide) ?_
      refine lv_iconst (v := (2 : Int32)) hx hb dL_orders_299 (by decide) ?_
      refine lv_iconst (v := (0 : Int32)) hx hb dL_orders_300 (by decide) ?_
      have hFc := fr0 hA hS
      refine vx_calli (vx_runV (As := [.int (2 : Int32), .int (2 : Int32), .int (0 : Int32)]) (rest := []) ⟨hx, hb, hml, hown, hts⟩ (c_X7_termAt l hst dC dI cI h0 h0_1 h0_2 h0_3 h0_4 h0_5 h0_6 h0_7 h0_8 h0_9 h0_10 h0_11 h0_12 h0_13 h0_14 h0_15 h0_16 h0_17 h0_18 h0_19 h0_20 h0_21 h0_22 h0_23 h0_24 h0_25 h0_26 h0_27 h0_28 h0_29 h0_30 _ s0 (2 : Int32) (2 : Int32) (0 : Int32) _ _ h) (cwV 3 hts (goodIn_up gB_X7_termAt) rfl rfl rfl (by decide +kernel) ⟨Nat.le_of_ble_eq_true rfl, Nat.le_of_ble_eq_true rfl⟩) (pbj_V hP hK hD hN hX hFc hS (ci := 7) (q0 := 0) rfl rfl) rfl rfl hl.1 rfl (lv_room (Nat.le_of_ble_eq_true rfl)) dL_orders_301 ⟨Nat.le_of_ble_eq_true rfl, Nat.le_of_ble_eq_true rfl⟩) hS (fun q _ h => hFc q h) hFc (fun q _ h => hFc q h) (fun E9 ce9 q9 u t H locs ht hvm h hB hz1 hk1 hS hce hcv hcl => (show False from h).elim) (fun r_154 u_153 t H locs ht hvm h hB hz1 hk1 hS => ?_)
      have hP := vaPk hP hk1
      refine W.widen (k := 251) (n := 11155) (Nat.le_of_ble_eq_true rfl) (Nat.le_of_ble_eq_true rfl) ?_
      refine lv_iconst (v := (5 : Int32)) hx hb dL_orders_304 (by decide) ?_
      obtain ⟨ht_, hf_⟩ := h
      refine lv_icmp_ne (tgt := 331) hx hb dL_orders_305 (by decide) (fun c_155 => ?_) (fun c_155 => ?_)
      · have h := ht_ c_155
        exact (show False from h).elim
      · have h := hf_ c_155
        refine lv_aload_n hx hb dL_orders_308 rfl (lv_at hl 0 rfl) ?_
        refine lv_iconst (v := (2 : Int32)) hx hb dL_orders_309 (by decide) ?_
        refine lv_iconst (v := (2 : Int32)) hx hb dL_orders_310 (by decide) ?_
        refine lv_iconst (v := (1 : Int32)) hx hb dL_orders_311 (by decide) ?_
        have hFc := fr0 hA hS
        refine vx_calli (vx_runV (As := [.int (2 : Int32), .int (2 : Int32), .int (1 : Int32)]) (rest := []) ⟨hx, hb, hml, hown, hts⟩ (c_X7_termAt l hst dC dI cI h0 h0_1 h0_2 h0_3 h0_4 h0_5 h0_6 h0_7 h0_8 h0_9 h0_10 h0_11 h0_12 h0_13 h0_14 h0_15 h0_16 h0_17 h0_18 h0_19 h0_20 h0_21 h0_22 h0_23 h0_24 h0_25 h0_26 h0_27 h0_28 h0_29 h0_30 _ s0 (2 : Int32) (2 : Int32) (1 : Int32) _ _ h) (cwV 3 hts (goodIn_up gB_X7_termAt) rfl rfl rfl (by decide +kernel) ⟨Nat.le_of_ble_eq_true rfl, Nat.le_of_ble_eq_true rfl⟩) (pbj_V hP hK hD hN hX hFc hS (ci := 7) (q0 := 0) rfl rfl) rfl rfl hl.1 rfl (lv_room (Nat.le_of_ble_eq_true rfl)) dL_orders_312 ⟨Nat.le_of_ble_eq_true rfl, Nat.le_of_ble_eq_true rfl⟩) hS (fun q _ h => hFc q h) hFc (fun q _ h => hFc q h) (fun E9 ce9 q9 u t H locs ht hvm h hB hz1 hk1 hS hce hcv hcl => (show False from h).elim) (fun r_157 u_156 t H locs ht hvm h hB hz1 hk1 hS => ?_)
        have hP := vaPk hP hk1
        refine W.widen (k := 252) (n := 11161) (Nat.le_of_ble_eq_true rfl) (Nat.le_of_ble_eq_true rfl) ?_
        refine lv_iconst (v := (2 : Int32)) hx hb dL_orders_315 (by decide) ?_
        obtain ⟨ht_, hf_⟩ := h
        refine lv_icmp_ne (tgt := 331) hx hb dL_orders_316 (by decide) (fun c_158 => ?_) (fun c_158 => ?_)
        · have h := ht_ c_158
          exact (show False from h).elim
        · have h := hf_ c_158
          refine lv_aload_n hx hb dL_orders_319 rfl (lv_at hl 0 rfl) ?_
          refine lv_iconst (v := (2 : Int32)) hx hb dL_orders_320 (by decide) ?_
          refine lv_iconst (v := (3 : Int32)) hx hb dL_orders_321 (by decide) ?_
          refine lv_iconst (v := (0 : Int32)) hx hb dL_orders_322 (by decide) ?_
          have hFc := fr0 hA hS
          refine vx_calli (vx_runV (As := [.int (2 : Int32), .int (3 : Int32), .int (0 : Int32)]) (rest := []) ⟨hx, hb, hml, hown, hts⟩ (c_X7_termAt l hst dC dI cI h0 h0_1 h0_2 h0_3 h0_4 h0_5 h0_6 h0_7 h0_8 h0_9 h0_10 h0_11 h0_12 h0_13 h0_14 h0_15 h0_16 h0_17 h0_18 h0_19 h0_20 h0_21 h0_22 h0_23 h0_24 h0_25 h0_26 h0_27 h0_28 h0_29 h0_30 _ s0 (2 : Int32) (3 : Int32) (0 : Int32) _ _ h) (cwV 3 hts (goodIn_up gB_X7_termAt) rfl rfl rfl (by decide +kernel) ⟨Nat.le_of_ble_eq_true rfl, Nat.le_of_ble_eq_true rfl⟩) (pbj_V hP hK hD hN hX hFc hS (ci := 7) (q0 := 0) rfl rfl) rfl rfl hl.1 rfl (lv_room (Nat.le_of_ble_eq_true rfl)) dL_orders_323 ⟨Nat.le_of_ble_eq_true rfl, Nat.le_of_ble_eq_true rfl⟩) hS (fun q _ h => hFc q h) hFc (fun q _ h => hFc q h) (fun E9 ce9 q9 u t H locs ht hvm h hB hz1 hk1 hS hce hcv hcl => (show False from h).elim) (fun r_160 u_159 t H locs ht hvm h hB hz1 hk1 hS => ?_)
          have hP := vaPk hP hk1
          refine W.widen (k := 253) (n := 11167) (Nat.le_of_ble_eq_true rfl) (Nat.le_of_ble_eq_true rfl) ?_
          refine lv_bipush (v := (7 : Int32)) hx hb dL_orders_326 (by decide) ?_
          obtain ⟨ht_, hf_⟩ := h
          refine lv_icmp_eq (tgt := 333) hx hb dL_orders_328 (by decide) (fun c_161 => ?_) (fun c_161 => ?_)
          · have h := ht_ c_161
            refine lv_aload_n hx hb dL_orders_333 rfl (lv_at hl 0 rfl) ?_
            refine lv_iconst (v := (-1 : Int32)) hx hb dL_orders_334 (by decide) ?_
            refine lv_iconst (v := (1 : Int32)) hx hb dL_orders_335 (by decide) ?_
            refine lv_iconst (v := (-1 : Int32)) hx hb dL_orders_336 (by decide) ?_
            have hFc := fr0 hA hS
            refine vx_calli (vx_runV (As := [.int (-1 : Int32), .int (1 : Int32), .int (-1 : Int32)]) (rest := []) ⟨hx, hb, hml, hown, hts⟩ (c_X7_count l hst dC dI cI h0 h0_1 h0_2 h0_3 h0_4 h0_5 h0_6 h0_7 h0_8 h0_9 h0_10 h0_11 h0_12 h0_13 h0_14 h0_15 h0_16 h0_17 h0_18 h0_19 h0_20 h0_21 h0_22 h0_23 h0_24 h0_25 h0_26 h0_27 h0_28 h0_29 h0_30 _ s0 (-1 : Int32) (1 : Int32) (-1 : Int32) _ _ h) (cwV 3 hts (goodIn_up gB_X7_count) rfl rfl rfl (by decide +kernel) ⟨Nat.le_of_ble_eq_true rfl, Nat.le_of_ble_eq_true rfl⟩) (pbj_V hP hK hD hN hX hFc hS (ci := 7) (q0 := 0) rfl rfl) rfl rfl hl.1 rfl (lv_room (Nat.le_of_ble_eq_true rfl)) dL_orders_337 ⟨Nat.le_of_ble_eq_true rfl, Nat.le_of_ble_eq_true rfl⟩) hS (fun q _ h => hFc q h) hFc (fun q _ h => hFc q h) (fun E9 ce9 q9 u t H locs ht hvm h hB hz1 hk1 hS hce hcv hcl => (show False from h).elim) (fun r_163 u_162 t H locs ht hvm h hB hz1 hk1 hS => ?_)
            have hP := vaPk hP hk1
            refine W.widen (k := 254) (n := 11173) (Nat.le_of_ble_eq_true rfl) (Nat.le_of_ble_eq_true rfl) ?_
            refine lv_iconst (v := (3 : Int32)) hx hb dL_orders_340 (by decide) ?_
            obtain ⟨ht_, hf_⟩ := h
            refine lv_icmp_ne (tgt := 468) hx hb dL_orders_341 (by decide) (fun c_164 => ?_) (fun c_164 => ?_)
            · have h := ht_ c_164
              exact (show False from h).elim
            · have h := hf_ c_164
              refine lv_aload_n hx hb dL_orders_344 rfl (lv_at hl 0 rfl) ?_
              refine lv_iconst (v := (5 : Int32)) hx hb dL_orders_345 (by decide) ?_
              refine lv_iconst (v := (-1 : Int32)) hx hb dL_orders_346 (by decide) ?_
              refine lv_iconst (v := (-1 : Int32)) hx hb dL_orders_347 (by decide) ?_
              have hFc := fr0 hA hS
              refine vx_calli (vx_runV (As := [.int (5 : Int32), .int (-1 : Int32), .int (-1 : Int32)]) (rest := []) ⟨hx, hb, hml, hown, hts⟩ (c_X7_count l hst dC dI cI h0 h0_1 h0_2 h0_3 h0_4 h0_5 h0_6 h0_7 h0_8 h0_9 h0_10 h0_11 h0_12 h0_13 h0_14 h0_15 h0_16 h0_17 h0_18 h0_19 h0_20 h0_21 h0_22 h0_23 h0_24 h0_25 h0_26 h0_27 h0_28 h0_29 h0_30 _ s0 (5 : Int32) (-1 : Int32) (-1 : Int32) _ _ h) (cwV 3 hts (goodIn_up gB_X7_count) rfl rfl rfl (by decide +kernel) ⟨Nat.le_of_ble_eq_true rfl, Nat.le_of_ble_eq_true rfl⟩) (pbj_V hP hK hD hN hX hFc hS (ci := 7) (q0 := 0) rfl rfl) rfl rfl hl.1 rfl (lv_room (Nat.le_of_ble_eq_true rfl)) dL_orders_348 ⟨Nat.le_of_ble_eq_true rfl, Nat.le_of_ble_eq_true rfl⟩) hS (fun q _ h => hFc q h) hFc (fun q _ h => hFc q h) (fun E9 ce9 q9 u t H locs ht hvm h hB hz1 hk1 hS hce hcv hcl => (show False from h).elim) (fun r_166 u_165 t H locs ht hvm h hB hz1 hk1 hS => ?_)
              have hP := vaPk hP hk1
              refine W.widen (k := 255) (n := 11179) (Nat.le_of_ble_eq_true rfl) (Nat.le_of_ble_eq_true rfl) ?_
              refine lv_iconst (v := (2 : Int32)) hx hb dL_orders_351 (by decide) ?_
              obtain ⟨ht_, hf_⟩ := h
              refine lv_icmp_ne (tgt := 468) hx hb dL_orders_352 (by decide) (fun c_167 => ?_) (fun c_167 => ?_)
              · have h := ht_ c_167
                exact (show False from h).elim
              · have h := hf_ c_167
                refine W.widen (k := 255) (n := 11179) (Nat.le_of_ble_eq_true rfl) (Nat.le_of_ble_eq_true rfl) ?_
                exact sg_L_orders_5 l hst C0 hK hN hX hC hA h0 h0_1 h0_2 h0_3 h0_4 h0_5 h0_6 h0_7 h0_8 h0_9 h0_10 h0_11 h0_12 h0_13 h0_14 h0_15 h0_16 h0_17 h0_18 h0_19 h0_20 h0_21 h0_22 h0_25 h0_26 h0_29 h0_30 _ s0 h h0_23 h0_24 h0_27 h0_28 _ _ hP hD hS _ hl
          · have h := hf_ c_161
            exact (show False from h).elim
set_option maxHeartbeats 4000000 in
set_option maxRecDepth 100000 in
theorem sg_L_orders_3 (l : Launch) (hst : l.stackTraces = false) {p : Program} {e : Env} {s : State} {m : MethodId} {below : List Frame} {meth : Method} {c : Code} (C0 : LC p s m (([] : List Value).toArray) meth c cL_orders 5 wq_orders) {dC : Nat → ClassId} {dI : Nat → Nat → Nat} {cI : ClassId} (hK : va_K (dC, dI) vwCl [(cI, .int)] s) (hN : nk s) {A : Nat → Prop} (hX : xj A s) (hC : xnc s) (hA : ∀ q : Nat, s.heap.size ≤ q → A q) (h0 h0_1 h0_2 h0_3 h0_4 h0_5 h0_6 h0_7 h0_8 h0_9 h0_10 h0_11 h0_12 h0_13 h0_14 h0_15 h0_16 h0_17 h0_18 h0_19 h0_20 h0_21 h0_22 h0_25 h0_26 h0_29 h0_30 : Nat) (post : Int32 → Prop) (s0 : TriS) (h : P_L_orders_3 s0 post) (h0_23 h0_24 h0_27 h0_28 : Nat) (H : Heap) (locs : List Loc) (hP : va_P (dC, dI) vwCl (lwO cI h0 h0_1 h0_2 h0_3 h0_4 h0_5 h0_6 h0_7 h0_8 h0_9 h0_10 h0_11 h0_12 h0_13 h0_14 h0_15 h0_16 h0_17 h0_18 h0_19 h0_20 h0_21 h0_22 h0_23 h0_24 h0_25 h0_26 h0_27 h0_28 h0_29 h0_30 s0) H) (hD : va_D A (lwO cI h0 h0_1 h0_2 h0_3 h0_4 h0_5 h0_6 h0_7 h0_8 h0_9 h0_10 h0_11 h0_12 h0_13 h0_14 h0_15 h0_16 h0_17 h0_18 h0_19 h0_20 h0_21 h0_22 h0_23 h0_24 h0_25 h0_26 h0_27 h0_28 h0_29 h0_30 s0)) (hS : va_S A s.heap H locs) (ls : Array Slot) (hl : lv_has ls 5 [(0, .ref h0)]) : W p l e rm_L_orders s m (([] : List Value).toArray) below meth c H locs 241 11095 (MQ below (Q_L_orders dC dI cI A post) (([] : List Value).toArray) s mc_L_orders ms_L_orders A) (F0 m 193 ls []) := by
  obtain ⟨hx, hb, hr, hml, hown, hts, hlocks⟩ := id C0
  refine lv_aload_n hx hb dL_orders_193 rfl (lv_at hl 0 rfl) ?_
  refine lv_iconst (v := (0 : Int32)) hx hb dL_orders_194 (by decide) ?_
  refine lv_iconst (v := (1 : Int32)) hx hb dL_orders_195 (by decide) ?_
  refine lv_iconst (v := (1 : Int32)) hx hb dL_orders_196 (by decide) ?_
  have hFc := fr0 hA hS
  refine vx_calli (vx_runV (As := [.int (0 : Int32), .int (1 : Int32), .int (1 : Int32)]) (rest := []) ⟨hx, hb, hml, hown, hts⟩ (c_X7_termAt l hst dC dI cI h0 h0_1 h0_2 h0_3 h0_4 h0_5 h0_6 h0_7 h0_8 h0_9 h0_10 h0_11 h0_12 h0_13 h0_14 h0_15 h0_16 h0_17 h0_18 h0_19 h0_20 h0_21 h0_22 h0_23 h0_24 h0_25 h0_26 h0_27 h0_28 h0_29 h0_30 _ s0 (0 : Int32) (1 : Int32) (1 : Int32) _ _ h) (cwV 3 hts (goodIn_up gB_X7_termAt) rfl rfl rfl (by decide +kernel) ⟨Nat.le_of_ble_eq_true rfl, Nat.le_of_ble_eq_true rfl⟩) (pbj_V hP hK hD hN hX hFc hS (ci := 7) (q0 := 0) rfl rfl) rfl rfl hl.1 rfl (lv_room (Nat.le_of_ble_eq_true rfl)) dL_orders_197 ⟨Nat.le_of_ble_eq_true rfl, Nat.le_of_ble_eq_true rfl⟩) hS (fun q _ h => hFc q h) hFc (fun q _ h => hFc q h) (fun E9 ce9 q9 u t H locs ht hvm h hB hz1 hk1 hS hce hcv hcl => (show False from h).elim) (fun r_127 u_126 t H locs ht hvm h hB hz1 hk1 hS => ?_)
  have hP := vaPk hP hk1
  refine W.widen (k := 242) (n := 11101) (Nat.le_of_ble_eq_true rfl) (Nat.le_of_ble_eq_true rfl) ?_
  refine lv_iconst (v := (2 : Int32)) hx hb dL_orders_200 (by decide) ?_
  obtain ⟨ht_, hf_⟩ := h
  refine lv_icmp_ne (tgt := 331) hx hb dL_orders_201 (by decide) (fun c_128 => ?_) (fun c_128 => ?_)
  · have h := ht_ c_128
    exact (show False from h).elim
  · have h := hf_ c_128
    refine lv_aload_n hx hb dL_orders_204 rfl (lv_at hl 0 rfl) ?_
    refine lv_iconst (v := (0 : Int32)) hx hb dL_orders_205 (by decide) ?_
    refine lv_iconst (v := (2 : Int32)) hx hb dL_orders_206 (by decide) ?_
    refine lv_iconst (v := (0 : Int32)) hx hb dL_orders_207 (by decide) ?_
    have hFc := fr0 hA hS
    refine vx_calli (vx_runV (As := [.int (0 : Int32), .int (2 : Int32), .int (0 : Int32)]) (rest := []) ⟨hx, hb, hml, hown, hts⟩ (c_X7_termAt l hst dC dI cI h0 h0_1 h0_2 h0_3 h0_4 h0_5 h0_6 h0_7 h0_8 h0_9 h0_10 h0_11 h0_12 h0_13 h0_14 h0_15 h0_16 h0_17 h0_18 h0_19 h0_20 h0_21 h0_22 h0_23 h0_24 h0_25 h0_26 h0_27 h0_28 h0_29 h0_30 _ s0 (0 : Int32) (2 : Int32) (0 : Int32) _ _ h) (cwV 3 hts (goodIn_up gB_X7_termAt) rfl rfl rfl (by decide +kernel) ⟨Nat.le_of_ble_eq_true rfl, Nat.le_of_ble_eq_true rfl⟩) (pbj_V hP hK hD hN hX hFc hS (ci := 7) (q0 := 0) rfl rfl) rfl rfl hl.1 rfl (lv_room (Nat.le_of_ble_eq_true rfl)) dL_orders_208 ⟨Nat.le_of_ble_eq_true rfl, Nat.le_of_ble_eq_true rfl⟩) hS (fun q _ h => hFc q h) hFc (fun q _ h => hFc q h) (fun E9 ce9 q9 u t H locs ht hvm h hB hz1 hk1 hS hce hcv hcl => (show False from h).elim) (fun r_130 u_129 t H locs ht hvm h hB hz1 hk1 hS => ?_)
    have hP := vaPk hP hk1
    refine W.widen (k := 243) (n := 11107) (Nat.le_of_ble_eq_true rfl) (Nat.le_of_ble_eq_true rfl) ?_
    refine lv_bipush (v := (7 : Int32)) hx hb dL_orders_211 (by decide) ?_
    obtain ⟨ht_, hf_⟩ := h
    refine lv_icmp_ne (tgt := 331) hx hb dL_orders_213 (by decide) (fun c_131 => ?_) (fun c_131 => ?_)
    · have h := ht_ c_131
      exact (show False from h).elim
    · have h := hf_ c_131
      refine lv_aload_n hx hb dL_orders_216 rfl (lv_at hl 0 rfl) ?_
      refine lv_iconst (v := (0 : Int32)) hx hb dL_orders_217 (by decide) ?_
      refine lv_iconst (v := (3 : Int32)) hx hb dL_orders_218 (by decide) ?_
      refine lv_iconst (v := (0 : Int32)) hx hb dL_orders_219 (by decide) ?_
      have hFc := fr0 hA hS
      refine vx_calli (vx_runV (As := [.int (0 : Int32), .int (3 : Int32), .int (0 : Int32)]) (rest := []) ⟨hx, hb, hml, hown, hts⟩ (c_X7_termAt l hst dC dI cI h0 h0_1 h0_2 h0_3 h0_4 h0_5 h0_6 h0_7 h0_8 h0_9 h0_10 h0_11 h0_12 h0_13 h0_14 h0_15 h0_16 h0_17 h0_18 h0_19 h0_20 h0_21 h0_22 h0_23 h0_24 h0_25 h0_26 h0_27 h0_28 h0_29 h0_30 _ s0 (0 : Int32) (3 : Int32) (0 : Int32) _ _ h) (cwV 3 hts (goodIn_up gB_X7_termAt) rfl rfl rfl (by decide +kernel) ⟨Nat.le_of_ble_eq_true rfl, Nat.le_of_ble_eq_true rfl⟩) (pbj_V hP hK hD hN hX hFc hS (ci := 7) (q0 := 0) rfl rfl) rfl rfl hl.1 rfl (lv_room (Nat.le_of_ble_eq_true rfl)) dL_orders_220 ⟨Nat.le_of_ble_eq_true rfl, Nat.le_of_ble_eq_true rfl⟩) hS (fun q _ h => hFc q h) hFc (fun q _ h => hFc q h) (fun E9 ce9 q9 u t H locs ht hvm h hB hz1 hk1 hS hce hcv hcl => (show False from h).elim) (fun r_133 u_132 t H locs ht hvm h hB hz1 hk1 hS => ?_)
      have hP := vaPk hP hk1
      refine W.widen (k := 244) (n := 11113) (Nat.le_of_ble_eq_true rfl) (Nat.le_of_ble_eq_true rfl) ?_
      refine lv_bipush (v := (9 : Int32)) hx hb dL_orders_223 (by decide) ?_
      obtain ⟨ht_, hf_⟩ := h
      refine lv_icmp_ne (tgt := 331) hx hb dL_orders_225 (by decide) (fun c_134 => ?_) (fun c_134 => ?_)
      · have h := ht_ c_134
        exact (show False from h).elim
      · have h := hf_ c_134
        refine lv_aload_n hx hb dL_orders_228 rfl (lv_at hl 0 rfl) ?_
        refine lv_iconst (v := (1 : Int32)) hx hb dL_orders_229 (by decide) ?_
        refine lv_iconst (v := (0 : Int32)) hx hb dL_orders_230 (by decide) ?_
        refine lv_iconst (v := (0 : Int32)) hx hb dL_orders_231 (by decide) ?_
        have hFc := fr0 hA hS
        refine vx_calli (vx_runV (As := [.int (1 : Int32), .int (0 : Int32), .int (0 : Int32)]) (rest := []) ⟨hx, hb, hml, hown, hts⟩ (c_X7_termAt l hst dC dI cI h0 h0_1 h0_2 h0_3 h0_4 h0_5 h0_6 h0_7 h0_8 h0_9 h0_10 h0_11 h0_12 h0_13 h0_14 h0_15 h0_16 h0_17 h0_18 h0_19 h0_20 h0_21 h0_22 h0_23 h0_24 h0_25 h0_26 h0_27 h0_28 h0_29 h0_30 _ s0 (1 : Int32) (0 : Int32) (0 : Int32) _ _ h) (cwV 3 hts (goodIn_up gB_X7_termAt) rfl rfl rfl (by decide +kernel) ⟨Nat.le_of_ble_eq_true rfl, Nat.le_of_ble_eq_true rfl⟩) (pbj_V hP hK hD hN hX hFc hS (ci := 7) (q0 := 0) rfl rfl) rfl rfl hl.1 rfl (lv_room (Nat.le_of_ble_eq_true rfl)) dL_orders_232 ⟨Nat.le_of_ble_eq_true rfl, Nat.le_of_ble_eq_true rfl⟩) hS (fun q _ h => hFc q h) hFc (fun q _ h => hFc q h) (fun E9 ce9 q9 u t H locs ht hvm h hB hz1 hk1 hS hce hcv hcl => (show False from h).elim) (fun r_136 u_135 t H locs ht hvm h hB hz1 hk1 hS => ?_)
        have hP := vaPk hP hk1
        refine W.widen (k := 245) (n := 11119) (Nat.le_of_ble_eq_true rfl) (Nat.le_of_ble_eq_true rfl) ?_
        refine lv_bipush (v := (9 : Int32)) hx hb dL_orders_235 (by decide) ?_
        obtain ⟨ht_, hf_⟩ := h
        refine lv_icmp_ne (tgt := 331) hx hb dL_orders_237 (by decide) (fun c_137 => ?_) (fun c_137 => ?_)
        · have h := ht_ c_137
          exact (show False from h).elim
        · have h := hf_ c_137
          refine lv_aload_n hx hb dL_orders_240 rfl (lv_at hl 0 rfl) ?_
          refine lv_iconst (v := (1 : Int32)) hx hb dL_orders_241 (by decide) ?_
          refine lv_iconst (v := (1 : Int32)) hx hb dL_orders_242 (by decide) ?_
          refine lv_iconst (v := (0 : Int32)) hx hb dL_orders_243 (by decide) ?_
          have hFc := fr0 hA hS
          refine vx_calli (vx_runV (As := [.int (1 : Int32), .int (1 : Int32), .int (0 : Int32)]) (rest := []) ⟨hx, hb, hml, hown, hts⟩ (c_X7_termAt l hst dC dI cI h0 h0_1 h0_2 h0_3 h0_4 h0_5 h0_6 h0_7 h0_8 h0_9 h0_10 h0_11 h0_12 h0_13 h0_14 h0_15 h0_16 h0_17 h0_18 h0_19 h0_20 h0_21 h0_22 h0_23 h0_24 h0_25 h0_26 h0_27 h0_28 h0_29 h0_30 _ s0 (1 : Int32) (1 : Int32) (0 : Int32) _ _ h) (cwV 3 hts (goodIn_up gB_X7_termAt) rfl rfl rfl (by decide +kernel) ⟨Nat.le_of_ble_eq_true rfl, Nat.le_of_ble_eq_true rfl⟩) (pbj_V hP hK hD hN hX hFc hS (ci := 7) (q0 := 0) rfl rfl) rfl rfl hl.1 rfl (lv_room (Nat.le_of_ble_eq_true rfl)) dL_orders_244 ⟨Nat.le_of_ble_eq_true rfl, Nat.le_of_ble_eq_true rfl⟩) hS (fun q _ h => hFc q h) hFc (fun q _ h => hFc q h) (fun E9 ce9 q9 u t H locs ht hvm h hB hz1 hk1 hS hce hcv hcl => (show False from h).elim) (fun r_139 u_138 t H locs ht hvm h hB hz1 hk1 hS => ?_)
          have hP := vaPk hP hk1
          refine W.widen (k := 246) (n := 11125) (Nat.le_of_ble_eq_true rfl) (Nat.le_of_ble_eq_true rfl) ?_
          refine lv_iconst (v := (5 : Int32)) hx hb dL_orders_247 (by decide) ?_
          obtain ⟨ht_, hf_⟩ := h
          refine lv_icmp_ne (tgt := 331) hx hb dL_orders_248 (by decide) (fun c_140 => ?_) (fun c_140 => ?_)
          · have h := ht_ c_140
            exact (show False from h).elim
          · have h := hf_ c_140
            refine lv_aload_n hx hb dL_orders_251 rfl (lv_at hl 0 rfl) ?_
            refine lv_iconst (v := (1 : Int32)) hx hb dL_orders_252 (by decide) ?_
            refine lv_iconst (v := (2 : Int32)) hx hb dL_orders_253 (by decide) ?_
            refine lv_iconst (v := (0 : Int32)) hx hb dL_orders_254 (by decide) ?_
            have hFc := fr0 hA hS
            refine vx_calli (vx_runV (As := [.int (1 : Int32), .int (2 : Int32), .int (0 : Int32)]) (rest := []) ⟨hx, hb, hml, hown, hts⟩ (c_X7_termAt l hst dC dI cI h0 h0_1 h0_2 h0_3 h0_4 h0_5 h0_6 h0_7 h0_8 h0_9 h0_10 h0_11 h0_12 h0_13 h0_14 h0_15 h0_16 h0_17 h0_18 h0_19 h0_20 h0_21 h0_22 h0_23 h0_24 h0_25 h0_26 h0_27 h0_28 h0_29 h0_30 _ s0 (1 : Int32) (2 : Int32) (0 : Int32) _ _ h) (cwV 3 hts (goodIn_up gB_X7_termAt) rfl rfl rfl (by decide +kernel) ⟨Nat.le_of_ble_eq_true rfl, Nat.le_of_ble_eq_true rfl⟩) (pbj_V hP hK hD hN hX hFc hS (ci := 7) (q0 := 0) rfl rfl) rfl rfl hl.1 rfl (lv_room (Nat.le_of_ble_eq_true rfl)) dL_orders_255 ⟨Nat.le_of_ble_eq_true rfl, Nat.le_of_ble_eq_true rfl⟩) hS (fun q _ h => hFc q h) hFc (fun q _ h => hFc q h) (fun E9 ce9 q9 u t H locs ht hvm h hB hz1 hk1 hS hce hcv hcl => (show False from h).elim) (fun r_142 u_141 t H locs ht hvm h hB hz1 hk1 hS => ?_)
            have hP := vaPk hP hk1
            refine W.widen (k := 247) (n := 11131) (Nat.le_of_ble_eq_true rfl) (Nat.le_of_ble_eq_true rfl) ?_
            refine lv_bipush (v := (7 : Int32)) hx hb dL_orders_258 (by decide) ?_
            obtain ⟨ht_, hf_⟩ := h
            refine lv_icmp_ne (tgt := 331) hx hb dL_orders_260 (by decide) (fun c_143 => ?_) (fun c_143 => ?_)
            · have h := ht_ c_143
              exact (show False from h).elim
            · have h := hf_ c_143
              refine lv_aload_n hx hb dL_orders_263 rfl (lv_at hl 0 rfl) ?_
              refine lv_iconst (v := (1 : Int32)) hx hb dL_orders_264 (by decide) ?_
              refine lv_iconst (v := (3 : Int32)) hx hb dL_orders_265 (by decide) ?_
              refine lv_iconst (v := (1 : Int32)) hx hb dL_orders_266 (by decide) ?_
              have hFc := fr0 hA hS
              refine vx_calli (vx_runV (As := [.int (1 : Int32), .int (3 : Int32), .int (1 : Int32)]) (rest := []) ⟨hx, hb, hml, hown, hts⟩ (c_X7_termAt l hst dC dI cI h0 h0_1 h0_2 h0_3 h0_4 h0_5 h0_6 h0_7 h0_8 h0_9 h0_10 h0_11 h0_12 h0_13 h0_14 h0_15 h0_16 h0_17 h0_18 h0_19 h0_20 h0_21 h0_22 h0_23 h0_24 h0_25 h0_26 h0_27 h0_28 h0_29 h0_30 _ s0 (1 : Int32) (3 : Int32) (1 : Int32) _ _ h) (cwV 3 hts (goodIn_up gB_X7_termAt) rfl rfl rfl (by decide +kernel) ⟨Nat.le_of_ble_eq_true rfl, Nat.le_of_ble_eq_true rfl⟩) (pbj_V hP hK hD hN hX hFc hS (ci := 7) (q0 := 0) rfl rfl) rfl rfl hl.1 rfl (lv_room (Nat.le_of_ble_eq_true rfl)) dL_orders_267 ⟨Nat.le_of_ble_eq_true rfl, Nat.le_of_ble_eq_true rfl⟩) hS (fun q _ h => hFc q h) hFc (fun q _ h => hFc q h) (fun E9 ce9 q9 u t H locs ht hvm h hB hz1 hk1 hS hce hcv hcl => (show False from h).elim) (fun r_145 u_144 t H locs ht hvm h hB hz1 hk1 hS => ?_)
              have hP := vaPk hP hk1
              refine W.widen (k := 248) (n := 11137) (Nat.le_of_ble_eq_true rfl) (Nat.le_of_ble_eq_true rfl) ?_
              refine lv_iconst (v := (2 : Int32)) hx hb dL_orders_270 (by decide) ?_
              obtain ⟨ht_, hf_⟩ := h
              refine lv_icmp_ne (tgt := 331) hx hb dL_orders_271 (by decide) (fun c_146 => ?_) (fun c_146 => ?_)
              · have h := ht_ c_146
                exact (show False from h).elim
              · have h := hf_ c_146
                refine W.widen (k := 248) (n := 11137) (Nat.le_of_ble_eq_true rfl) (Nat.le_of_ble_eq_true rfl) ?_
                exact sg_L_orders_4 l hst C0 hK hN hX hC hA h0 h0_1 h0_2 h0_3 h0_4 h0_5 h0_6 h0_7 h0_8 h0_9 h0_10 h0_11 h0_12 h0_13 h0_14 h0_15 h0_16 h0_17 h0_18 h0_19 h0_20 h0_21 h0_22 h0_25 h0_26 h0_29 h0_30 _ s0 h h0_23 h0_24 h0_27 h0_28 _ _ hP hD hS _ hl
