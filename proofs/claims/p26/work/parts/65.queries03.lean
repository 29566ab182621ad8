set_option maxHeartbeats 4000000 in
set_option maxRecDepth 100000 in
theorem sg_L_queries_6 (l : Launch) (hst : l.stackTraces = false) {p : Program} {e : Env} {s : State} {m : MethodId} {below : List Frame} {meth : Method} {c : Code} (C0 : LC p s m (([] : List Value).toArray) meth c cL_queries 1 wq_queries) {dC : Nat → ClassId} {dI : Nat → Nat → Nat} {cI : ClassId} (hK : va_K (dC, dI) vwCl [(cI, .int)] s) (hN : nk s) {A : Nat → Prop} (hX : xj A s) (hC : xnc s) (hA : ∀ q : Nat, s.heap.size ≤ q → A q) (h0 h0_1 h0_2 h0_3 h0_4 h0_5 h0_6 h0_7 h0_8 h0_9 h0_10 h0_11 h0_12 h0_13 h0_14 h0_15 h0_16 h0_17 h0_18 h0_19 h0_20 h0_21 h0_22 h0_25 h0_26 h0_29 h0_30 : Nat) (post : Int32 → Prop) (s0 : TriS) (h : P_L_queries_6 s0 post) (h0_23 h0_24 h0_27 h0_28 : Nat) (H : Heap) (locs : List Loc) (hP : va_P (dC, dI) vwCl (lwO cI h0 h0_1 h0_2 h0_3 h0_4 h0_5 h0_6 h0_7 h0_8 h0_9 h0_10 h0_11 h0_12 h0_13 h0_14 h0_15 h0_16 h0_17 h0_18 h0_19 h0_20 h0_21 h0_22 h0_23 h0_24 h0_25 h0_26 h0_27 h0_28 h0_29 h0_30 s0) H) (hD : va_D A (lwO cI h0 h0_1 h0_2 h0_3 h0_4 h0_5 h0_6 h0_7 h0_8 h0_9 h0_10 h0_11 h0_12 h0_13 h0_14 h0_15 h0_16 h0_17 h0_18 h0_19 h0_20 h0_21 h0_22 h0_23 h0_24 h0_25 h0_26 h0_27 h0_28 h0_29 h0_30 s0)) (hS : va_S A s.heap H locs) (ls : Array Slot) (hl : lv_has ls 1 [(0, .ref h0)]) : W p l e rm_L_queries s m (([] : List Value).toArray) below meth c H locs 276 11305 (MQ below (Q_L_queries dC dI cI A post) (([] : List Value).toArray) s mc_L_queries ms_L_queries A) (F0 m 416 ls []) := by
  obtain ⟨hx, hb, hr, hml, hown, hts, hlocks⟩ := id C0
  refine lv_aload_n hx hb dL_queries_416 rfl (lv_at hl 0 rfl) ?_
  refine lv_iconst (v := (1 : Int32)) hx hb dL_queries_417 (by decide) ?_
  have hFc := frw hD hS hA
  refine vx_calli (vx_runV (As := [.int (1 : Int32)]) (rest := []) ⟨hx, hb, hml, hown, hts⟩ (c_X7_matches l hst dC dI cI h0 h0_1 h0_2 h0_3 h0_4 h0_5 h0_6 h0_7 h0_8 h0_9 h0_10 h0_11 h0_12 h0_13 h0_14 h0_15 h0_16 h0_17 h0_18 h0_19 h0_20 h0_21 h0_22 h0_23 h0_24 h0_25 h0_26 h0_27 h0_28 h0_29 h0_30 _ s0 (1 : Int32) _ _ h) (cwV 1 hts (goodIn_up gB_X7_matches) rfl rfl rfl (by decide +kernel) ⟨Nat.le_of_ble_eq_true rfl, Nat.le_of_ble_eq_true rfl⟩) (pbj_V hP hK hD hN hX hFc hS (ci := 7) (q0 := 0) rfl rfl) rfl rfl hl.1 rfl (lv_room (Nat.le_of_ble_eq_true rfl)) dL_queries_418 ⟨Nat.le_of_ble_eq_true rfl, Nat.le_of_ble_eq_true rfl⟩) hS (fun q _ h => hFc q h) hFc (fun q _ h => hFc q h) (fun E9 ce9 q9 u t H locs ht hvm h hB hz1 hk1 hS hce hcv hcl => (show False from h).elim) (fun r_238 u_237 t H locs ht hvm h hB hz1 hk1 hS => ?_)
  obtain ⟨m_239, m_240, m_241, m_242, hP1, hD1⟩ := hB
  rw [ht] at hP1
  have hP : va_P (dC, dI) vwCl (lwO cI h0 h0_1 h0_2 h0_3 h0_4 h0_5 h0_6 h0_7 h0_8 h0_9 h0_10 h0_11 h0_12 h0_13 h0_14 h0_15 h0_16 h0_17 h0_18 h0_19 h0_20 h0_21 h0_22 m_239 m_240 h0_25 h0_26 m_241 m_242 h0_29 h0_30 u_237) H := hP1
  have hD : va_D A (lwO cI h0 h0_1 h0_2 h0_3 h0_4 h0_5 h0_6 h0_7 h0_8 h0_9 h0_10 h0_11 h0_12 h0_13 h0_14 h0_15 h0_16 h0_17 h0_18 h0_19 h0_20 h0_21 h0_22 m_239 m_240 h0_25 h0_26 m_241 m_242 h0_29 h0_30 u_237) := hD1.weaken (fun _ _ _ h => hFc _ h)
  refine W.widen (k := 277) (n := 11311) (Nat.le_of_ble_eq_true rfl) (Nat.le_of_ble_eq_true rfl) ?_
  refine lv_iconst (v := (1 : Int32)) hx hb dL_queries_421 (by decide) ?_
  obtain ⟨ht_, hf_⟩ := h
  refine lv_icmp_ne (tgt := 593) hx hb dL_queries_422 (by decide) (fun c_243 => ?_) (fun c_243 => ?_)
  · have h := ht_ c_243
    exact (show False from h).elim
  · have h := hf_ c_243
    refine lv_aload_n hx hb dL_queries_425 rfl (lv_at hl 0 rfl) ?_
    refine lv_iconst (v := (0 : Int32)) hx hb dL_queries_426 (by decide) ?_
    have hFc := frw hD hS hA
    refine vx_calli (vx_runV (As := [.int (0 : Int32)]) (rest := []) ⟨hx, hb, hml, hown, hts⟩ (c_X7_joined l hst dC dI cI h0 h0_1 h0_2 h0_3 h0_4 h0_5 h0_6 h0_7 h0_8 h0_9 h0_10 h0_11 h0_12 h0_13 h0_14 h0_15 h0_16 h0_17 h0_18 h0_19 h0_20 h0_21 h0_22 m_239 m_240 h0_25 h0_26 m_241 m_242 h0_29 h0_30 _ u_237 (0 : Int32) _ _ h) (cwV 1 hts (goodIn_up gB_X7_joined) rfl rfl rfl (by decide +kernel) ⟨Nat.le_of_ble_eq_true rfl, Nat.le_of_ble_eq_true rfl⟩) (pbj_V hP hK hD hN hX hFc hS (ci := 7) (q0 := 0) rfl rfl) rfl rfl hl.1 rfl (lv_room (Nat.le_of_ble_eq_true rfl)) dL_queries_427 ⟨Nat.le_of_ble_eq_true rfl, Nat.le_of_ble_eq_true rfl⟩) hS (fun q _ h => hFc q h) hFc (fun q _ h => hFc q h) (fun E9 ce9 q9 u t H locs ht hvm h hB hz1 hk1 hS hce hcv hcl => (show False from h).elim) (fun r_245 u_244 t H locs ht hvm h hB hz1 hk1 hS => ?_)
    obtain ⟨m_246, m_247, m_248, m_249, hP1, hD1⟩ := hB
    rw [ht] at hP1
    have hP : va_P (dC, dI) vwCl (lwO cI h0 h0_1 h0_2 h0_3 h0_4 h0_5 h0_6 h0_7 h0_8 h0_9 h0_10 h0_11 h0_12 h0_13 h0_14 h0_15 h0_16 h0_17 h0_18 h0_19 h0_20 h0_21 h0_22 m_246 m_247 h0_25 h0_26 m_248 m_249 h0_29 h0_30 u_244) H := hP1
    have hD : va_D A (lwO cI h0 h0_1 h0_2 h0_3 h0_4 h0_5 h0_6 h0_7 h0_8 h0_9 h0_10 h0_11 h0_12 h0_13 h0_14 h0_15 h0_16 h0_17 h0_18 h0_19 h0_20 h0_21 h0_22 m_246 m_247 h0_25 h0_26 m_248 m_249 h0_29 h0_30 u_244) := hD1.weaken (fun _ _ _ h => hFc _ h)
    refine W.widen (k := 278) (n := 11317) (Nat.le_of_ble_eq_true rfl) (Nat.le_of_ble_eq_true rfl) ?_
    refine lv_iconst (v := (1 : Int32)) hx hb dL_queries_430 (by decide) ?_
    obtain ⟨ht_, hf_⟩ := h
    refine lv_icmp_ne (tgt := 593) hx hb dL_queries_431 (by decide) (fun c_250 => ?_) (fun c_250 => ?_)
    · have h := ht_ c_250
      exact (show False from h).elim
    · have h := hf_ c_250
      refine lv_aload_n hx hb dL_queries_434 rfl (lv_at hl 0 rfl) ?_
      refine lv_iconst (v := (1 : Int32)) hx hb dL_queries_435 (by decide) ?_
      have hFc := frw hD hS hA
      refine vx_calli (vx_runV (As := [.int (1 : Int32)]) (rest := []) ⟨hx, hb, hml, hown, hts⟩ (c_X7_joined l hst dC dI cI h0 h0_1 h0_2 h0_3 h0_4 h0_5 h0_6 h0_7 h0_8 h0_9 h0_10 h0_11 h0_12 h0_13 h0_14 h0_15 h0_16 h0_17 h0_18 h0_19 h0_20 h0_21 h0_22 m_246 m_247 h0_25 h0_26 m_248 m_249 h0_29 h0_30 _ u_244 (1 : Int32) _ _ h) (cwV 1 hts (goodIn_up gB_X7_joined) rfl rfl rfl (by decide +kernel) ⟨Nat.le_of_ble_eq_true rfl, Nat.le_of_ble_eq_true rfl⟩) (pbj_V hP hK hD hN hX hFc hS (ci := 7) (q0 := 0) rfl rfl) rfl rfl hl.1 rfl (lv_room (Nat.le_of_ble_eq_true rfl)) dL_queries_436 ⟨Nat.le_of_ble_eq_true rfl, Nat.le_of_ble_eq_true rfl⟩) hS (fun q _ h => hFc q h) hFc (fun q _ h => hFc q h) (fun E9 ce9 q9 u t H locs ht hvm h hB hz1 hk1 hS hce hcv hcl => (show False from h).elim) (fun r_252 u_251 t H locs ht hvm h hB hz1 hk1 hS => ?_)
      obtain ⟨m_253, m_254, m_255, m_256, hP1, hD1⟩ := hB
      rw [ht] at hP1
      have hP : va_P (dC, dI) vwCl (lwO cI h0 h0_1 h0_2 h0_3 h0_4 h0_5 h0_6 h0_7 h0_8 h0_9 h0_10 h0_11 h0_12 h0_13 h0_14 h0_15 h0_16 h0_17 h0_18 h0_19 h0_20 h0_21 h0_22 m_253 m_254 h0_25 h0_26 m_255 m_256 h0_29 h0_30 u_251) H := hP1
      have hD : va_D A (lwO cI h0 h0_1 h0_2 h0_3 h0_4 h0_5 h0_6 h0_7 h0_8 h0_9 h0_10 h0_11 h0_12 h0_13 h0_14 h0_15 h0_16 h0_17 h0_18 h0_19 h0_20 h0_21 h0_22 m_253 m_254 h0_25 h0_26 m_255 m_256 h0_29 h0_30 u_251) := hD1.weaken (fun _ _ _ h => hFc _ h)
      refine W.widen (k := 279) (n := 11323) (Nat.le_of_ble_eq_true rfl) (Nat.le_of_ble_eq_true rfl) ?_
      obtain ⟨ht_, hf_⟩ := h
      refine lv_if_ne (tgt := 593) hx hb dL_queries_439 (by decide) (fun c_257 => ?_) (fun c_257 => ?_)
      · have h := ht_ c_257
        exact (show False from h).elim
      · have h := hf_ c_257
        refine lv_aload_n hx hb dL_queries_442 rfl (lv_at hl 0 rfl) ?_
        refine lv_iconst (v := (1 : Int32)) hx hb dL_queries_443 (by decide) ?_
        have hFc := frw hD hS hA
        refine va_calli (va_runS (As := [.ref h0, .int (1 : Int32)]) (rest := []) ⟨hx, hb, hml, hown, hts⟩ (c_L_comes l hst dC dI cI h0 h0_1 h0_2 h0_3 h0_4 h0_5 h0_6 h0_7 h0_8 h0_9 h0_10 h0_11 h0_12 h0_13 h0_14 h0_15 h0_16 h0_17 h0_18 h0_19 h0_20 h0_21 h0_22 m_253 m_254 h0_25 h0_26 m_255 m_256 h0_29 h0_30 _ u_251 (1 : Int32) _ h) (va_cwS 2 hts (goodIn_up gB_L_comes) rfl rfl rfl (by decide +kernel) ⟨Nat.le_of_ble_eq_true rfl, Nat.le_of_ble_eq_true rfl⟩) (pbl_S hP hK hD hN hX hC hFc hS) rfl rfl hl.1 rfl (lv_room (Nat.le_of_ble_eq_true rfl)) dL_queries_444 ⟨Nat.le_of_ble_eq_true rfl, Nat.le_of_ble_eq_true rfl⟩) hS (fun q _ h => hFc q h) hFc (fun r_259 u_258 t H locs ht hvm h hB hz1 hk1 hS => ?_)
        obtain ⟨m_260, m_261, m_262, m_263, hP1, hD1⟩ := hB
        rw [ht] at hP1
        have hP : va_P (dC, dI) vwCl (lwO cI h0 h0_1 h0_2 h0_3 h0_4 h0_5 h0_6 h0_7 h0_8 h0_9 h0_10 h0_11 h0_12 h0_13 h0_14 h0_15 h0_16 h0_17 h0_18 h0_19 h0_20 h0_21 h0_22 m_260 m_261 h0_25 h0_26 m_262 m_263 h0_29 h0_30 u_258) H := hP1
        have hD : va_D A (lwO cI h0 h0_1 h0_2 h0_3 h0_4 h0_5 h0_6 h0_7 h0_8 h0_9 h0_10 h0_11 h0_12 h0_13 h0_14 h0_15 h0_16 h0_17 h0_18 h0_19 h0_20 h0_21 h0_22 m_260 m_261 h0_25 h0_26 m_262 m_263 h0_29 h0_30 u_258) := hD1.weaken (fun _ _ _ h => hFc _ h)
        refine W.widen (k := 285) (n := 11359) (Nat.le_of_ble_eq_true rfl) (Nat.le_of_ble_eq_true rfl) ?_
        obtain ⟨ht_, hf_⟩ := h
        refine lv_if_eq (tgt := 593) hx hb dL_queries_447 (by decide) (fun c_264 => ?_) (fun c_264 => ?_)
        · have h := ht_ c_264
          exact (show False from h).elim
        · have h := hf_ c_264
          refine lv_aload_n hx hb dL_queries_450 rfl (lv_at hl 0 rfl) ?_
          refine lv_iconst (v := (0 : Int32)) hx hb dL_queries_451 (by decide) ?_
          refine lv_iconst (v := (0 : Int32)) hx hb dL_queries_452 (by decide) ?_
          have hFc := fr0 hA hS
          refine vx_calli (vx_runV (As := [.int (0 : Int32), .int (0 : Int32)]) (rest := []) ⟨hx, hb, hml, hown, hts⟩ (c_X7_answer l hst dC dI cI h0 h0_1 h0_2 h0_3 h0_4 h0_5 h0_6 h0_7 h0_8 h0_9 h0_10 h0_11 h0_12 h0_13 h0_14 h0_15 h0_16 h0_17 h0_18 h0_19 h0_20 h0_21 h0_22 m_260 m_261 h0_25 h0_26 m_262 m_263 h0_29 h0_30 _ u_258 (0 : Int32) (0 : Int32) _ _ h) (cwV 2 hts (goodIn_up gB_X7_answer) rfl rfl rfl (by decide +kernel) ⟨Nat.le_of_ble_eq_true rfl, Nat.le_of_ble_eq_true rfl⟩) (pbj_V hP hK hD hN hX hFc hS (ci := 7) (q0 := 0) rfl rfl) rfl rfl hl.1 rfl (lv_room (Nat.le_of_ble_eq_true rfl)) dL_queries_453 ⟨Nat.le_of_ble_eq_true rfl, Nat.le_of_ble_eq_true rfl⟩) hS (fun q _ h => hFc q h) hFc (fun q _ h => hFc q h) (fun E9 ce9 q9 u t H locs ht hvm h hB hz1 hk1 hS hce hcv hcl => (show False from h).elim) (fun r_266 u_265 t H locs ht hvm h hB hz1 hk1 hS => ?_)
          have hP := vaPk hP hk1
          refine W.widen (k := 286) (n := 11365) (Nat.le_of_ble_eq_true rfl) (Nat.le_of_ble_eq_true rfl) ?_
          refine lv_iconst (v := (5 : Int32)) hx hb dL_queries_456 (by decide) ?_
          obtain ⟨ht_, hf_⟩ := h
          refine lv_icmp_ne (tgt := 593) hx hb dL_queries_457 (by decide) (fun c_267 => ?_) (fun c_267 => ?_)
          · have h := ht_ c_267
            exact (show False from h).elim
          · have h := hf_ c_267
            refine lv_aload_n hx hb dL_queries_460 rfl (lv_at hl 0 rfl) ?_
            refine lv_iconst (v := (0 : Int32)) hx hb dL_queries_461 (by decide) ?_
            refine lv_iconst (v := (1 : Int32)) hx hb dL_queries_462 (by decide) ?_
            have hFc := fr0 hA hS
            refine vx_calli (vx_runV (As := [.int (0 : Int32), .int (1 : Int32)]) (rest := []) ⟨hx, hb, hml, hown, hts⟩ (c_X7_answer l hst dC dI cI h0 h0_1 h0_2 h0_3 h0_4 h0_5 h0_6 h0_7 h0_8 h0_9 h0_10 h0_11 h0_12 h0_13 h0_14 h0_15 h0_16 h0_17 h0_18 h0_19 h0_20 h0_21 h0_22 m_260 m_261 h0_25 h0_26 m_262 m_263 h0_29 h0_30 _ u_258 (0 : Int32) (1 : Int32) _ _ h) (cwV 2 hts (goodIn_up gB_X7_answer) rfl rfl rfl (by decide +kernel) ⟨Nat.le_of_ble_eq_true rfl, Nat.le_of_ble_eq_true rfl⟩) (pbj_V hP hK hD hN hX hFc hS (ci := 7) (q0 := 0) rfl rfl) rfl rfl hl.1 rfl (lv_room (Nat.le_of_ble_eq_true rfl)) dL_queries_463 ⟨Nat.le_of_ble_eq_true rfl, Nat.le_of_ble_eq_true rfl⟩) hS (fun q _ h => hFc q h) hFc (fun q _ h => hFc q h) (fun E9 ce9 q9 u t H locs ht hvm h hB hz1 hk1 hS hce hcv hcl => (show False from h).elim) (fun r_269 u_268 t H locs ht hvm h hB hz1 hk1 hS => ?_)
            have hP := vaPk hP hk1
            refine W.widen (k := 287) (n := 11371) (Nat.le_of_ble_eq_true rfl) (Nat.le_of_ble_eq_true rfl) ?_
            refine lv_bipush (v := (7 : Int32)) hx hb dL_queries_466 (by decide) ?_
            obtain ⟨ht_, hf_⟩ := h
            refine lv_icmp_ne (tgt := 593) hx hb dL_queries_468 (by decide) (fun c_270 => ?_) (fun c_270 => ?_)
            · have h := ht_ c_270
              exact (show False from h).elim
            · have h := hf_ c_270
              refine lv_aload_n hx hb dL_queries_471 rfl (lv_at hl 0 rfl) ?_
              refine lv_iconst (v := (0 : Int32)) hx hb dL_queries_472 (by decide) ?_
              refine lv_iconst (v := (2 : Int32)) hx hb dL_queries_473 (by decide) ?_
              have hFc := fr0 hA hS
              refine vx_calli (vx_runV (As := [.int (0 : Int32), .int (2 : Int32)]) (rest := []) ⟨hx, hb, hml, hown, hts⟩ (c_X7_answer l hst dC dI cI h0 h0_1 h0_2 h0_3 h0_4 h0_5 h0_6 h0_7 h0_8 h0_9 h0_10 h0_11 h0_12 h0_13 h0_14 h0_15 h0_16 h0_17 h0_18 h0_19 h0_20 h0_21 h0_22 m_260 m_261 h0_25 h0_26 m_262 m_263 h0_29 h0_30 _ u_258 (0 : Int32) (2 : Int32) _ _ h) (cwV 2 hts (goodIn_up gB_X7_answer) rfl rfl rfl (by decide +kernel) ⟨Nat.le_of_ble_eq_true rfl, Nat.le_of_ble_eq_true rfl⟩) (pbj_V hP hK hD hN hX hFc hS (ci := 7) (q0 := 0) rfl rfl) rfl rfl hl.1 rfl (lv_room (Nat.le_of_ble_eq_true rfl)) dL_queries_474 ⟨Nat.le_of_ble_eq_true rfl, Nat.le_of_ble_eq_true rfl⟩) hS (fun q _ h => hFc q h) hFc (fun q _ h => hFc q h) (fun E9 ce9 q9 u t H locs ht hvm h hB hz1 hk1 hS hce hcv hcl => (show False from h).elim) (fun r_272 u_271 t H locs ht hvm h hB hz1 hk1 hS => ?_)
              have hP := vaPk hP hk1
              refine W.widen (k := 288) (n := 11377) (Nat.le_of_ble_eq_true rfl) (Nat.le_of_ble_eq_true rfl) ?_
              refine lv_bipush (v := (9 : Int32)) hx hb dL_queries_477 (by decide) ?_
              obtain ⟨ht_, hf_⟩ := h
              refine lv_icmp_ne (tgt := 593) hx hb dL_queries_479 (by decide) (fun c_273 => ?_) (fun c_273 => ?_)
              · have h := ht_ c_273
                exact (show False from h).elim
              · have h := hf_ c_273
                refine W.widen (k := 288) (n := 11377) (Nat.le_of_ble_eq_true rfl) (Nat.le_of_ble_eq_true rfl) ?_
                exact sg_L_queries_7 l hst C0 hK hN hX hC hA h0 h0_1 h0_2 h0_3 h0_4 h0_5 h0_6 h0_7 h0_8 h0_9 h0_10 h0_11 h0_12 h0_13 h0_14 h0_15 h0_16 h0_17 h0_18 h0_19 h0_20 h0_21 h0_22 h0_25 h0_26 h0_29 h0_30 _ u_258 h m_260 m_261 m_262 m_263 _ _ hP hD hS _ hl
set_option maxHeartbeats 4000000 in
set_option maxRecDepth 100000 in
theorem sg_L_queries_5 (l : Launch) (hst : l.stackTraces = false) {p : Program} {e : Env} {s : State} {m : MethodId} {below : List Frame} {meth : Method} {c : Code} (C0 : LC p s m (([] : List Value).toArray) meth c cL_queries 1 wq_queries) {dC : Nat → ClassId} {dI : Nat → Nat → Nat} {cI : ClassId} (hK : va_K (dC, dI) vwCl [(cI, .int)] s) (hN : nk s) {A : Nat → Prop} (hX : xj A s) (hC : xnc s) (hA : ∀ q : Nat, s.heap.size ≤ q → A q) (h0 h0_1 h0_2 h0_3 h0_4 h0_5 h0_6 h0_7 h0_8 h0_9 h0_10 h0_11 h0_12 h0_13 h0_14 h0_15 h0_16 h0_17 h0_18 h0_19 h0_20 h0_21 h0_22 h0_25 h0_26 h0_29 h0_30 : Nat) (post : Int32 → Prop) (s0 : TriS) (h : P_L_queries_5 s0 post) (h0_23 h0_24 h0_27 h0_28 : Nat) (H : Heap) (locs : List Loc) (hP : va_P (dC, dI) vwCl (lwO cI h0 h0_1 h0_2 h0_3 h0_4 h0_5 h0_6 h0_7 h0_8 h0_9 h0_10 h0_11 h0_12 h0_13 h0_14 h0_15 h0_16 h0_17 h0_18 h0_19 h0_20 h0_21 h0_22 h0_23 h0_24 h0_25 h0_26 h0_27 h0_28 h0_29 h0_30 s0) H) (hD : va_D A (lwO cI h0 h0_1 h0_2 h0_3 h0_4 h0_5 h0_6 h0_7 h0_8 h0_9 h0_10 h0_11 h0_12 h0_13 h0_14 h0_15 h0_16 h0_17 h0_18 h0_19 h0_20 h0_21 h0_22 h0_23 h0_24 h0_25 h0_26 h0_27 h0_28 h0_29 h0_30 s0)) (hS : va_S A s.heap H locs) (ls : Array Slot) (hl : lv_has ls 1 [(0, .ref h0)]) : W p l e rm_L_queries s m (([] : List Value).toArray) below meth c H locs 267 11251 (MQ below (Q_L_queries dC dI cI A post) (([] : List Value).toArray) s mc_L_queries ms_L_queries A) (F0 m 347 ls []) := by
  obtain ⟨hx, hb, hr, hml, hown, hts, hlocks⟩ := id C0
  refine lv_aload_n hx hb dL_queries_347 rfl (lv_at hl 0 rfl) ?_
  have hFc := fr0 hA hS
  refine va_calli (va_runV (As := []) (rest := []) ⟨hx, hb, hml, hown, hts⟩ (c_X7_answers l dC dI cI h0 h0_1 h0_2 h0_3 h0_4 h0_5 h0_6 h0_7 h0_8 h0_9 h0_10 h0_11 h0_12 h0_13 h0_14 h0_15 h0_16 h0_17 h0_18 h0_19 h0_20 h0_21 h0_22 h0_23 h0_24 h0_25 h0_26 h0_27 h0_28 h0_29 h0_30 _ s0 _ h) (cwV 0 hts (goodIn_up gB_X7_answers) rfl rfl rfl (by decide +kernel) ⟨Nat.le_of_ble_eq_true rfl, Nat.le_of_ble_eq_true rfl⟩) (pb_V hP hK hD hN (ci := 7) (q0 := 0) rfl rfl) rfl rfl hl.1 rfl (lv_room (Nat.le_of_ble_eq_true rfl)) dL_queries_348 ⟨Nat.le_of_ble_eq_true rfl, Nat.le_of_ble_eq_true rfl⟩) hS (fun q _ h => hFc q h) hFc (fun r_205 u_204 t H locs ht hvm h hB hz1 hk1 hS => ?_)
  have hP := vaPk hP hk1
  refine lv_iconst (v := (3 : Int32)) hx hb dL_queries_351 (by decide) ?_
  obtain ⟨ht_, hf_⟩ := h
  refine lv_icmp_ne (tgt := 383) hx hb dL_queries_352 (by decide) (fun c_206 => ?_) (fun c_206 => ?_)
  · have h := ht_ c_206
    exact (show False from h).elim
  · have h := hf_ c_206
    refine lv_aload_n hx hb dL_queries_355 rfl (lv_at hl 0 rfl) ?_
    refine lv_bipush (v := (-93 : Int32)) hx hb dL_queries_356 (by decide) ?_
    have hFc := frw hD hS hA
    refine va_calli (va_runS (As := [.ref h0, .int (-93 : Int32)]) (rest := []) ⟨hx, hb, hml, hown, hts⟩ (c_L_comes l hst dC dI cI h0 h0_1 h0_2 h0_3 h0_4 h0_5 h0_6 h0_7 h0_8 h0_9 h0_10 h0_11 h0_12 h0_13 h0_14 h0_15 h0_16 h0_17 h0_18 h0_19 h0_20 h0_21 h0_22 h0_23 h0_24 h0_25 h0_26 h0_27 h0_28 h0_29 h0_30 _ s0 (-93 : Int32) _ h) (va_cwS 2 hts (goodIn_up gB_L_comes) rfl rfl rfl (by decide +kernel) ⟨Nat.le_of_ble_eq_true rfl, Nat.le_of_ble_eq_true rfl⟩) (pbl_S hP hK hD hN hX hC hFc hS) rfl rfl hl.1 rfl (lv_room (Nat.le_of_ble_eq_true rfl)) dL_queries_358 ⟨Nat.le_of_ble_eq_true rfl, Nat.le_of_ble_eq_true rfl⟩) hS (fun q _ h => hFc q h) hFc (fun r_208 u_207 t H locs ht hvm h hB hz1 hk1 hS => ?_)
    obtain ⟨m_209, m_210, m_211, m_212, hP1, hD1⟩ := hB
    rw [ht] at hP1
    have hP : va_P (dC, dI) vwCl (lwO cI h0 h0_1 h0_2 h0_3 h0_4 h0_5 h0_6 h0_7 h0_8 h0_9 h0_10 h0_11 h0_12 h0_13 h0_14 h0_15 h0_16 h0_17 h0_18 h0_19 h0_20 h0_21 h0_22 m_209 m_210 h0_25 h0_26 m_211 m_212 h0_29 h0_30 u_207) H := hP1
    have hD : va_D A (lwO cI h0 h0_1 h0_2 h0_3 h0_4 h0_5 h0_6 h0_7 h0_8 h0_9 h0_10 h0_11 h0_12 h0_13 h0_14 h0_15 h0_16 h0_17 h0_18 h0_19 h0_20 h0_21 h0_22 m_209 m_210 h0_25 h0_26 m_211 m_212 h0_29 h0_30 u_207) := hD1.weaken (fun _ _ _ h => hFc _ h)
    refine W.widen (k := 273) (n := 11287) (Nat.le_of_ble_eq_true rfl) (Nat.le_of_ble_eq_true rfl) ?_
    obtain ⟨ht_, hf_⟩ := h
    refine lv_if_eq (tgt := 383) hx hb dL_queries_361 (by decide) (fun c_213 => ?_) (fun c_213 => ?_)
    · have h := ht_ c_213
      exact (show False from h).elim
    · have h := hf_ c_213
      refine lv_aload_n hx hb dL_queries_364 rfl (lv_at hl 0 rfl) ?_
      have hFc := fr0 hA hS
      refine va_calli (va_runV (As := []) (rest := []) ⟨hx, hb, hml, hown, hts⟩ (c_X7_answers l dC dI cI h0 h0_1 h0_2 h0_3 h0_4 h0_5 h0_6 h0_7 h0_8 h0_9 h0_10 h0_11 h0_12 h0_13 h0_14 h0_15 h0_16 h0_17 h0_18 h0_19 h0_20 h0_21 h0_22 m_209 m_210 h0_25 h0_26 m_211 m_212 h0_29 h0_30 _ u_207 _ h) (cwV 0 hts (goodIn_up gB_X7_answers) rfl rfl rfl (by decide +kernel) ⟨Nat.le_of_ble_eq_true rfl, Nat.le_of_ble_eq_true rfl⟩) (pb_V hP hK hD hN (ci := 7) (q0 := 0) rfl rfl) rfl rfl hl.1 rfl (lv_room (Nat.le_of_ble_eq_true rfl)) dL_queries_365 ⟨Nat.le_of_ble_eq_true rfl, Nat.le_of_ble_eq_true rfl⟩) hS (fun q _ h => hFc q h) hFc (fun r_215 u_214 t H locs ht hvm h hB hz1 hk1 hS => ?_)
      have hP := vaPk hP hk1
      refine lv_iconst (v := (3 : Int32)) hx hb dL_queries_368 (by decide) ?_
      obtain ⟨ht_, hf_⟩ := h
      refine lv_icmp_ne (tgt := 383) hx hb dL_queries_369 (by decide) (fun c_216 => ?_) (fun c_216 => ?_)
      · have h := ht_ c_216
        exact (show False from h).elim
      · have h := hf_ c_216
        refine lv_aload_n hx hb dL_queries_372 rfl (lv_at hl 0 rfl) ?_
        refine lv_iconst (v := (0 : Int32)) hx hb dL_queries_373 (by decide) ?_
        refine lv_iconst (v := (2 : Int32)) hx hb dL_queries_374 (by decide) ?_
        have hFc := fr0 hA hS
        refine vx_calli (vx_runV (As := [.int (0 : Int32), .int (2 : Int32)]) (rest := []) ⟨hx, hb, hml, hown, hts⟩ (c_X7_answer l hst dC dI cI h0 h0_1 h0_2 h0_3 h0_4 h0_5 h0_6 h0_7 h0_8 h0_9 h0_10 h0_11 h0_12 h0_13 h0_14 h0_15 h0_16 h0_17 h0_18 h0_19 h0_20 h0_21 h0_22 m_209 m_210 h0_25 h0_26 m_211 m_212 h0_29 h0_30 _ u_207 (0 : Int32) (2 : Int32) _ _ h) (cwV 2 hts (goodIn_up gB_X7_answer) rfl rfl rfl (by decide +kernel) ⟨Nat.le_of_ble_eq_true rfl, Nat.le_of_ble_eq_true rfl⟩) (pbj_V hP hK hD hN hX hFc hS (ci := 7) (q0 := 0) rfl rfl) rfl rfl hl.1 rfl (lv_room (Nat.le_of_ble_eq_true rfl)) dL_queries_375 ⟨Nat.le_of_ble_eq_true rfl, Nat.le_of_ble_eq_true rfl⟩) hS (fun q _ h => hFc q h) hFc (fun q _ h => hFc q h) (fun E9 ce9 q9 u t H locs ht hvm h hB hz1 hk1 hS hce hcv hcl => (show False from h).elim) (fun r_218 u_217 t H locs ht hvm h hB hz1 hk1 hS => ?_)
        have hP := vaPk hP hk1
        refine W.widen (k := 274) (n := 11293) (Nat.le_of_ble_eq_true rfl) (Nat.le_of_ble_eq_true rfl) ?_
        refine lv_bipush (v := (9 : Int32)) hx hb dL_queries_378 (by decide) ?_
        obtain ⟨ht_, hf_⟩ := h
        refine lv_icmp_eq (tgt := 385) hx hb dL_queries_380 (by decide) (fun c_219 => ?_) (fun c_219 => ?_)
        · have h := ht_ c_219
          refine lv_aload_n hx hb dL_queries_385 rfl (lv_at hl 0 rfl) ?_
          refine lv_iconst (v := (-1 : Int32)) hx hb dL_queries_386 (by decide) ?_
          refine lv_iconst (v := (1 : Int32)) hx hb dL_queries_387 (by decide) ?_
          refine lv_bipush (v := (-2 : Int32)) hx hb dL_queries_388 (by decide) ?_
          have hFc := frw hD hS hA
          refine vx_calli (vx_runV (As := [.int (-1 : Int32), .int (1 : Int32), .int (-2 : Int32)]) (rest := []) ⟨hx, hb, hml, hown, hts⟩ (c_X7_addPattern l hst dC dI cI h0 h0_1 h0_2 h0_3 h0_4 h0_5 h0_6 h0_7 h0_8 h0_9 h0_10 h0_11 h0_12 h0_13 h0_14 h0_15 h0_16 h0_17 h0_18 h0_19 h0_20 h0_21 h0_22 m_209 m_210 h0_25 h0_26 m_211 m_212 h0_29 h0_30 _ u_207 (-1 : Int32) (1 : Int32) (-2 : Int32) _ _ h) (cwV 3 hts (goodIn_up gB_X7_addPattern) rfl rfl rfl (by decide +kernel) ⟨Nat.le_of_ble_eq_true rfl, Nat.le_of_ble_eq_true rfl⟩) (pbj_V hP hK hD hN hX hFc hS (ci := 7) (q0 := 0) rfl rfl) rfl rfl hl.1 rfl (lv_room (Nat.le_of_ble_eq_true rfl)) dL_queries_390 ⟨Nat.le_of_ble_eq_true rfl, Nat.le_of_ble_eq_true rfl⟩) hS (fun q _ h => hFc q h) hFc (fun q _ h => hFc q h) (fun E9 ce9 q9 u t H locs ht hvm h hB hz1 hk1 hS hce hcv hcl => (show False from h).elim) (fun r_221 u_220 t H locs ht hvm h hB hz1 hk1 hS => ?_)
          obtain ⟨m_222, m_223, m_224, m_225, hP1, hD1⟩ := hB
          rw [ht] at hP1
          have hP : va_P (dC, dI) vwCl (lwO cI h0 h0_1 h0_2 h0_3 h0_4 h0_5 h0_6 h0_7 h0_8 h0_9 h0_10 h0_11 h0_12 h0_13 h0_14 h0_15 h0_16 h0_17 h0_18 h0_19 h0_20 h0_21 h0_22 m_222 m_223 h0_25 h0_26 m_224 m_225 h0_29 h0_30 u_220) H := hP1
          have hD : va_D A (lwO cI h0 h0_1 h0_2 h0_3 h0_4 h0_5 h0_6 h0_7 h0_8 h0_9 h0_10 h0_11 h0_12 h0_13 h0_14 h0_15 h0_16 h0_17 h0_18 h0_19 h0_20 h0_21 h0_22 m_222 m_223 h0_25 h0_26 m_224 m_225 h0_29 h0_30 u_220) := hD1.weaken (fun _ _ _ h => hFc _ h)
          refine W.widen (k := 275) (n := 11299) (Nat.le_of_ble_eq_true rfl) (Nat.le_of_ble_eq_true rfl) ?_
          obtain ⟨ht_, hf_⟩ := h
          refine lv_if_ne (tgt := 593) hx hb dL_queries_393 (by decide) (fun c_226 => ?_) (fun c_226 => ?_)
          · have h := ht_ c_226
            exact (show False from h).elim
          · have h := hf_ c_226
            refine lv_aload_n hx hb dL_queries_396 rfl (lv_at hl 0 rfl) ?_
            refine lv_iconst (v := (-1 : Int32)) hx hb dL_queries_397 (by decide) ?_
            refine lv_iconst (v := (2 : Int32)) hx hb dL_queries_398 (by decide) ?_
            refine lv_bipush (v := (-3 : Int32)) hx hb dL_queries_399 (by decide) ?_
            have hFc := frw hD hS hA
            refine vx_calli (vx_runV (As := [.int (-1 : Int32), .int (2 : Int32), .int (-3 : Int32)]) (rest := []) ⟨hx, hb, hml, hown, hts⟩ (c_X7_addPattern l hst dC dI cI h0 h0_1 h0_2 h0_3 h0_4 h0_5 h0_6 h0_7 h0_8 h0_9 h0_10 h0_11 h0_12 h0_13 h0_14 h0_15 h0_16 h0_17 h0_18 h0_19 h0_20 h0_21 h0_22 m_222 m_223 h0_25 h0_26 m_224 m_225 h0_29 h0_30 _ u_220 (-1 : Int32) (2 : Int32) (-3 : Int32) _ _ h) (cwV 3 hts (goodIn_up gB_X7_addPattern) rfl rfl rfl (by decide +kernel) ⟨Nat.le_of_ble_eq_true rfl, Nat.le_of_ble_eq_true rfl⟩) (pbj_V hP hK hD hN hX hFc hS (ci := 7) (q0 := 0) rfl rfl) rfl rfl hl.1 rfl (lv_room (Nat.le_of_ble_eq_true rfl)) dL_queries_401 ⟨Nat.le_of_ble_eq_true rfl, Nat.le_of_ble_eq_true rfl⟩) hS (fun q _ h => hFc q h) hFc (fun q _ h => hFc q h) (fun E9 ce9 q9 u t H locs ht hvm h hB hz1 hk1 hS hce hcv hcl => (show False from h).elim) (fun r_228 u_227 t H locs ht hvm h hB hz1 hk1 hS => ?_)
            obtain ⟨m_229, m_230, m_231, m_232, hP1, hD1⟩ := hB
            rw [ht] at hP1
            have hP : va_P (dC, dI) vwCl (lwO cI h0 h0_1 h0_2 h0_3 h0_4 h0_5 h0_6 h0_7 h0_8 h0_9 h0_10 h0_11 h0_12 h0_13 h0_14 h0_15 h0_16 h0_17 h0_18 h0_19 h0_20 h0_21 h0_22 m_229 m_230 h0_25 h0_26 m_231 m_232 h0_29 h0_30 u_227) H := hP1
            have hD : va_D A (lwO cI h0 h0_1 h0_2 h0_3 h0_4 h0_5 h0_6 h0_7 h0_8 h0_9 h0_10 h0_11 h0_12 h0_13 h0_14 h0_15 h0_16 h0_17 h0_18 h0_19 h0_20 h0_21 h0_22 m_229 m_230 h0_25 h0_26 m_231 m_232 h0_29 h0_30 u_227) := hD1.weaken (fun _ _ _ h => hFc _ h)
            refine W.widen (k := 276) (n := 11305) (Nat.le_of_ble_eq_true rfl) (Nat.le_of_ble_eq_true rfl) ?_
            refine lv_iconst (v := (1 : Int32)) hx hb dL_queries_404 (by decide) ?_
            obtain ⟨ht_, hf_⟩ := h
            refine lv_icmp_ne (tgt := 593) hx hb dL_queries_405 (by decide) (fun c_233 => ?_) (fun c_233 => ?_)
            · have h := ht_ c_233
              exact (show False from h).elim
            · have h := hf_ c_233
              refine lv_aload_n hx hb dL_queries_408 rfl (lv_at hl 0 rfl) ?_
              have hFc := fr0 hA hS
              refine va_calli (va_runV (As := []) (rest := []) ⟨hx, hb, hml, hown, hts⟩ (c_X7_shape l dC dI cI h0 h0_1 h0_2 h0_3 h0_4 h0_5 h0_6 h0_7 h0_8 h0_9 h0_10 h0_11 h0_12 h0_13 h0_14 h0_15 h0_16 h0_17 h0_18 h0_19 h0_20 h0_21 h0_22 m_229 m_230 h0_25 h0_26 m_231 m_232 h0_29 h0_30 _ u_227 _ h) (cwV 0 hts (goodIn_up gB_X7_shape) rfl rfl rfl (by decide +kernel) ⟨Nat.le_of_ble_eq_true rfl, Nat.le_of_ble_eq_true rfl⟩) (pb_V hP hK hD hN (ci := 7) (q0 := 0) rfl rfl) rfl rfl hl.1 rfl (lv_room (Nat.le_of_ble_eq_true rfl)) dL_queries_409 ⟨Nat.le_of_ble_eq_true rfl, Nat.le_of_ble_eq_true rfl⟩) hS (fun q _ h => hFc q h) hFc (fun r_235 u_234 t H locs ht hvm h hB hz1 hk1 hS => ?_)
              have hP := vaPk hP hk1
              refine lv_iconst (v := (1 : Int32)) hx hb dL_queries_412 (by decide) ?_
              obtain ⟨ht_, hf_⟩ := h
              refine lv_icmp_ne (tgt := 593) hx hb dL_queries_413 (by decide) (fun c_236 => ?_) (fun c_236 => ?_)
              · have h := ht_ c_236
                exact (show False from h).elim
              · have h := hf_ c_236
                refine W.widen (k := 276) (n := 11305) (Nat.le_of_ble_eq_true rfl) (Nat.le_of_ble_eq_true rfl) ?_
                exact sg_L_queries_6 l hst C0 hK hN hX hC hA h0 h0_1 h0_2 h0_3 h0_4 h0_5 h0_6 h0_7 h0_8 h0_9 h0_10 h0_11 h0_12 h0_13 h0_14 h0_15 h0_16 h0_17 h0_18 h0_19 h0_20 h0_21 h0_22 h0_25 h0_26 h0_29 h0_30 _ u_227 h m_229 m_230 m_231 m_232 _ _ hP hD hS _ hl
        · have h := hf_ c_219
          exact (show False from h).elim
set_option maxHeartbeats 4000000 in
set_option maxRecDepth 100000 in
theorem sg_L_queries_4 (l : Launch) (hst : l.stackTraces = false) {p : Program} {e : Env} {s : State} {m : MethodId} {below : List Frame} {meth : Method} {c : Code} (C0 : LC p s m (([] : List Value).toArray) meth c cL_queries 1 wq_queries) {dC : Nat → ClassId} {dI : Nat → Nat → Nat} {cI : ClassId} (hK : va_K (dC, dI) vwCl [(cI, .int)] s) (hN : nk s) {A : Nat → Prop} (hX : xj A s) (hC : xnc s) (hA : ∀ q : Nat, s.heap.size ≤ q → A q) (h0 h0_1 h0_2 h0_3 h0_4 h0_5 h0_6 h0_7 h0_8 h0_9 h0_10 h0_11 h0_12 h0_13 h0_14 h0_15 h0_16 h0_17 h0_18 h0_19 h0_20 h0_21 h0_22 h0_25 h0_26 h0_29 h0_30 : Nat) (post : Int32 → Prop) (s0 : TriS) (h : P_L_queries_4 s0 post) (h0_23 h0_24 h0_27 h0_28 : Nat) (H : Heap) (locs : List Loc) (hP : va_P (dC, dI) vwCl (lwO cI h0 h0_1 h0_2 h0_3 h0_4 h0_5 h0_6 h0_7 h0_8 h0_9 h0_10 h0_11 h0_12 h0_13 h0_14 h0_15 h0_16 h0_17 h0_18 h0_19 h0_20 h0_21 h0_22 h0_23 h0_24 h0_25 h0_26 h0_27 h0_28 h0_29 h0_30 s0) H) (hD : va_D A (lwO cI h0 h0_1 h0_2 h0_3 h0_4 h0_5 h0_6 h0_7 h0_8 h0_9 h0_10 h0_11 h0_12 h0_13 h0_14 h0_15 h0_16 h0_17 h0_18 h0_19 h0_20 h0_21 h0_22 h0_23 h0_24 h0_25 h0_26 h0_27 h0_28 h0_29 h0_30 s0)) (hS : va_S A s.heap H locs) (ls : Array Slot) (hl : lv_has ls 1 [(0, .ref h0)]) : W p l e rm_L_queries s m (([] : List Value).toArray) below meth c H locs 256 11185 (MQ below (Q_L_queries dC dI cI A post) (([] : List Value).toArray) s mc_L_queries ms_L_queries A) (F0 m 276 ls []) := by
  obtain ⟨hx, hb, hr, hml, hown, hts, hlocks⟩ := id C0
  refine lv_aload_n hx hb dL_queries_276 rfl (lv_at hl 0 rfl) ?_
  refine lv_iconst (v := (2 : Int32)) hx hb dL_queries_277 (by decide) ?_
  refine lv_iconst (v := (2 : Int32)) hx hb dL_queries_278 (by decide) ?_
  have hFc := fr0 hA hS
  refine vx_calli (vx_runV (As := [.int (2 : Int32), .int (2 : Int32)]) (rest := []) ⟨hx, hb, hml, hown, hts⟩ (c_X7_answer l hst dC dI cI h0 h0_1 h0_2 h0_3 h0_4 h0_5 h0_6 h0_7 h0_8 h0_9 h0_10 h0_11 h0_12 h0_13 h0_14 h0_15 h0_16 h0_17 h0_18 h0_19 h0_20 h0_21 h0_22 h0_23 h0_24 h0_25 h0_26 h0_27 h0_28 h0_29 h0_30 _ s0 (2 : Int32) (2 : Int32) _ _ h) (cwV 2 hts (goodIn_up gB_X7_answer) rfl rfl rfl (by decide +kernel) ⟨Nat.le_of_ble_eq_true rfl, Nat.le_of_ble_eq_true rfl⟩) (pbj_V hP hK hD hN hX hFc hS (ci := 7) (q0 := 0) rfl rfl) rfl rfl hl.1 rfl (lv_room (Nat.le_of_ble_eq_true rfl)) dL_queries_279 ⟨Nat.le_of_ble_eq_true rfl, Nat.le_of_ble_eq_true rfl⟩) hS (fun q _ h => hFc q h) hFc (fun q _ h => hFc q h) (fun E9 ce9 q9 u t H locs ht hvm h hB hz1 hk1 hS hce hcv hcl => (show False from h).elim) (fun r_168 u_167 t H locs ht hvm h hB hz1 hk1 hS => ?_)
  have hP := vaPk hP hk1
  refine W.widen (k := 257) (n := 11191) (Nat.le_of_ble_eq_true rfl) (Nat.le_of_ble_eq_true rfl) ?_
  refine lv_bipush (v := (7 : Int32)) hx hb dL_queries_282 (by decide) ?_
  obtain ⟨ht_, hf_⟩ := h
  refine lv_icmp_ne (tgt := 383) hx hb dL_queries_284 (by decide) (fun c_169 => ?_) (fun c_169 => ?_)
  · have h := ht_ c_169
    exact (show False from h).elim
  · have h := hf_ c_169
    refine lv_aload_n hx hb dL_queries_287 rfl (lv_at hl 0 rfl) ?_
    refine lv_bipush (v := (-3 : Int32)) hx hb dL_queries_288 (by decide) ?_
    refine lv_iconst (v := (1 : Int32)) hx hb dL_queries_290 (by decide) ?_
    refine lv_iconst (v := (-1 : Int32)) hx hb dL_queries_291 (by decide) ?_
    have hFc := frw hD hS hA
    refine vx_calli (vx_runV (As := [.int (-3 : Int32), .int (1 : Int32), .int (-1 : Int32)]) (rest := []) ⟨hx, hb, hml, hown, hts⟩ (c_X7_addPattern l hst dC dI cI h0 h0_1 h0_2 h0_3 h0_4 h0_5 h0_6 h0_7 h0_8 h0_9 h0_10 h0_11 h0_12 h0_13 h0_14 h0_15 h0_16 h0_17 h0_18 h0_19 h0_20 h0_21 h0_22 h0_23 h0_24 h0_25 h0_26 h0_27 h0_28 h0_29 h0_30 _ s0 (-3 : Int32) (1 : Int32) (-1 : Int32) _ _ h) (cwV 3 hts (goodIn_up gB_X7_addPattern) rfl rfl rfl (by decide +kernel) ⟨Nat.le_of_ble_eq_true rfl, Nat.le_of_ble_eq_true rfl⟩) (pbj_V hP hK hD hN hX hFc hS (ci := 7) (q0 := 0) rfl rfl) rfl rfl hl.1 rfl (lv_room (Nat.le_of_ble_eq_true rfl)) dL_queries_292 ⟨Nat.le_of_ble_eq_true rfl, Nat.le_of_ble_eq_true rfl⟩) hS (fun q _ h => hFc q h) hFc (fun q _ h => hFc q h) (fun E9 ce9 q9 u t H locs ht hvm h hB hz1 hk1 hS hce hcv hcl => (show False from h).elim) (fun r_171 u_170 t H locs ht hvm h hB hz1 hk1 hS => ?_)
    obtain ⟨m_172, m_173, m_174, m_175, hP1, hD1⟩ := hB
    rw [ht] at hP1
    have hP : va_P (dC, dI) vwCl (lwO cI h0 h0_1 h0_2 h0_3 h0_4 h0_5 h0_6 h0_7 h0_8 h0_9 h0_10 h0_11 h0_12 h0_13 h0_14 h0_15 h0_16 h0_17 h0_18 h0_19 h0_20 h0_21 h0_22 m_172 m_173 h0_25 h0_26 m_174 m_175 h0_29 h0_30 u_170) H := hP1
    have hD : va_D A (lwO cI h0 h0_1 h0_2 h0_3 h0_4 h0_5 h0_6 h0_7 h0_8 h0_9 h0_10 h0_11 h0_12 h0_13 h0_14 h0_15 h0_16 h0_17 h0_18 h0_19 h0_20 h0_21 h0_22 m_172 m_173 h0_25 h0_26 m_174 m_175 h0_29 h0_30 u_170) := hD1.weaken (fun _ _ _ h => hFc _ h)
    refine W.widen (k := 258) (n := 11197) (Nat.le_of_ble_eq_true rfl) (Nat.le_of_ble_eq_true rfl) ?_
    refine lv_iconst (v := (2 : Int32)) hx hb dL_queries_295 (by decide) ?_
    obtain ⟨ht_, hf_⟩ := h
    refine lv_icmp_ne (tgt := 383) hx hb dL_queries_296 (by decide) (fun c_176 => ?_) (fun c_176 => ?_)
    · have h := ht_ c_176
      exact (show False from h).elim
    · have h := hf_ c_176
      refine lv_aload_n hx hb dL_queries_299 rfl (lv_at hl 0 rfl) ?_
      have hFc := fr0 hA hS
      refine va_calli (va_runV (As := []) (rest := []) ⟨hx, hb, hml, hown, hts⟩ (c_X7_shape l dC dI cI h0 h0_1 h0_2 h0_3 h0_4 h0_5 h0_6 h0_7 h0_8 h0_9 h0_10 h0_11 h0_12 h0_13 h0_14 h0_15 h0_16 h0_17 h0_18 h0_19 h0_20 h0_21 h0_22 m_172 m_173 h0_25 h0_26 m_174 m_175 h0_29 h0_30 _ u_170 _ h) (cwV 0 hts (goodIn_up gB_X7_shape) rfl rfl rfl (by decide +kernel) ⟨Nat.le_of_ble_eq_true rfl, Nat.le_of_ble_eq_true rfl⟩) (pb_V hP hK hD hN (ci := 7) (q0 := 0) rfl rfl) rfl rfl hl.1 rfl (lv_room (Nat.le_of_ble_eq_true rfl)) dL_queries_300 ⟨Nat.le_of_ble_eq_true rfl, Nat.le_of_ble_eq_true rfl⟩) hS (fun q _ h => hFc q h) hFc (fun r_178 u_177 t H locs ht hvm h hB hz1 hk1 hS => ?_)
      have hP := vaPk hP hk1
      refine lv_iconst (v := (2 : Int32)) hx hb dL_queries_303 (by decide) ?_
      obtain ⟨ht_, hf_⟩ := h
      refine lv_icmp_ne (tgt := 383) hx hb dL_queries_304 (by decide) (fun c_179 => ?_) (fun c_179 => ?_)
      · have h := ht_ c_179
        exact (show False from h).elim
      · have h := hf_ c_179
        refine lv_aload_n hx hb dL_queries_307 rfl (lv_at hl 0 rfl) ?_
        refine lv_iconst (v := (3 : Int32)) hx hb dL_queries_308 (by decide) ?_
        have hFc := frw hD hS hA
        refine va_calli (va_runS (As := [.ref h0, .int (3 : Int32)]) (rest := []) ⟨hx, hb, hml, hown, hts⟩ (c_L_comes l hst dC dI cI h0 h0_1 h0_2 h0_3 h0_4 h0_5 h0_6 h0_7 h0_8 h0_9 h0_10 h0_11 h0_12 h0_13 h0_14 h0_15 h0_16 h0_17 h0_18 h0_19 h0_20 h0_21 h0_22 m_172 m_173 h0_25 h0_26 m_174 m_175 h0_29 h0_30 _ u_170 (3 : Int32) _ h) (va_cwS 2 hts (goodIn_up gB_L_comes) rfl rfl rfl (by decide +kernel) ⟨Nat.le_of_ble_eq_true rfl, Nat.le_of_ble_eq_true rfl⟩) (pbl_S hP hK hD hN hX hC hFc hS) rfl rfl hl.1 rfl (lv_room (Nat.le_of_ble_eq_true rfl)) dL_queries_309 ⟨Nat.le_of_ble_eq_true rfl, Nat.le_of_ble_eq_true rfl⟩) hS (fun q _ h => hFc q h) hFc (fun r_181 u_180 t H locs ht hvm h hB hz1 hk1 hS => ?_)
        obtain ⟨m_182, m_183, m_184, m_185, hP1, hD1⟩ := hB
        rw [ht] at hP1
        have hP : va_P (dC, dI) vwCl (lwO cI h0 h0_1 h0_2 h0_3 h0_4 h0_5 h0_6 h0_7 h0_8 h0_9 h0_10 h0_11 h0_12 h0_13 h0_14 h0_15 h0_16 h0_17 h0_18 h0_19 h0_20 h0_21 h0_22 m_182 m_183 h0_25 h0_26 m_184 m_185 h0_29 h0_30 u_180) H := hP1
        have hD : va_D A (lwO cI h0 h0_1 h0_2 h0_3 h0_4 h0_5 h0_6 h0_7 h0_8 h0_9 h0_10 h0_11 h0_12 h0_13 h0_14 h0_15 h0_16 h0_17 h0_18 h0_19 h0_20 h0_21 h0_22 m_182 m_183 h0_25 h0_26 m_184 m_185 h0_29 h0_30 u_180) := hD1.weaken (fun _ _ _ h => hFc _ h)
        refine W.widen (k := 264) (n := 11233) (Nat.le_of_ble_eq_true rfl) (Nat.le_of_ble_eq_true rfl) ?_
        obtain ⟨ht_, hf_⟩ := h
        refine lv_if_eq (tgt := 383) hx hb dL_queries_312 (by decide) (fun c_186 => ?_) (fun c_186 => ?_)
        · have h := ht_ c_186
          exact (show False from h).elim
        · have h := hf_ c_186
          refine lv_aload_n hx hb dL_queries_315 rfl (lv_at hl 0 rfl) ?_
          refine lv_iconst (v := (2 : Int32)) hx hb dL_queries_316 (by decide) ?_
          refine lv_iconst (v := (1 : Int32)) hx hb dL_queries_317 (by decide) ?_
          have hFc := fr0 hA hS
          refine vx_calli (vx_runV (As := [.int (2 : Int32), .int (1 : Int32)]) (rest := []) ⟨hx, hb, hml, hown, hts⟩ (c_X7_answer l hst dC dI cI h0 h0_1 h0_2 h0_3 h0_4 h0_5 h0_6 h0_7 h0_8 h0_9 h0_10 h0_11 h0_12 h0_13 h0_14 h0_15 h0_16 h0_17 h0_18 h0_19 h0_20 h0_21 h0_22 m_182 m_183 h0_25 h0_26 m_184 m_185 h0_29 h0_30 _ u_180 (2 : Int32) (1 : Int32) _ _ h) (cwV 2 hts (goodIn_up gB_X7_answer) rfl rfl rfl (by decide +kernel) ⟨Nat.le_of_ble_eq_true rfl, Nat.le_of_ble_eq_true rfl⟩) (pbj_V hP hK hD hN hX hFc hS (ci := 7) (q0 := 0) rfl rfl) rfl rfl hl.1 rfl (lv_room (Nat.le_of_ble_eq_true rfl)) dL_queries_318 ⟨Nat.le_of_ble_eq_true rfl, Nat.le_of_ble_eq_true rfl⟩) hS (fun q _ h => hFc q h) hFc (fun q _ h => hFc q h) (fun E9 ce9 q9 u t H locs ht hvm h hB hz1 hk1 hS hce hcv hcl => (show False from h).elim) (fun r_188 u_187 t H locs ht hvm h hB hz1 hk1 hS => ?_)
          have hP := vaPk hP hk1
          refine W.widen (k := 265) (n := 11239) (Nat.le_of_ble_eq_true rfl) (Nat.le_of_ble_eq_true rfl) ?_
          refine lv_iconst (v := (5 : Int32)) hx hb dL_queries_321 (by decide) ?_
          obtain ⟨ht_, hf_⟩ := h
          refine lv_icmp_ne (tgt := 383) hx hb dL_queries_322 (by decide) (fun c_189 => ?_) (fun c_189 => ?_)
          · have h := ht_ c_189
            exact (show False from h).elim
          · have h := hf_ c_189
            refine lv_aload_n hx hb dL_queries_325 rfl (lv_at hl 0 rfl) ?_
            refine lv_bipush (v := (7 : Int32)) hx hb dL_queries_326 (by decide) ?_
            refine lv_iconst (v := (0 : Int32)) hx hb dL_queries_328 (by decide) ?_
            refine lv_iconst (v := (0 : Int32)) hx hb dL_queries_329 (by decide) ?_
            refine lv_iconst (v := (0 : Int32)) hx hb dL_queries_330 (by decide) ?_
            have hFc := frw hD hS hA
            refine vx_calli (SX := Unit) (px := fun _ => False) (BX := fun _ _ _ => True) (AX := A) (vx_runSX0 (vx_runSX (As := [.ref h0, .int (7 : Int32), .int (0 : Int32), .int (0 : Int32), .int (0 : Int32)]) (rest := []) ⟨hx, hb, hml, hown, hts⟩ (c_L_act l hst dC dI cI h0 h0_1 h0_2 h0_3 h0_4 h0_5 h0_6 h0_7 h0_8 h0_9 h0_10 h0_11 h0_12 h0_13 h0_14 h0_15 h0_16 h0_17 h0_18 h0_19 h0_20 h0_21 h0_22 m_182 m_183 h0_25 h0_26 m_184 m_185 h0_29 h0_30 _ u_180 (7 : Int32) (0 : Int32) (0 : Int32) (0 : Int32) _ h) (vx_cwSW 5 hts (goodIn_up gB_L_act) rfl rfl rfl (by decide +kernel) ⟨Nat.le_of_ble_eq_true rfl, Nat.le_of_ble_eq_true rfl⟩) (pbl_S hP hK hD hN hX hC hFc hS) rfl rfl hl.1 rfl (lv_room (Nat.le_of_ble_eq_true rfl)) dL_queries_331 ⟨Nat.le_of_ble_eq_true rfl, Nat.le_of_ble_eq_true rfl⟩)) hS (fun q _ h => hFc q h) hFc (fun q _ h => h) (fun E9 ce9 q9 u t H locs ht hvm h hB hz1 hk1 hS hce hcv hcl => h.elim) (fun r_191 u_190 t H locs ht hvm h hB hz1 hk1 hS => ?_)
            obtain ⟨m_192, m_193, m_194, m_195, hP1, hD1⟩ := hB
            rw [ht] at hP1
            have hP : va_P (dC, dI) vwCl (lwO cI h0 h0_1 h0_2 h0_3 h0_4 h0_5 h0_6 h0_7 h0_8 h0_9 h0_10 h0_11 h0_12 h0_13 h0_14 h0_15 h0_16 h0_17 h0_18 h0_19 h0_20 h0_21 h0_22 m_192 m_193 h0_25 h0_26 m_194 m_195 h0_29 h0_30 u_190) H := hP1
            have hD : va_D A (lwO cI h0 h0_1 h0_2 h0_3 h0_4 h0_5 h0_6 h0_7 h0_8 h0_9 h0_10 h0_11 h0_12 h0_13 h0_14 h0_15 h0_16 h0_17 h0_18 h0_19 h0_20 h0_21 h0_22 m_192 m_193 h0_25 h0_26 m_194 m_195 h0_29 h0_30 u_190) := hD1.weaken (fun _ _ _ h => hFc _ h)
            refine W.widen (k := 267) (n := 11251) (Nat.le_of_ble_eq_true rfl) (Nat.le_of_ble_eq_true rfl) ?_
            refine lv_bipush (v := (-93 : Int32)) hx hb dL_queries_334 (by decide) ?_
            obtain ⟨ht_, hf_⟩ := h
            refine lv_icmp_ne (tgt := 383) hx hb dL_queries_336 (by decide) (fun c_196 => ?_) (fun c_196 => ?_)
            · have h := ht_ c_196
              exact (show False from h).elim
            · have h := hf_ c_196
              refine lv_aload_n hx hb dL_queries_339 rfl (lv_at hl 0 rfl) ?_
              have hFc := frw hD hS hA
              refine va_calli (va_runV (As := []) (rest := []) ⟨hx, hb, hml, hown, hts⟩ (c_X7_forget l dC dI cI h0 h0_1 h0_2 h0_3 h0_4 h0_5 h0_6 h0_7 h0_8 h0_9 h0_10 h0_11 h0_12 h0_13 h0_14 h0_15 h0_16 h0_17 h0_18 h0_19 h0_20 h0_21 h0_22 m_192 m_193 h0_25 h0_26 m_194 m_195 h0_29 h0_30 _ u_190 _ h) (cwV 0 hts (goodIn_up gB_X7_forget) rfl rfl rfl (by decide +kernel) ⟨Nat.le_of_ble_eq_true rfl, Nat.le_of_ble_eq_true rfl⟩) (pb_V hP hK hD hN (ci := 7) (q0 := 0) rfl rfl) rfl rfl hl.1 rfl (lv_room (Nat.le_of_ble_eq_true rfl)) dL_queries_340 ⟨Nat.le_of_ble_eq_true rfl, Nat.le_of_ble_eq_true rfl⟩) hS (fun q _ h => hFc q h) hFc (fun r_198 u_197 t H locs ht hvm h hB hz1 hk1 hS => ?_)
              obtain ⟨m_199, m_200, m_201, m_202, hP1, hD1⟩ := hB
              rw [ht] at hP1
              have hP : va_P (dC, dI) vwCl (lwO cI h0 h0_1 h0_2 h0_3 h0_4 h0_5 h0_6 h0_7 h0_8 h0_9 h0_10 h0_11 h0_12 h0_13 h0_14 h0_15 h0_16 h0_17 h0_18 h0_19 h0_20 h0_21 h0_22 m_199 m_200 h0_25 h0_26 m_201 m_202 h0_29 h0_30 u_197) H := hP1
              have hD : va_D A (lwO cI h0 h0_1 h0_2 h0_3 h0_4 h0_5 h0_6 h0_7 h0_8 h0_9 h0_10 h0_11 h0_12 h0_13 h0_14 h0_15 h0_16 h0_17 h0_18 h0_19 h0_20 h0_21 h0_22 m_199 m_200 h0_25 h0_26 m_201 m_202 h0_29 h0_30 u_197) := hD1.weaken (fun _ _ _ h => hFc _ h)
              refine lv_iconst (v := (3 : Int32)) hx hb dL_queries_343 (by decide) ?_
              obtain ⟨ht_, hf_⟩ := h
              refine lv_icmp_ne (tgt := 383) hx hb dL_queries_344 (by decide) (fun c_203 => ?_) (fun c_203 => ?_)
              · have h := ht_ c_203
                exact (show False from h).elim
              · have h := hf_ c_203
                refine W.widen (k := 267) (n := 11251) (Nat.le_of_ble_eq_true rfl) (Nat.le_of_ble_eq_true rfl) ?_
                exact sg_L_queries_5 l hst C0 hK hN hX hC hA h0 h0_1 h0_2 h0_3 h0_4 h0_5 h0_6 h0_7 h0_8 h0_9 h0_10 h0_11 h0_12 h0_13 h0_14 h0_15 h0_16 h0_17 h0_18 h0_19 h0_20 h0_21 h0_22 h0_25 h0_26 h0_29 h0_30 _ u_197 h m_199 m_200 m_201 m_202 _ _ hP hD hS _ hl
