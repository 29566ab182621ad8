set_option maxHeartbeats 4000000 in
set_option maxRecDepth 100000 in
theorem sg_L_bounds_17 (l : Launch) (hst : l.stackTraces = false) {p : Program} {e : Env} {s : State} {m : MethodId} {below : List Frame} {meth : Method} {c : Code} (C0 : LC p s m (([] : List Value).toArray) meth c cL_bounds 3 wq_bounds) {dC : Nat → ClassId} {dI : Nat → Nat → Nat} {cI : ClassId} (hK : va_K (dC, dI) vwCl [(cI, .int)] s) (hN : nk s) {A : Nat → Prop} (hX : xj A s) (hC : xnc s) (hA : ∀ q : Nat, s.heap.size ≤ q → A q) (h0 h0_1 h0_2 h0_3 h0_4 h0_5 h0_6 h0_7 h0_8 h0_9 h0_10 h0_11 h0_12 h0_13 h0_14 h0_15 h0_16 h0_17 h0_18 h0_19 h0_20 h0_21 h0_22 h0_25 h0_26 h0_29 h0_30 : Nat) (post : Int32 → Prop) (s0 : TriS) (h : P_L_bounds_17 s0 post) (h0_23 h0_24 h0_27 h0_28 : Nat) (H : Heap) (locs : List Loc) (hP : va_P (dC, dI) vwCl (lwO cI h0 h0_1 h0_2 h0_3 h0_4 h0_5 h0_6 h0_7 h0_8 h0_9 h0_10 h0_11 h0_12 h0_13 h0_14 h0_15 h0_16 h0_17 h0_18 h0_19 h0_20 h0_21 h0_22 h0_23 h0_24 h0_25 h0_26 h0_27 h0_28 h0_29 h0_30 s0) H) (hD : va_D A (lwO cI h0 h0_1 h0_2 h0_3 h0_4 h0_5 h0_6 h0_7 h0_8 h0_9 h0_10 h0_11 h0_12 h0_13 h0_14 h0_15 h0_16 h0_17 h0_18 h0_19 h0_20 h0_21 h0_22 h0_23 h0_24 h0_25 h0_26 h0_27 h0_28 h0_29 h0_30 s0)) (hS : va_S A s.heap H locs) (ls : Array Slot) (hl : lv_has ls 3 [(1, .ref h0)]) : W p l e rm_L_bounds s m (([] : List Value).toArray) below meth c H locs 380 21578 (MQ below (Q_L_bounds dC dI cI A post) (([] : List Value).toArray) s mc_L_bounds ms_L_bounds A) (F0 m 283 ls []) := by
  obtain ⟨hx, hb, hr, hml, hown, hts, hlocks⟩ := id C0
  refine lv_aload_n hx hb dL_bounds_283 rfl (lv_at hl 0 rfl) ?_
  refine lv_iconst (v := (0 : Int32)) hx hb dL_bounds_284 (by decide) ?_
  refine lv_iconst (v := (0 : Int32)) hx hb dL_bounds_285 (by decide) ?_
  refine lv_iconst (v := (0 : Int32)) hx hb dL_bounds_286 (by decide) ?_
  have hFc := frw hD hS hA
  refine vx_calli (vx_runV (As := [.int (0 : Int32), .int (0 : Int32), .int (0 : Int32)]) (rest := []) ⟨hx, hb, hml, hown, hts⟩ (c_X7_takeBack l hst dC dI cI h0 h0_1 h0_2 h0_3 h0_4 h0_5 h0_6 h0_7 h0_8 h0_9 h0_10 h0_11 h0_12 h0_13 h0_14 h0_15 h0_16 h0_17 h0_18 h0_19 h0_20 h0_21 h0_22 h0_23 h0_24 h0_25 h0_26 h0_27 h0_28 h0_29 h0_30 _ s0 (0 : Int32) (0 : Int32) (0 : Int32) _ _ h) (cwV 3 hts (goodIn_up gB_X7_takeBack) rfl rfl rfl (by decide +kernel) ⟨Nat.le_of_ble_eq_true rfl, Nat.le_of_ble_eq_true rfl⟩) (pbj_V hP hK hD hN hX hFc hS (ci := 7) (q0 := 0) rfl rfl) rfl rfl hl.1 rfl (lv_room (Nat.le_of_ble_eq_true rfl)) dL_bounds_287 ⟨Nat.le_of_ble_eq_true rfl, Nat.le_of_ble_eq_true rfl⟩) hS (fun q _ h => hFc q h) hFc (fun q _ h => hFc q h) (fun E9 ce9 q9 u t H locs ht hvm h hB hz1 hk1 hS hce hcv hcl => (show False from h).elim) (fun r_1021 u_1020 t H locs ht hvm h hB hz1 hk1 hS => ?_)
  obtain ⟨m_1022, m_1023, m_1024, m_1025, hP1, hD1⟩ := hB
  rw [ht] at hP1
  have hP : va_P (dC, dI) vwCl (lwO cI h0 h0_1 h0_2 h0_3 h0_4 h0_5 h0_6 h0_7 h0_8 h0_9 h0_10 h0_11 h0_12 h0_13 h0_14 h0_15 h0_16 h0_17 h0_18 h0_19 h0_20 h0_21 h0_22 m_1022 m_1023 h0_25 h0_26 m_1024 m_1025 h0_29 h0_30 u_1020) H := hP1
  have hD : va_D A (lwO cI h0 h0_1 h0_2 h0_3 h0_4 h0_5 h0_6 h0_7 h0_8 h0_9 h0_10 h0_11 h0_12 h0_13 h0_14 h0_15 h0_16 h0_17 h0_18 h0_19 h0_20 h0_21 h0_22 m_1022 m_1023 h0_25 h0_26 m_1024 m_1025 h0_29 h0_30 u_1020) := hD1.weaken (fun _ _ _ h => hFc _ h)
  refine W.widen (k := 381) (n := 21584) (Nat.le_of_ble_eq_true rfl) (Nat.le_of_ble_eq_true rfl) ?_
  obtain ⟨ht_, hf_⟩ := h
  refine lv_if_eq (tgt := 326) hx hb dL_bounds_290 (by decide) (fun c_1026 => ?_) (fun c_1026 => ?_)
  · have h := ht_ c_1026
    exact (show False from h).elim
  · have h := hf_ c_1026
    refine lv_aload_n hx hb dL_bounds_293 rfl (lv_at hl 0 rfl) ?_
    refine lv_iconst (v := (0 : Int32)) hx hb dL_bounds_294 (by decide) ?_
    have hFc := fr0 hA hS
    refine vx_calli (vx_runV (As := [.int (0 : Int32)]) (rest := []) ⟨hx, hb, hml, hown, hts⟩ (c_X7_numberOf l hst dC dI cI h0 h0_1 h0_2 h0_3 h0_4 h0_5 h0_6 h0_7 h0_8 h0_9 h0_10 h0_11 h0_12 h0_13 h0_14 h0_15 h0_16 h0_17 h0_18 h0_19 h0_20 h0_21 h0_22 m_1022 m_1023 h0_25 h0_26 m_1024 m_1025 h0_29 h0_30 _ u_1020 (0 : Int32) _ _ h) (cwV 1 hts (goodIn_up gB_X7_numberOf) rfl rfl rfl (by decide +kernel) ⟨Nat.le_of_ble_eq_true rfl, Nat.le_of_ble_eq_true rfl⟩) (pbj_V hP hK hD hN hX hFc hS (ci := 7) (q0 := 0) rfl rfl) rfl rfl hl.1 rfl (lv_room (Nat.le_of_ble_eq_true rfl)) dL_bounds_295 ⟨Nat.le_of_ble_eq_true rfl, Nat.le_of_ble_eq_true rfl⟩) hS (fun q _ h => hFc q h) hFc (fun q _ h => hFc q h) (fun E9 ce9 q9 u t H locs ht hvm h hB hz1 hk1 hS hce hcv hcl => (show False from h).elim) (fun r_1028 u_1027 t H locs ht hvm h hB hz1 hk1 hS => ?_)
    have hP := vaPk hP hk1
    refine W.widen (k := 382) (n := 21590) (Nat.le_of_ble_eq_true rfl) (Nat.le_of_ble_eq_true rfl) ?_
    obtain ⟨ht_, hf_⟩ := h
    refine lv_if_ne (tgt := 326) hx hb dL_bounds_298 (by decide) (fun c_1029 => ?_) (fun c_1029 => ?_)
    · have h := ht_ c_1029
      exact (show False from h).elim
    · have h := hf_ c_1029
      refine lv_aload_n hx hb dL_bounds_301 rfl (lv_at hl 0 rfl) ?_
      have hFc := fr0 hA hS
      refine va_calli (va_runV (As := []) (rest := []) ⟨hx, hb, hml, hown, hts⟩ (c_X7_terms l dC dI cI h0 h0_1 h0_2 h0_3 h0_4 h0_5 h0_6 h0_7 h0_8 h0_9 h0_10 h0_11 h0_12 h0_13 h0_14 h0_15 h0_16 h0_17 h0_18 h0_19 h0_20 h0_21 h0_22 m_1022 m_1023 h0_25 h0_26 m_1024 m_1025 h0_29 h0_30 _ u_1020 _ h) (cwV 0 hts (goodIn_up gB_X7_terms) rfl rfl rfl (by decide +kernel) ⟨Nat.le_of_ble_eq_true rfl, Nat.le_of_ble_eq_true rfl⟩) (pb_V hP hK hD hN (ci := 7) (q0 := 0) rfl rfl) rfl rfl hl.1 rfl (lv_room (Nat.le_of_ble_eq_true rfl)) dL_bounds_302 ⟨Nat.le_of_ble_eq_true rfl, Nat.le_of_ble_eq_true rfl⟩) hS (fun q _ h => hFc q h) hFc (fun r_1031 u_1030 t H locs ht hvm h hB hz1 hk1 hS => ?_)
      have hP := vaPk hP hk1
      refine lv_bipush (v := (40 : Int32)) hx hb dL_bounds_305 (by decide) ?_
      obtain ⟨ht_, hf_⟩ := h
      refine lv_icmp_ne (tgt := 326) hx hb dL_bounds_307 (by decide) (fun c_1032 => ?_) (fun c_1032 => ?_)
      · have h := ht_ c_1032
        exact (show False from h).elim
      · have h := hf_ c_1032
        refine lv_aload_n hx hb dL_bounds_310 rfl (lv_at hl 0 rfl) ?_
        refine lv_iconst (v := (0 : Int32)) hx hb dL_bounds_311 (by decide) ?_
        refine lv_iconst (v := (0 : Int32)) hx hb dL_bounds_312 (by decide) ?_
        refine lv_iconst (v := (1 : Int32)) hx hb dL_bounds_313 (by decide) ?_
        have hFc := fr0 hA hS
        refine vx_calli (vx_runV (As := [.int (0 : Int32), .int (0 : Int32), .int (1 : Int32)]) (rest := []) ⟨hx, hb, hml, hown, hts⟩ (c_X7_termAt l hst dC dI cI h0 h0_1 h0_2 h0_3 h0_4 h0_5 h0_6 h0_7 h0_8 h0_9 h0_10 h0_11 h0_12 h0_13 h0_14 h0_15 h0_16 h0_17 h0_18 h0_19 h0_20 h0_21 h0_22 m_1022 m_1023 h0_25 h0_26 m_1024 m_1025 h0_29 h0_30 _ u_1020 (0 : Int32) (0 : Int32) (1 : Int32) _ _ h) (cwV 3 hts (goodIn_up gB_X7_termAt) rfl rfl rfl (by decide +kernel) ⟨Nat.le_of_ble_eq_true rfl, Nat.le_of_ble_eq_true rfl⟩) (pbj_V hP hK hD hN hX hFc hS (ci := 7) (q0 := 0) rfl rfl) rfl rfl hl.1 rfl (lv_room (Nat.le_of_ble_eq_true rfl)) dL_bounds_314 ⟨Nat.le_of_ble_eq_true rfl, Nat.le_of_ble_eq_true rfl⟩) hS (fun q _ h => hFc q h) hFc (fun q _ h => hFc q h) (fun E9 ce9 q9 u t H locs ht hvm h hB hz1 hk1 hS hce hcv hcl => (show False from h).elim) (fun r_1034 u_1033 t H locs ht hvm h hB hz1 hk1 hS => ?_)
        have hP := vaPk hP hk1
        refine W.widen (k := 383) (n := 21596) (Nat.le_of_ble_eq_true rfl) (Nat.le_of_ble_eq_true rfl) ?_
        refine lv_bipush (v := (78 : Int32)) hx hb dL_bounds_317 (by decide) ?_
        obtain ⟨ht_, hf_⟩ := h
        refine lv_icmp_ne (tgt := 326) hx hb dL_bounds_319 (by decide) (fun c_1035 => ?_) (fun c_1035 => ?_)
        · have h := ht_ c_1035
          exact (show False from h).elim
        · have h := hf_ c_1035
          refine lv_iconst (v := (1 : Int32)) hx hb dL_bounds_322 (by decide) ?_
          refine lv_goto (tgt := 327) hx hb dL_bounds_323 (by decide) ?_
          refine W.widen (k := mc_L_bounds) (n := ms_L_bounds) (Nat.le_of_ble_eq_true rfl) (Nat.le_of_ble_eq_true rfl) ?_
          exact W.zret (v := (1 : Int32)) hx hb hr (by decide +kernel) (fun t ht hW => ⟨⟨(1 : Int32), (), rfl, h, trivial⟩, hS.F ht⟩) hS.2.2 dL_bounds_327
set_option maxHeartbeats 4000000 in
set_option maxRecDepth 100000 in
theorem sg_L_bounds_16 (l : Launch) (hst : l.stackTraces = false) {p : Program} {e : Env} {s : State} {m : MethodId} {below : List Frame} {meth : Method} {c : Code} (C0 : LC p s m (([] : List Value).toArray) meth c cL_bounds 3 wq_bounds) {dC : Nat → ClassId} {dI : Nat → Nat → Nat} {cI : ClassId} (hK : va_K (dC, dI) vwCl [(cI, .int)] s) (hN : nk s) {A : Nat → Prop} (hX : xj A s) (hC : xnc s) (hA : ∀ q : Nat, s.heap.size ≤ q → A q) (h0 h0_1 h0_2 h0_3 h0_4 h0_5 h0_6 h0_7 h0_8 h0_9 h0_10 h0_11 h0_12 h0_13 h0_14 h0_15 h0_16 h0_17 h0_18 h0_19 h0_20 h0_21 h0_22 h0_25 h0_26 h0_29 h0_30 : Nat) (post : Int32 → Prop) (s0 : TriS) (h : P_L_bounds_16 s0 post) (h0_23 h0_24 h0_27 h0_28 : Nat) (H : Heap) (locs : List Loc) (hP : va_P (dC, dI) vwCl (lwO cI h0 h0_1 h0_2 h0_3 h0_4 h0_5 h0_6 h0_7 h0_8 h0_9 h0_10 h0_11 h0_12 h0_13 h0_14 h0_15 h0_16 h0_17 h0_18 h0_19 h0_20 h0_21 h0_22 h0_23 h0_24 h0_25 h0_26 h0_27 h0_28 h0_29 h0_30 s0) H) (hD : va_D A (lwO cI h0 h0_1 h0_2 h0_3 h0_4 h0_5 h0_6 h0_7 h0_8 h0_9 h0_10 h0_11 h0_12 h0_13 h0_14 h0_15 h0_16 h0_17 h0_18 h0_19 h0_20 h0_21 h0_22 h0_23 h0_24 h0_25 h0_26 h0_27 h0_28 h0_29 h0_30 s0)) (hS : va_S A s.heap H locs) (ls : Array Slot) (hl : lv_has ls 3 [(1, .ref h0), (2, .int (37 : Int32))]) : W p l e rm_L_bounds s m (([] : List Value).toArray) below meth c H locs 373 21536 (MQ below (Q_L_bounds dC dI cI A post) (([] : List Value).toArray) s mc_L_bounds ms_L_bounds A) (F0 m 221 ls []) := by
  obtain ⟨hx, hb, hr, hml, hown, hts, hlocks⟩ := id C0
  refine lv_iinc (v := (38 : Int32)) (lv' := [(2, .int (38 : Int32)), (1, .ref h0)]) hx hb dL_bounds_221 hl (k := 1) rfl (by decide) (by decide) rfl (fun ls hl => ?_)
  refine lv_goto (tgt := 197) hx hb dL_bounds_224 (by decide) ?_
  refine lv_iload_n hx hb dL_bounds_197 rfl (lv_at hl 0 rfl) ?_
  refine lv_bipush (v := (40 : Int32)) hx hb dL_bounds_198 (by decide) ?_
  refine lv_icmp_ge (tgt := 227) hx hb dL_bounds_200 (by decide) (fun c_976 => absurd c_976 (by decide)) (fun c_976 => ?_)
  refine lv_aload_n hx hb dL_bounds_203 rfl (lv_at hl 1 rfl) ?_
  refine lv_iconst (v := (2 : Int32)) hx hb dL_bounds_204 (by decide) ?_
  refine lv_iload_n hx hb dL_bounds_205 rfl (lv_at hl 0 rfl) ?_
  refine lv_imul hx hb dL_bounds_206 ?_
  refine lv_lit (b := (76 : Int32)) (by decide) ?_
  refine lv_iconst (v := (2 : Int32)) hx hb dL_bounds_207 (by decide) ?_
  refine lv_iload_n hx hb dL_bounds_208 rfl (lv_at hl 0 rfl) ?_
  refine lv_imul hx hb dL_bounds_209 ?_
  refine lv_lit (b := (76 : Int32)) (by decide) ?_
  refine lv_iconst (v := (2 : Int32)) hx hb dL_bounds_210 (by decide) ?_
  refine lv_iload_n hx hb dL_bounds_211 rfl (lv_at hl 0 rfl) ?_
  refine lv_imul hx hb dL_bounds_212 ?_
  refine lv_lit (b := (76 : Int32)) (by decide) ?_
  have hFc := frw hD hS hA
  refine vx_calli (vx_runV (As := [.int (76 : Int32), .int (76 : Int32), .int (76 : Int32)]) (rest := []) ⟨hx, hb, hml, hown, hts⟩ (c_X7_state l hst dC dI cI h0 h0_1 h0_2 h0_3 h0_4 h0_5 h0_6 h0_7 h0_8 h0_9 h0_10 h0_11 h0_12 h0_13 h0_14 h0_15 h0_16 h0_17 h0_18 h0_19 h0_20 h0_21 h0_22 h0_23 h0_24 h0_25 h0_26 h0_27 h0_28 h0_29 h0_30 _ s0 (76 : Int32) (76 : Int32) (76 : Int32) _ _ h) (cwV 3 hts (goodIn_up gB_X7_state) rfl rfl rfl (by decide +kernel) ⟨Nat.le_of_ble_eq_true rfl, Nat.le_of_ble_eq_true rfl⟩) (pbj_V hP hK hD hN hX hFc hS (ci := 7) (q0 := 0) rfl rfl) rfl rfl hl.1 rfl (lv_room (Nat.le_of_ble_eq_true rfl)) dL_bounds_213 ⟨Nat.le_of_ble_eq_true rfl, Nat.le_of_ble_eq_true rfl⟩) hS (fun q _ h => hFc q h) hFc (fun q _ h => hFc q h) (fun E9 ce9 q9 u t H locs ht hvm h hB hz1 hk1 hS hce hcv hcl => (show False from h).elim) (fun r_978 u_977 t H locs ht hvm h hB hz1 hk1 hS => ?_)
  obtain ⟨m_979, m_980, m_981, m_982, hP1, hD1⟩ := hB
  rw [ht] at hP1
  have hP : va_P (dC, dI) vwCl (lwO cI h0 h0_1 h0_2 h0_3 h0_4 h0_5 h0_6 h0_7 h0_8 h0_9 h0_10 h0_11 h0_12 h0_13 h0_14 h0_15 h0_16 h0_17 h0_18 h0_19 h0_20 h0_21 h0_22 m_979 m_980 h0_25 h0_26 m_981 m_982 h0_29 h0_30 u_977) H := hP1
  have hD : va_D A (lwO cI h0 h0_1 h0_2 h0_3 h0_4 h0_5 h0_6 h0_7 h0_8 h0_9 h0_10 h0_11 h0_12 h0_13 h0_14 h0_15 h0_16 h0_17 h0_18 h0_19 h0_20 h0_21 h0_22 m_979 m_980 h0_25 h0_26 m_981 m_982 h0_29 h0_30 u_977) := hD1.weaken (fun _ _ _ h => hFc _ h)
  refine W.widen (k := 374) (n := 21542) (Nat.le_of_ble_eq_true rfl) (Nat.le_of_ble_eq_true rfl) ?_
  obtain ⟨ht_, hf_⟩ := h
  refine lv_if_ne (tgt := 221) hx hb dL_bounds_216 (by decide) (fun c_983 => ?_) (fun c_983 => ?_)
  · have h := ht_ c_983
    refine lv_iinc (v := (39 : Int32)) (lv' := [(2, .int (39 : Int32)), (1, .ref h0)]) hx hb dL_bounds_221 hl (k := 0) rfl (by decide) (by decide) rfl (fun ls hl => ?_)
    refine lv_goto (tgt := 197) hx hb dL_bounds_224 (by decide) ?_
    refine lv_iload_n hx hb dL_bounds_197 rfl (lv_at hl 0 rfl) ?_
    refine lv_bipush (v := (40 : Int32)) hx hb dL_bounds_198 (by decide) ?_
    refine lv_icmp_ge (tgt := 227) hx hb dL_bounds_200 (by decide) (fun c_984 => absurd c_984 (by decide)) (fun c_984 => ?_)
    refine lv_aload_n hx hb dL_bounds_203 rfl (lv_at hl 1 rfl) ?_
    refine lv_iconst (v := (2 : Int32)) hx hb dL_bounds_204 (by decide) ?_
    refine lv_iload_n hx hb dL_bounds_205 rfl (lv_at hl 0 rfl) ?_
    refine lv_imul hx hb dL_bounds_206 ?_
    refine lv_lit (b := (78 : Int32)) (by decide) ?_
    refine lv_iconst (v := (2 : Int32)) hx hb dL_bounds_207 (by decide) ?_
    refine lv_iload_n hx hb dL_bounds_208 rfl (lv_at hl 0 rfl) ?_
    refine lv_imul hx hb dL_bounds_209 ?_
    refine lv_lit (b := (78 : Int32)) (by decide) ?_
    refine lv_iconst (v := (2 : Int32)) hx hb dL_bounds_210 (by decide) ?_
    refine lv_iload_n hx hb dL_bounds_211 rfl (lv_at hl 0 rfl) ?_
    refine lv_imul hx hb dL_bounds_212 ?_
    refine lv_lit (b := (78 : Int32)) (by decide) ?_
    have hFc := frw hD hS hA
    refine vx_calli (vx_runV (As := [.int (78 : Int32), .int (78 : Int32), .int (78 : Int32)]) (rest := []) ⟨hx, hb, hml, hown, hts⟩ (c_X7_state l hst dC dI cI h0 h0_1 h0_2 h0_3 h0_4 h0_5 h0_6 h0_7 h0_8 h0_9 h0_10 h0_11 h0_12 h0_13 h0_14 h0_15 h0_16 h0_17 h0_18 h0_19 h0_20 h0_21 h0_22 m_979 m_980 h0_25 h0_26 m_981 m_982 h0_29 h0_30 _ u_977 (78 : Int32) (78 : Int32) (78 : Int32) _ _ h) (cwV 3 hts (goodIn_up gB_X7_state) rfl rfl rfl (by decide +kernel) ⟨Nat.le_of_ble_eq_true rfl, Nat.le_of_ble_eq_true rfl⟩) (pbj_V hP hK hD hN hX hFc hS (ci := 7) (q0 := 0) rfl rfl) rfl rfl hl.1 rfl (lv_room (Nat.le_of_ble_eq_true rfl)) dL_bounds_213 ⟨Nat.le_of_ble_eq_true rfl, Nat.le_of_ble_eq_true rfl⟩) hS (fun q _ h => hFc q h) hFc (fun q _ h => hFc q h) (fun E9 ce9 q9 u t H locs ht hvm h hB hz1 hk1 hS hce hcv hcl => (show False from h).elim) (fun r_986 u_985 t H locs ht hvm h hB hz1 hk1 hS => ?_)
    obtain ⟨m_987, m_988, m_989, m_990, hP1, hD1⟩ := hB
    rw [ht] at hP1
    have hP : va_P (dC, dI) vwCl (lwO cI h0 h0_1 h0_2 h0_3 h0_4 h0_5 h0_6 h0_7 h0_8 h0_9 h0_10 h0_11 h0_12 h0_13 h0_14 h0_15 h0_16 h0_17 h0_18 h0_19 h0_20 h0_21 h0_22 m_987 m_988 h0_25 h0_26 m_989 m_990 h0_29 h0_30 u_985) H := hP1
    have hD : va_D A (lwO cI h0 h0_1 h0_2 h0_3 h0_4 h0_5 h0_6 h0_7 h0_8 h0_9 h0_10 h0_11 h0_12 h0_13 h0_14 h0_15 h0_16 h0_17 h0_18 h0_19 h0_20 h0_21 h0_22 m_987 m_988 h0_25 h0_26 m_989 m_990 h0_29 h0_30 u_985) := hD1.weaken (fun _ _ _ h => hFc _ h)
    refine W.widen (k := 375) (n := 21548) (Nat.le_of_ble_eq_true rfl) (Nat.le_of_ble_eq_true rfl) ?_
    obtain ⟨ht_, hf_⟩ := h
    refine lv_if_ne (tgt := 221) hx hb dL_bounds_216 (by decide) (fun c_991 => ?_) (fun c_991 => ?_)
    · have h := ht_ c_991
      refine lv_iinc (v := (40 : Int32)) (lv' := [(2, .int (40 : Int32)), (1, .ref h0)]) hx hb dL_bounds_221 hl (k := 0) rfl (by decide) (by decide) rfl (fun ls hl => ?_)
      refine lv_goto (tgt := 197) hx hb dL_bounds_224 (by decide) ?_
      refine lv_iload_n hx hb dL_bounds_197 rfl (lv_at hl 0 rfl) ?_
      refine lv_bipush (v := (40 : Int32)) hx hb dL_bounds_198 (by decide) ?_
      refine lv_icmp_ge (tgt := 227) hx hb dL_bounds_200 (by decide) (fun c_992 => ?_) (fun c_992 => absurd c_992 (by decide))
      refine lv_aload_n hx hb dL_bounds_227 rfl (lv_at hl 1 rfl) ?_
      have hFc := fr0 hA hS
      refine va_calli (va_runV (As := []) (rest := []) ⟨hx, hb, hml, hown, hts⟩ (c_X7_terms l dC dI cI h0 h0_1 h0_2 h0_3 h0_4 h0_5 h0_6 h0_7 h0_8 h0_9 h0_10 h0_11 h0_12 h0_13 h0_14 h0_15 h0_16 h0_17 h0_18 h0_19 h0_20 h0_21 h0_22 m_987 m_988 h0_25 h0_26 m_989 m_990 h0_29 h0_30 _ u_985 _ h) (cwV 0 hts (goodIn_up gB_X7_terms) rfl rfl rfl (by decide +kernel) ⟨Nat.le_of_ble_eq_true rfl, Nat.le_of_ble_eq_true rfl⟩) (pb_V hP hK hD hN (ci := 7) (q0 := 0) rfl rfl) rfl rfl hl.1 rfl (lv_room (Nat.le_of_ble_eq_true rfl)) dL_bounds_228 ⟨Nat.le_of_ble_eq_true rfl, Nat.le_of_ble_eq_true rfl⟩) hS (fun q _ h => hFc q h) hFc (fun r_994 u_993 t H locs ht hvm h hB hz1 hk1 hS => ?_)
      have hP := vaPk hP hk1
      refine lv_bipush (v := (40 : Int32)) hx hb dL_bounds_231 (by decide) ?_
      obtain ⟨ht_, hf_⟩ := h
      refine lv_icmp_ne (tgt := 326) hx hb dL_bounds_233 (by decide) (fun c_995 => ?_) (fun c_995 => ?_)
      · have h := ht_ c_995
        exact (show False from h).elim
      · have h := hf_ c_995
        refine lv_aload_n hx hb dL_bounds_236 rfl (lv_at hl 1 rfl) ?_
        refine lv_iconst (v := (0 : Int32)) hx hb dL_bounds_237 (by decide) ?_
        refine lv_iconst (v := (1 : Int32)) hx hb dL_bounds_238 (by decide) ?_
        refine lv_iconst (v := (0 : Int32)) hx hb dL_bounds_239 (by decide) ?_
        refine lv_iconst (v := (0 : Int32)) hx hb dL_bounds_240 (by decide) ?_
        have hFc := frw hD hS hA
        refine vx_calli (SX := Unit) (px := fun _ => False) (BX := fun _ _ _ => True) (AX := A) (vx_runSX0 (vx_runSX (As := [.ref h0, .int (0 : Int32), .int (1 : Int32), .int (0 : Int32), .int (0 : Int32)]) (rest := []) ⟨hx, hb, hml, hown, hts⟩ (c_L_act l hst dC dI cI h0 h0_1 h0_2 h0_3 h0_4 h0_5 h0_6 h0_7 h0_8 h0_9 h0_10 h0_11 h0_12 h0_13 h0_14 h0_15 h0_16 h0_17 h0_18 h0_19 h0_20 h0_21 h0_22 m_987 m_988 h0_25 h0_26 m_989 m_990 h0_29 h0_30 _ u_985 (0 : Int32) (1 : Int32) (0 : Int32) (0 : Int32) _ h) (vx_cwSW 5 hts (goodIn_up gB_L_act) rfl rfl rfl (by decide +kernel) ⟨Nat.le_of_ble_eq_true rfl, Nat.le_of_ble_eq_true rfl⟩) (pbl_S hP hK hD hN hX hC hFc hS) rfl rfl hl.1 rfl (lv_room (Nat.le_of_ble_eq_true rfl)) dL_bounds_241 ⟨Nat.le_of_ble_eq_true rfl, Nat.le_of_ble_eq_true rfl⟩)) hS (fun q _ h => hFc q h) hFc (fun q _ h => h) (fun E9 ce9 q9 u t H locs ht hvm h hB hz1 hk1 hS hce hcv hcl => h.elim) (fun r_997 u_996 t H locs ht hvm h hB hz1 hk1 hS => ?_)
        obtain ⟨m_998, m_999, m_1000, m_1001, hP1, hD1⟩ := hB
        rw [ht] at hP1
        have hP : va_P (dC, dI) vwCl (lwO cI h0 h0_1 h0_2 h0_3 h0_4 h0_5 h0_6 h0_7 h0_8 h0_9 h0_10 h0_11 h0_12 h0_13 h0_14 h0_15 h0_16 h0_17 h0_18 h0_19 h0_20 h0_21 h0_22 m_998 m_999 h0_25 h0_26 m_1000 m_1001 h0_29 h0_30 u_996) H := hP1
        have hD : va_D A (lwO cI h0 h0_1 h0_2 h0_3 h0_4 h0_5 h0_6 h0_7 h0_8 h0_9 h0_10 h0_11 h0_12 h0_13 h0_14 h0_15 h0_16 h0_17 h0_18 h0_19 h0_20 h0_21 h0_22 m_998 m_999 h0_25 h0_26 m_1000 m_1001 h0_29 h0_30 u_996) := hD1.weaken (fun _ _ _ h => hFc _ h)
        refine W.widen (k := 377) (n := 21560) (Nat.le_of_ble_eq_true rfl) (Nat.le_of_ble_eq_true rfl) ?_
        refine lv_bipush (v := (-93 : Int32)) hx hb dL_bounds_244 (by decide) ?_
        obtain ⟨ht_, hf_⟩ := h
        refine lv_icmp_ne (tgt := 326) hx hb dL_bounds_246 (by decide) (fun c_1002 => ?_) (fun c_1002 => ?_)
        · have h := ht_ c_1002
          exact (show False from h).elim
        · have h := hf_ c_1002
          refine lv_aload_n hx hb dL_bounds_249 rfl (lv_at hl 1 rfl) ?_
          refine lv_iconst (v := (0 : Int32)) hx hb dL_bounds_250 (by decide) ?_
          refine lv_iconst (v := (0 : Int32)) hx hb dL_bounds_251 (by decide) ?_
          refine lv_iconst (v := (0 : Int32)) hx hb dL_bounds_252 (by decide) ?_
          refine lv_bipush (v := (99 : Int32)) hx hb dL_bounds_253 (by decide) ?_
          have hFc := frw hD hS hA
          refine vx_calli (SX := Unit) (px := fun _ => False) (BX := fun _ _ _ => True) (AX := A) (vx_runSX0 (vx_runSX (As := [.ref h0, .int (0 : Int32), .int (0 : Int32), .int (0 : Int32), .int (99 : Int32)]) (rest := []) ⟨hx, hb, hml, hown, hts⟩ (c_L_act l hst dC dI cI h0 h0_1 h0_2 h0_3 h0_4 h0_5 h0_6 h0_7 h0_8 h0_9 h0_10 h0_11 h0_12 h0_13 h0_14 h0_15 h0_16 h0_17 h0_18 h0_19 h0_20 h0_21 h0_22 m_998 m_999 h0_25 h0_26 m_1000 m_1001 h0_29 h0_30 _ u_996 (0 : Int32) (0 : Int32) (0 : Int32) (99 : Int32) _ h) (vx_cwSW 5 hts (goodIn_up gB_L_act) rfl rfl rfl (by decide +kernel) ⟨Nat.le_of_ble_eq_true rfl, Nat.le_of_ble_eq_true rfl⟩) (pbl_S hP hK hD hN hX hC hFc hS) rfl rfl hl.1 rfl (lv_room (Nat.le_of_ble_eq_true rfl)) dL_bounds_255 ⟨Nat.le_of_ble_eq_true rfl, Nat.le_of_ble_eq_true rfl⟩)) hS (fun q _ h => hFc q h) hFc (fun q _ h => h) (fun E9 ce9 q9 u t H locs ht hvm h hB hz1 hk1 hS hce hcv hcl => h.elim) (fun r_1004 u_1003 t H locs ht hvm h hB hz1 hk1 hS => ?_)
          obtain ⟨m_1005, m_1006, m_1007, m_1008, hP1, hD1⟩ := hB
          rw [ht] at hP1
          have hP : va_P (dC, dI) vwCl (lwO cI h0 h0_1 h0_2 h0_3 h0_4 h0_5 h0_6 h0_7 h0_8 h0_9 h0_10 h0_11 h0_12 h0_13 h0_14 h0_15 h0_16 h0_17 h0_18 h0_19 h0_20 h0_21 h0_22 m_1005 m_1006 h0_25 h0_26 m_1007 m_1008 h0_29 h0_30 u_1003) H := hP1
          have hD : va_D A (lwO cI h0 h0_1 h0_2 h0_3 h0_4 h0_5 h0_6 h0_7 h0_8 h0_9 h0_10 h0_11 h0_12 h0_13 h0_14 h0_15 h0_16 h0_17 h0_18 h0_19 h0_20 h0_21 h0_22 m_1005 m_1006 h0_25 h0_26 m_1007 m_1008 h0_29 h0_30 u_1003) := hD1.weaken (fun _ _ _ h => hFc _ h)
          refine W.widen (k := 379) (n := 21572) (Nat.le_of_ble_eq_true rfl) (Nat.le_of_ble_eq_true rfl) ?_
          refine lv_bipush (v := (-93 : Int32)) hx hb dL_bounds_258 (by decide) ?_
          obtain ⟨ht_, hf_⟩ := h
          refine lv_icmp_ne (tgt := 326) hx hb dL_bounds_260 (by decide) (fun c_1009 => ?_) (fun c_1009 => ?_)
          · have h := ht_ c_1009
            exact (show False from h).elim
          · have h := hf_ c_1009
            refine lv_aload_n hx hb dL_bounds_263 rfl (lv_at hl 1 rfl) ?_
            refine lv_iconst (v := (0 : Int32)) hx hb dL_bounds_264 (by decide) ?_
            refine lv_bipush (v := (78 : Int32)) hx hb dL_bounds_265 (by decide) ?_
            refine lv_iconst (v := (2 : Int32)) hx hb dL_bounds_267 (by decide) ?_
            have hFc := frw hD hS hA
            refine vx_calli (vx_runV (As := [.int (0 : Int32), .int (78 : Int32), .int (2 : Int32)]) (rest := []) ⟨hx, hb, hml, hown, hts⟩ (c_X7_state l hst dC dI cI h0 h0_1 h0_2 h0_3 h0_4 h0_5 h0_6 h0_7 h0_8 h0_9 h0_10 h0_11 h0_12 h0_13 h0_14 h0_15 h0_16 h0_17 h0_18 h0_19 h0_20 h0_21 h0_22 m_1005 m_1006 h0_25 h0_26 m_1007 m_1008 h0_29 h0_30 _ u_1003 (0 : Int32) (78 : Int32) (2 : Int32) _ _ h) (cwV 3 hts (goodIn_up gB_X7_state) rfl rfl rfl (by decide +kernel) ⟨Nat.le_of_ble_eq_true rfl, Nat.le_of_ble_eq_true rfl⟩) (pbj_V hP hK hD hN hX hFc hS (ci := 7) (q0 := 0) rfl rfl) rfl rfl hl.1 rfl (lv_room (Nat.le_of_ble_eq_true rfl)) dL_bounds_268 ⟨Nat.le_of_ble_eq_true rfl, Nat.le_of_ble_eq_true rfl⟩) hS (fun q _ h => hFc q h) hFc (fun q _ h => hFc q h) (fun E9 ce9 q9 u t H locs ht hvm h hB hz1 hk1 hS hce hcv hcl => (show False from h).elim) (fun r_1011 u_1010 t H locs ht hvm h hB hz1 hk1 hS => ?_)
            obtain ⟨m_1012, m_1013, m_1014, m_1015, hP1, hD1⟩ := hB
            rw [ht] at hP1
            have hP : va_P (dC, dI) vwCl (lwO cI h0 h0_1 h0_2 h0_3 h0_4 h0_5 h0_6 h0_7 h0_8 h0_9 h0_10 h0_11 h0_12 h0_13 h0_14 h0_15 h0_16 h0_17 h0_18 h0_19 h0_20 h0_21 h0_22 m_1012 m_1013 h0_25 h0_26 m_1014 m_1015 h0_29 h0_30 u_1010) H := hP1
            have hD : va_D A (lwO cI h0 h0_1 h0_2 h0_3 h0_4 h0_5 h0_6 h0_7 h0_8 h0_9 h0_10 h0_11 h0_12 h0_13 h0_14 h0_15 h0_16 h0_17 h0_18 h0_19 h0_20 h0_21 h0_22 m_1012 m_1013 h0_25 h0_26 m_1014 m_1015 h0_29 h0_30 u_1010) := hD1.weaken (fun _ _ _ h => hFc _ h)
            refine W.widen (k := 380) (n := 21578) (Nat.le_of_ble_eq_true rfl) (Nat.le_of_ble_eq_true rfl) ?_
            obtain ⟨ht_, hf_⟩ := h
            refine lv_if_eq (tgt := 326) hx hb dL_bounds_271 (by decide) (fun c_1016 => ?_) (fun c_1016 => ?_)
            · have h := ht_ c_1016
              exact (show False from h).elim
            · have h := hf_ c_1016
              refine lv_aload_n hx hb dL_bounds_274 rfl (lv_at hl 1 rfl) ?_
              have hFc := fr0 hA hS
              refine va_calli (va_runV (As := []) (rest := []) ⟨hx, hb, hml, hown, hts⟩ (c_X7_triples l dC dI cI h0 h0_1 h0_2 h0_3 h0_4 h0_5 h0_6 h0_7 h0_8 h0_9 h0_10 h0_11 h0_12 h0_13 h0_14 h0_15 h0_16 h0_17 h0_18 h0_19 h0_20 h0_21 h0_22 m_1012 m_1013 h0_25 h0_26 m_1014 m_1015 h0_29 h0_30 _ u_1010 _ h) (cwV 0 hts (goodIn_up gB_X7_triples) rfl rfl rfl (by decide +kernel) ⟨Nat.le_of_ble_eq_true rfl, Nat.le_of_ble_eq_true rfl⟩) (pb_V hP hK hD hN (ci := 7) (q0 := 0) rfl rfl) rfl rfl hl.1 rfl (lv_room (Nat.le_of_ble_eq_true rfl)) dL_bounds_275 ⟨Nat.le_of_ble_eq_true rfl, Nat.le_of_ble_eq_true rfl⟩) hS (fun q _ h => hFc q h) hFc (fun r_1018 u_1017 t H locs ht hvm h hB hz1 hk1 hS => ?_)
              have hP := vaPk hP hk1
              refine lv_bipush (v := (41 : Int32)) hx hb dL_bounds_278 (by decide) ?_
              obtain ⟨ht_, hf_⟩ := h
              refine lv_icmp_ne (tgt := 326) hx hb dL_bounds_280 (by decide) (fun c_1019 => ?_) (fun c_1019 => ?_)
              · have h := ht_ c_1019
                exact (show False from h).elim
              · have h := hf_ c_1019
                have hl : lv_has ls 3 [(1, .ref h0)] := lv_sub hl [1] rfl
                refine W.widen (k := 380) (n := 21578) (Nat.le_of_ble_eq_true rfl) (Nat.le_of_ble_eq_true rfl) ?_
                exact sg_L_bounds_17 l hst C0 hK hN hX hC hA h0 h0_1 h0_2 h0_3 h0_4 h0_5 h0_6 h0_7 h0_8 h0_9 h0_10 h0_11 h0_12 h0_13 h0_14 h0_15 h0_16 h0_17 h0_18 h0_19 h0_20 h0_21 h0_22 h0_25 h0_26 h0_29 h0_30 _ u_1010 h m_1012 m_1013 m_1014 m_1015 _ _ hP hD hS _ hl
    · have h := hf_ c_991
      exact (show False from h).elim
  · have h := hf_ c_983
    exact (show False from h).elim
set_option maxHeartbeats 4000000 in
set_option maxRecDepth 100000 in
theorem sg_L_bounds_15 (l : Launch) (hst : l.stackTraces = false) {p : Program} {e : Env} {s : State} {m : MethodId} {below : List Frame} {meth : Method} {c : Code} (C0 : LC p s m (([] : List Value).toArray) meth c cL_bounds 3 wq_bounds) {dC : Nat → ClassId} {dI : Nat → Nat → Nat} {cI : ClassId} (hK : va_K (dC, dI) vwCl [(cI, .int)] s) (hN : nk s) {A : Nat → Prop} (hX : xj A s) (hC : xnc s) (hA : ∀ q : Nat, s.heap.size ≤ q → A q) (h0 h0_1 h0_2 h0_3 h0_4 h0_5 h0_6 h0_7 h0_8 h0_9 h0_10 h0_11 h0_12 h0_13 h0_14 h0_15 h0_16 h0_17 h0_18 h0_19 h0_20 h0_21 h0_22 h0_25 h0_26 h0_29 h0_30 : Nat) (post : Int32 → Prop) (s0 : TriS) (h : P_L_bounds_15 s0 post) (h0_23 h0_24 h0_27 h0_28 : Nat) (H : Heap) (locs : List Loc) (hP : va_P (dC, dI) vwCl (lwO cI h0 h0_1 h0_2 h0_3 h0_4 h0_5 h0_6 h0_7 h0_8 h0_9 h0_10 h0_11 h0_12 h0_13 h0_14 h0_15 h0_16 h0_17 h0_18 h0_19 h0_20 h0_21 h0_22 h0_23 h0_24 h0_25 h0_26 h0_27 h0_28 h0_29 h0_30 s0) H) (hD : va_D A (lwO cI h0 h0_1 h0_2 h0_3 h0_4 h0_5 h0_6 h0_7 h0_8 h0_9 h0_10 h0_11 h0_12 h0_13 h0_14 h0_15 h0_16 h0_17 h0_18 h0_19 h0_20 h0_21 h0_22 h0_23 h0_24 h0_25 h0_26 h0_27 h0_28 h0_29 h0_30 s0)) (hS : va_S A s.heap H locs) (ls : Array Slot) (hl : lv_has ls 3 [(1, .ref h0), (2, .int (30 : Int32))]) : W p l e rm_L_bounds s m (([] : List Value).toArray) below meth c H locs 366 21494 (MQ below (Q_L_bounds dC dI cI A post) (([] : List Value).toArray) s mc_L_bounds ms_L_bounds A) (F0 m 221 ls []) := by
  obtain ⟨hx, hb, hr, hml, hown, hts, hlocks⟩ := id C0
  refine lv_iinc (v := (31 : Int32)) (lv' := [(2, .int (31 : Int32)), (1, .ref h0)]) hx hb dL_bounds_221 hl (k := 1) rfl (by decide) (by decide) rfl (fun ls hl => ?_)
  refine lv_goto (tgt := 197) hx hb dL_bounds_224 (by decide) ?_
  refine lv_iload_n hx hb dL_bounds_197 rfl (lv_at hl 0 rfl) ?_
  refine lv_bipush (v := (40 : Int32)) hx hb dL_bounds_198 (by decide) ?_
  refine lv_icmp_ge (tgt := 227) hx hb dL_bounds_200 (by decide) (fun c_920 => absurd c_920 (by decide)) (fun c_920 => ?_)
  refine lv_aload_n hx hb dL_bounds_203 rfl (lv_at hl 1 rfl) ?_
  refine lv_iconst (v := (2 : Int32)) hx hb dL_bounds_204 (by decide) ?_
  refine lv_iload_n hx hb dL_bounds_205 rfl (lv_at hl 0 rfl) ?_
  refine lv_imul hx hb dL_bounds_206 ?_
  refine lv_lit (b := (62 : Int32)) (by decide) ?_
  refine lv_iconst (v := (2 : Int32)) hx hb dL_bounds_207 (by decide) ?_
  refine lv_iload_n hx hb dL_bounds_208 rfl (lv_at hl 0 rfl) ?_
  refine lv_imul hx hb dL_bounds_209 ?_
  refine lv_lit (b := (62 : Int32)) (by decide) ?_
  refine lv_iconst (v := (2 : Int32)) hx hb dL_bounds_210 (by decide) ?_
  refine lv_iload_n hx hb dL_bounds_211 rfl (lv_at hl 0 rfl) ?_
  refine lv_imul hx hb dL_bounds_212 ?_
  refine lv_lit (b := (62 : Int32)) (by decide) ?_
  have hFc := frw hD hS hA
  refine vx_calli (vx_runV (As := [.int (62 : Int32), .int (62 : Int32), .int (62 : Int32)]) (rest := []) ⟨hx, hb, hml, hown, hts⟩ (c_X7_state l hst dC dI cI h0 h0_1 h0_2 h0_3 h0_4 h0_5 h0_6 h0_7 h0_8 h0_9 h0_10 h0_11 h0_12 h0_13 h0_14 h0_15 h0_16 h0_17 h0_18 h0_19 h0_20 h0_21 h0_22 h0_23 h0_24 h0_25 h0_26 h0_27 h0_28 h0_29 h0_30 _ s0 (62 : Int32) (62 : Int32) (62 : Int32) _ _ h) (cwV 3 hts (goodIn_up gB_X7_state) rfl rfl rfl (by decide +kernel) ⟨Nat.le_of_ble_eq_true rfl, Nat.le_of_ble_eq_true rfl⟩) (pbj_V hP hK hD hN hX hFc hS (ci := 7) (q0 := 0) rfl rfl) rfl rfl hl.1 rfl (lv_room (Nat.le_of_ble_eq_true rfl)) dL_bounds_213 ⟨Nat.le_of_ble_eq_true rfl, Nat.le_of_ble_eq_true rfl⟩) hS (fun q _ h => hFc q h) hFc (fun q _ h => hFc q h) (fun E9 ce9 q9 u t H locs ht hvm h hB hz1 hk1 hS hce hcv hcl => (show False from h).elim) (fun r_922 u_921 t H locs ht hvm h hB hz1 hk1 hS => ?_)
  obtain ⟨m_923, m_924, m_925, m_926, hP1, hD1⟩ := hB
  rw [ht] at hP1
  have hP : va_P (dC, dI) vwCl (lwO cI h0 h0_1 h0_2 h0_3 h0_4 h0_5 h0_6 h0_7 h0_8 h0_9 h0_10 h0_11 h0_12 h0_13 h0_14 h0_15 h0_16 h0_17 h0_18 h0_19 h0_20 h0_21 h0_22 m_923 m_924 h0_25 h0_26 m_925 m_926 h0_29 h0_30 u_921) H := hP1
  have hD : va_D A (lwO cI h0 h0_1 h0_2 h0_3 h0_4 h0_5 h0_6 h0_7 h0_8 h0_9 h0_10 h0_11 h0_12 h0_13 h0_14 h0_15 h0_16 h0_17 h0_18 h0_19 h0_20 h0_21 h0_22 m_923 m_924 h0_25 h0_26 m_925 m_926 h0_29 h0_30 u_921) := hD1.weaken (fun _ _ _ h => hFc _ h)
  refine W.widen (k := 367) (n := 21500) (Nat.le_of_ble_eq_true rfl) (Nat.le_of_ble_eq_true rfl) ?_
  obtain ⟨ht_, hf_⟩ := h
  refine lv_if_ne (tgt := 221) hx hb dL_bounds_216 (by decide) (fun c_927 => ?_) (fun c_927 => ?_)
  · have h := ht_ c_927
    refine lv_iinc (v := (32 : Int32)) (lv' := [(2, .int (32 : Int32)), (1, .ref h0)]) hx hb dL_bounds_221 hl (k := 0) rfl (by decide) (by decide) rfl (fun ls hl => ?_)
    refine lv_goto (tgt := 197) hx hb dL_bounds_224 (by decide) ?_
    refine lv_iload_n hx hb dL_bounds_197 rfl (lv_at hl 0 rfl) ?_
    refine lv_bipush (v := (40 : Int32)) hx hb dL_bounds_198 (by decide) ?_
    refine lv_icmp_ge (tgt := 227) hx hb dL_bounds_200 (by decide) (fun c_928 => absurd c_928 (by decide)) (fun c_928 => ?_)
    refine lv_aload_n hx hb dL_bounds_203 rfl (lv_at hl 1 rfl) ?_
    refine lv_iconst (v := (2 : Int32)) hx hb dL_bounds_204 (by decide) ?_
    refine lv_iload_n hx hb dL_bounds_205 rfl (lv_at hl 0 rfl) ?_
    refine lv_imul hx hb dL_bounds_206 ?_
    refine lv_lit (b := (64 : Int32)) (by decide) ?_
    refine lv_iconst (v := (2 : Int32)) hx hb dL_bounds_207 (by decide) ?_
    refine lv_iload_n hx hb dL_bounds_208 rfl (lv_at hl 0 rfl) ?_
    refine lv_imul hx hb dL_bounds_209 ?_
    refine lv_lit (b := (64 : Int32)) (by decide) ?_
    refine lv_iconst (v := (2 : Int32)) hx hb dL_bounds_210 (by decide) ?_
    refine lv_iload_n hx hb dL_bounds_211 rfl (lv_at hl 0 rfl) ?_
    refine lv_imul hx hb dL_bounds_212 ?_
    refine lv_lit (b := (64 : Int32)) (by decide) ?_
    have hFc := frw hD hS hA
    refine vx_calli (vx_runV (As := [.int (64 : Int32), .int (64 : Int32), .int (64 : Int32)]) (rest := []) ⟨hx, hb, hml, hown, hts⟩ (c_X7_state l hst dC dI cI h0 h0_1 h0_2 h0_3 h0_4 h0_5 h0_6 h0_7 h0_8 h0_9 h0_10 h0_11 h0_12 h0_13 h0_14 h0_15 h0_16 h0_17 h0_18 h0_19 h0_20 h0_21 h0_22 m_923 m_924 h0_25 h0_26 m_925 m_926 h0_29 h0_30 _ u_921 (64 : Int32) (64 : Int32) (64 : Int32) _ _ h) (cwV 3 hts (goodIn_up gB_X7_state) rfl rfl rfl (by decide +kernel) ⟨Nat.le_of_ble_eq_true rfl, Nat.le_of_ble_eq_true rfl⟩) (pbj_V hP hK hD hN hX hFc hS (ci := 7) (q0 := 0) rfl rfl) rfl rfl hl.1 rfl (lv_room (Nat.le_of_ble_eq_true rfl)) dL_bounds_213 ⟨Nat.le_of_ble_eq_true rfl, Nat.le_of_ble_eq_true rfl⟩) hS (fun q _ h => hFc q h) hFc (fun q _ h => hFc q h) (fun E9 ce9 q9 u t H locs ht hvm h hB hz1 hk1 hS hce hcv hcl => (show False from h).elim) (fun r_930 u_929 t H locs ht hvm h hB hz1 hk1 hS => ?_)
    obtain ⟨m_931, m_932, m_933, m_934, hP1, hD1⟩ := hB
    rw [ht] at hP1
    have hP : va_P (dC, dI) vwCl (lwO cI h0 h0_1 h0_2 h0_3 h0_4 h0_5 h0_6 h0_7 h0_8 h0_9 h0_10 h0_11 h0_12 h0_13 h0_14 h0_15 h0_16 h0_17 h0_18 h0_19 h0_20 h0_21 h0_22 m_931 m_932 h0_25 h0_26 m_933 m_934 h0_29 h0_30 u_929) H := hP1
    have hD : va_D A (lwO cI h0 h0_1 h0_2 h0_3 h0_4 h0_5 h0_6 h0_7 h0_8 h0_9 h0_10 h0_11 h0_12 h0_13 h0_14 h0_15 h0_16 h0_17 h0_18 h0_19 h0_20 h0_21 h0_22 m_931 m_932 h0_25 h0_26 m_933 m_934 h0_29 h0_30 u_929) := hD1.weaken (fun _ _ _ h => hFc _ h)
    refine W.widen (k := 368) (n := 21506) (Nat.le_of_ble_eq_true rfl) (Nat.le_of_ble_eq_true rfl) ?_
    obtain ⟨ht_, hf_⟩ := h
    refine lv_if_ne (tgt := 221) hx hb dL_bounds_216 (by decide) (fun c_935 => ?_) (fun c_935 => ?_)
    · have h := ht_ c_935
      refine lv_iinc (v := (33 : Int32)) (lv' := [(2, .int (33 : Int32)), (1, .ref h0)]) hx hb dL_bounds_221 hl (k := 0) rfl (by decide) (by decide) rfl (fun ls hl => ?_)
      refine lv_goto (tgt := 197) hx hb dL_bounds_224 (by decide) ?_
      refine lv_iload_n hx hb dL_bounds_197 rfl (lv_at hl 0 rfl) ?_
      refine lv_bipush (v := (40 : Int32)) hx hb dL_bounds_198 (by decide) ?_
      refine lv_icmp_ge (tgt := 227) hx hb dL_bounds_200 (by decide) (fun c_936 => absurd c_936 (by decide)) (fun c_936 => ?_)
      refine lv_aload_n hx hb dL_bounds_203 rfl (lv_at hl 1 rfl) ?_
      refine lv_iconst (v := (2 : Int32)) hx hb dL_bounds_204 (by decide) ?_
      refine lv_iload_n hx hb dL_bounds_205 rfl (lv_at hl 0 rfl) ?_
      refine lv_imul hx hb dL_bounds_206 ?_
      refine lv_lit (b := (66 : Int32)) (by decide) ?_
      refine lv_iconst (v := (2 : Int32)) hx hb dL_bounds_207 (by decide) ?_
      refine lv_iload_n hx hb dL_bounds_208 rfl (lv_at hl 0 rfl) ?_
      refine lv_imul hx hb dL_bounds_209 ?_
      refine lv_lit (b := (66 : Int32)) (by decide) ?_
      refine lv_iconst (v := (2 : Int32)) hx hb dL_bounds_210 (by decide) ?_
      refine lv_iload_n hx hb dL_bounds_211 rfl (lv_at hl 0 rfl) ?_
      refine lv_imul hx hb dL_bounds_212 ?_
      refine lv_lit (b := (66 : Int32)) (by decide) ?_
      have hFc := frw hD hS hA
      refine vx_calli (vx_runV (As := [.int (66 : Int32), .int (66 : Int32), .int (66 : Int32)]) (rest := []) ⟨hx, hb, hml, hown, hts⟩ (c_X7_state l hst dC dI cI h0 h0_1 h0_2 h0_3 h0_4 h0_5 h0_6 h0_7 h0_8 h0_9 h0_10 h0_11 h0_12 h0_13 h0_14 h0_15 h0_16 h0_17 h0_18 h0_19 h0_20 h0_21 h0_22 m_931 m_932 h0_25 h0_26 m_933 m_934 h0_29 h0_30 _ u_929 (66 : Int32) (66 : Int32) (66 : Int32) _ _ h) (cwV 3 hts (goodIn_up gB_X7_state) rfl rfl rfl (by decide +kernel) ⟨Nat.le_of_ble_eq_true rfl, Nat.le_of_ble_eq_true rfl⟩) (pbj_V hP hK hD hN hX hFc hS (ci := 7) (q0 := 0) rfl rfl) rfl rfl hl.1 rfl (lv_room (Nat.le_of_ble_eq_true rfl)) dL_bounds_213 ⟨Nat.le_of_ble_eq_true rfl, Nat.le_of_ble_eq_true rfl⟩) hS (fun q _ h => hFc q h) hFc (fun q _ h => hFc q h) (fun E9 ce9 q9 u t H locs ht hvm h hB hz1 hk1 hS hce hcv hcl => (show False from h).elim) (fun r_938 u_937 t H locs ht hvm h hB hz1 hk1 hS => ?_)
      obtain ⟨m_939, m_940, m_941, m_942, hP1, hD1⟩ := hB
      rw [ht] at hP1
      have hP : va_P (dC, dI) vwCl (lwO cI h0 h0_1 h0_2 h0_3 h0_4 h0_5 h0_6 h0_7 h0_8 h0_9 h0_10 h0_11 h0_12 h0_13 h0_14 h0_15 h0_16 h0_17 h0_18 h0_19 h0_20 h0_21 h0_22 m_939 m_940 h0_25 h0_26 m_941 m_942 h0_29 h0_30 u_937) H := hP1
      have hD : va_D A (lwO cI h0 h0_1 h0_2 h0_3 h0_4 h0_5 h0_6 h0_7 h0_8 h0_9 h0_10 h0_11 h0_12 h0_13 h0_14 h0_15 h0_16 h0_17 h0_18 h0_19 h0_20 h0_21 h0_22 m_939 m_940 h0_25 h0_26 m_941 m_942 h0_29 h0_30 u_937) := hD1.weaken (fun _ _ _ h => hFc _ h)
      refine W.widen (k := 369) (n := 21512) (Nat.le_of_ble_eq_true rfl) (Nat.le_of_ble_eq_true rfl) ?_
      obtain ⟨ht_, hf_⟩ := h
      refine lv_if_ne (tgt := 221) hx hb dL_bounds_216 (by decide) (fun c_943 => ?_) (fun c_943 => ?_)
      · have h := ht_ c_943
        refine lv_iinc (v := (34 : Int32)) (lv' := [(2, .int (34 : Int32)), (1, .ref h0)]) hx hb dL_bounds_221 hl (k := 0) rfl (by decide) (by decide) rfl (fun ls hl => ?_)
        refine lv_goto (tgt := 197) hx hb dL_bounds_224 (by decide) ?_
        refine lv_iload_n hx hb dL_bounds_197 rfl (lv_at hl 0 rfl) ?_
        refine lv_bipush (v := (40 : Int32)) hx hb dL_bounds_198 (by decide) ?_
        refine lv_icmp_ge (tgt := 227) hx hb dL_bounds_200 (by decide) (fun c_944 => absurd c_944 (by decide)) (fun c_944 => ?_)
        refine lv_aload_n hx hb dL_bounds_203 rfl (lv_at hl 1 rfl) ?_
        refine lv_iconst (v := (2 : Int32)) hx hb dL_bounds_204 (by decide) ?_
        refine lv_iload_n hx hb dL_bounds_205 rfl (lv_at hl 0 rfl) ?_
        refine lv_imul hx hb dL_bounds_206 ?_
        refine lv_lit (b := (68 : Int32)) (by decide) ?_
        refine lv_iconst (v := (2 : Int32)) hx hb dL_bounds_207 (by decide) ?_
        refine lv_iload_n hx hb dL_bounds_208 rfl (lv_at hl 0 rfl) ?_
        refine lv_imul hx hb dL_bounds_209 ?_
        refine lv_lit (b := (68 : Int32)) (by decide) ?_
        refine lv_iconst (v := (2 : Int32)) hx hb dL_bounds_210 (by decide) ?_
        refine lv_iload_n hx hb dL_bounds_211 rfl (lv_at hl 0 rfl) ?_
        refine lv_imul hx hb dL_bounds_212 ?_
        refine lv_lit (b := (68 : Int32)) (by decide) ?_
        have hFc := frw hD hS hA
        refine vx_calli (vx_runV (As := [.int (68 : Int32), .int (68 : Int32), .int (68 : Int32)]) (rest := []) ⟨hx, hb, hml, hown, hts⟩ (c_X7_state l hst dC dI cI h0 h0_1 h0_2 h0_3 h0_4 h0_5 h0_6 h0_7 h0_8 h0_9 h0_10 h0_11 h0_12 h0_13 h0_14 h0_15 h0_16 h0_17 h0_18 h0_19 h0_20 h0_21 h0_22 m_939 m_940 h0_25 h0_26 m_941 m_942 h0_29 h0_30 _ u_937 (68 : Int32) (68 : Int32) (68 : Int32) _ _ h) (cwV 3 hts (goodIn_up gB_X7_state) rfl rfl rfl (by decide +kernel) ⟨Nat.le_of_ble_eq_true rfl, Nat.le_of_ble_eq_true rfl⟩) (pbj_V hP hK hD hN hX hFc hS (ci := 7) (q0 := 0) rfl rfl) rfl rfl hl.1 rfl (lv_room (Nat.le_of_ble_eq_true rfl)) dL_bounds_213 ⟨Nat.le_of_ble_eq_true rfl, Nat.le_of_ble_eq_true rfl⟩) hS (fun q _ h => hFc q h) hFc (fun q _ h => hFc q h) (fun E9 ce9 q9 u t H locs ht hvm h hB hz1 hk1 hS hce hcv hcl => (show False from h).elim) (fun r_946 u_945 t H locs ht hvm h hB hz1 hk1 hS => ?_)
        obtain ⟨m_947, m_948, m_949, m_950, hP1, hD1⟩ := hB
        rw [ht] at hP1
        have hP : va_P (dC, dI) vwCl (lwO cI h0 h0_1 h0_2 h0_3 h0_4 h0_5 h0_6 h0_7 h0_8 h0_9 h0_10 h0_11 h0_12 h0_13 h0_14 h0_15 h0_16 h0_17 h0_18 h0_19 h0_20 h0_21 h0_22 m_947 m_948 h0_25 h0_26 m_949 m_950 h0_29 h0_30 u_945) H := hP1
        have hD : va_D A (lwO cI h0 h0_1 h0_2 h0_3 h0_4 h0_5 h0_6 h0_7 h0_8 h0_9 h0_10 h0_11 h0_12 h0_13 h0_14 h0_15 h0_16 h0_17 h0_18 h0_19 h0_20 h0_21 h0_22 m_947 m_948 h0_25 h0_26 m_949 m_950 h0_29 h0_30 u_945) := hD1.weaken (fun _ _ _ h => hFc _ h)
        refine W.widen (k := 370) (n := 21518) (Nat.le_of_ble_eq_true rfl) (Nat.le_of_ble_eq_true rfl) ?_
        obtain ⟨ht_, hf_⟩ := h
        refine lv_if_ne (tgt := 221) hx hb dL_bounds_216 (by decide) (fun c_951 => ?_) (fun c_951 => ?_)
        · have h := ht_ c_951
          refine lv_iinc (v := (35 : Int32)) (lv' := [(2, .int (35 : Int32)), (1, .ref h0)]) hx hb dL_bounds_221 hl (k := 0) rfl (by decide) (by decide) rfl (fun ls hl => ?_)
          refine lv_goto (tgt := 197) hx hb dL_bounds_224 (by decide) ?_
          refine lv_iload_n hx hb dL_bounds_197 rfl (lv_at hl 0 rfl) ?_
          refine lv_bipush (v := (40 : Int32)) hx hb dL_bounds_198 (by decide) ?_
          refine lv_icmp_ge (tgt := 227) hx hb dL_bounds_200 (by decide) (fun c_952 => absurd c_952 (by decide)) (fun c_952 => ?_)
          refine lv_aload_n hx hb dL_bounds_203 rfl (lv_at hl 1 rfl) ?_
          refine lv_iconst (v := (2 : Int32)) hx hb dL_bounds_204 (by decide) ?_
          refine lv_iload_n hx hb dL_bounds_205 rfl (lv_at hl 0 rfl) ?_
          refine lv_imul hx hb dL_bounds_206 ?_
          refine lv_lit (b := (70 : Int32)) (by decide) ?_
          refine lv_iconst (v := (2 : Int32)) hx hb dL_bounds_207 (by decide) ?_
          refine lv_iload_n hx hb dL_bounds_208 rfl (lv_at hl 0 rfl) ?_
          refine lv_imul hx hb dL_bounds_209 ?_
          refine lv_lit (b := (70 : Int32)) (by decide) ?_
          refine lv_iconst (v := (2 : Int32)) hx hb dL_bounds_210 (by decide) ?_
          refine lv_iload_n hx hb dL_bounds_211 rfl (lv_at hl 0 rfl) ?_
          refine lv_imul hx hb dL_bounds_212 ?_
          refine lv_lit (b := (70 : Int32)) (by decide) ?_
          have hFc := frw hD hS hA
          refine vx_calli (vx_runV (As := [.int (70 : Int32), .int (70 : Int32), .int (70 : Int32)]) (rest := []) ⟨hx, hb, hml, hown, hts⟩ (c_X7_state l hst dC dI cI h0 h0_1 h0_2 h0_3 h0_4 h0_5 h0_6 h0_7 h0_8 h0_9 h0_10 h0_11 h0_12 h0_13 h0_14 h0_15 h0_16 h0_17 h0_18 h0_19 h0_20 h0_21 h0_22 m_947 m_948 h0_25 h0_26 m_949 m_950 h0_29 h0_30 _ u_945 (70 : Int32) (70 : Int32) (70 : Int32) _ _ h) (cwV 3 hts (goodIn_up gB_X7_state) rfl rfl rfl (by decide +kernel) ⟨Nat.le_of_ble_eq_true rfl, Nat.le_of_ble_eq_true rfl⟩) (pbj_V hP hK hD hN hX hFc hS (ci := 7) (q0 := 0) rfl rfl) rfl rfl hl.1 rfl (lv_room (Nat.le_of_ble_eq_true rfl)) dL_bounds_213 ⟨Nat.le_of_ble_eq_true rfl, Nat.le_of_ble_eq_true rfl⟩) hS (fun q _ h => hFc q h) hFc (fun q _ h => hFc q h) (fun E9 ce9 q9 u t H locs ht hvm h hB hz1 hk1 hS hce hcv hcl => (show False from h).elim) (fun r_954 u_953 t H locs ht hvm h hB hz1 hk1 hS => ?_)
          obtain ⟨m_955, m_956, m_957, m_958, hP1, hD1⟩ := hB
          rw [ht] at hP1
          have hP : va_P (dC, dI) vwCl (lwO cI h0 h0_1 h0_2 h0_3 h0_4 h0_5 h0_6 h0_7 h0_8 h0_9 h0_10 h0_11 h0_12 h0_13 h0_14 h0_15 h0_16 h0_17 h0_18 h0_19 h0_20 h0_21 h0_22 m_955 m_956 h0_25 h0_26 m_957 m_958 h0_29 h0_30 u_953) H := hP1
          have hD : va_D A (lwO cI h0 h0_1 h0_2 h0_3 h0_4 h0_5 h0_6 h0_7 h0_8 h0_9 h0_10 h0_11 h0_12 h0_13 h0_14 h0_15 h0_16 h0_17 h0_18 h0_19 h0_20 h0_21 h0_22 m_955 m_956 h0_25 h0_26 m_957 m_958 h0_29 h0_30 u_953) := hD1.weaken (fun _ _ _ h => hFc _ h)
          refine W.widen (k := 371) (n := 21524) (Nat.le_of_ble_eq_true rfl) (Nat.le_of_ble_eq_true rfl) ?_
          obtain ⟨ht_, hf_⟩ := h
          refine lv_if_ne (tgt := 221) hx hb dL_bounds_216 (by decide) (fun c_959 => ?_) (fun c_959 => ?_)
          · have h := ht_ c_959
            refine lv_iinc (v := (36 : Int32)) (lv' := [(2, .int (36 : Int32)), (1, .ref h0)]) hx hb dL_bounds_221 hl (k := 0) rfl (by decide) (by decide) rfl (fun ls hl => ?_)
            refine lv_goto (tgt := 197) hx hb dL_bounds_224 (by decide) ?_
            refine lv_iload_n hx hb dL_bounds_197 rfl (lv_at hl 0 rfl) ?_
            refine lv_bipush (v := (40 : Int32)) hx hb dL_bounds_198 (by decide) ?_
            refine lv_icmp_ge (tgt := 227) hx hb dL_bounds_200 (by decide) (fun c_960 => absurd c_960 (by decide)) (fun c_960 => ?_)
            refine lv_aload_n hx hb dL_bounds_203 rfl (lv_at hl 1 rfl) ?_
            refine lv_iconst (v := (2 : Int32)) hx hb dL_bounds_204 (by decide) ?_
            refine lv_iload_n hx hb dL_bounds_205 rfl (lv_at hl 0 rfl) ?_
            refine lv_imul hx hb dL_bounds_206 ?_
            refine lv_lit (b := (72 : Int32)) (by decide) ?_
            refine lv_iconst (v := (2 : Int32)) hx hb dL_bounds_207 (by decide) ?_
            refine lv_iload_n hx hb dL_bounds_208 rfl (lv_at hl 0 rfl) ?_
            refine lv_imul hx hb dL_bounds_209 ?_
            refine lv_lit (b := (72 : Int32)) (by decide) ?_
            refine lv_iconst (v := (2 : Int32)) hx hb dL_bounds_210 (by decide) ?_
            refine lv_iload_n hx hb dL_bounds_211 rfl (lv_at hl 0 rfl) ?_
            refine lv_imul hx hb dL_bounds_212 ?_
            refine lv_lit (b := (72 : Int32)) (by decide) ?_
            have hFc := frw hD hS hA
            refine vx_calli (vx_runV (As := [.int (72 : Int32), .int (72 : Int32), .int (72 : Int32)]) (rest := []) ⟨hx, hb, hml, hown, hts⟩ (c_X7_state l hst dC dI cI h0 h0_1 h0_2 h0_3 h0_4 h0_5 h0_6 h0_7 h0_8 h0_9 h0_10 h0_11 h0_12 h0_13 h0_14 h0_15 h0_16 h0_17 h0_18 h0_19 h0_20 h0_21 h0_22 m_955 m_956 h0_25 h0_26 m_957 m_958 h0_29 h0_30 _ u_953 (72 : Int32) (72 : Int32) (72 : Int32) _ _ h) (cwV 3 hts (goodIn_up gB_X7_state) rfl rfl rfl (by decide +kernel) ⟨Nat.le_of_ble_eq_true rfl, Nat.le_of_ble_eq_true rfl⟩) (pbj_V hP hK hD hN hX hFc hS (ci := 7) (q0 := 0) rfl rfl) rfl rfl hl.1 rfl (lv_room (Nat.le_of_ble_eq_true rfl)) dL_bounds_213 ⟨Nat.le_of_ble_eq_true rfl, Nat.le_of_ble_eq_true rfl⟩) hS (fun q _ h => hFc q h) hFc (fun q _ h => hFc q h) (fun E9 ce9 q9 u t H locs ht hvm h hB hz1 hk1 hS hce hcv hcl => (show False from h).elim) (fun r_962 u_961 t H locs ht hvm h hB hz1 hk1 hS => ?_)
            obtain ⟨m_963, m_964, m_965, m_966, hP1, hD1⟩ := hB
            rw [ht] at hP1
            have hP : va_P (dC, dI) vwCl (lwO cI h0 h0_1 h0_2 h0_3 h0_4 h0_5 h0_6 h0_7 h0_8 h0_9 h0_10 h0_11 h0_12 h0_13 h0_14 h0_15 h0_16 h0_17 h0_18 h0_19 h0_20 h0_21 h0_22 m_963 m_964 h0_25 h0_26 m_965 m_966 h0_29 h0_30 u_961) H := hP1
            have hD : va_D A (lwO cI h0 h0_1 h0_2 h0_3 h0_4 h0_5 h0_6 h0_7 h0_8 h0_9 h0_10 h0_11 h0_12 h0_13 h0_14 h0_15 h0_16 h0_17 h0_18 h0_19 h0_20 h0_21 h0_22 m_963 m_964 h0_25 h0_26 m_965 m_966 h0_29 h0_30 u_961) := hD1.weaken (fun _ _ _ h => hFc _ h)
            refine W.widen (k := 372) (n := 21530) (Nat.le_of_ble_eq_true rfl) (Nat.le_of_ble_eq_true rfl) ?_
            obtain ⟨ht_, hf_⟩ := h
            refine lv_if_ne (tgt := 221) hx hb dL_bounds_216 (by decide) (fun c_967 => ?_) (fun c_967 => ?_)
            · have h := ht_ c_967
              refine lv_iinc (v := (37 : Int32)) (lv' := [(2, .int (37 : Int32)), (1, .ref h0)]) hx hb dL_bounds_221 hl (k := 0) rfl (by decide) (by decide) rfl (fun ls hl => ?_)
              refine lv_goto (tgt := 197) hx hb dL_bounds_224 (by decide) ?_
              refine lv_iload_n hx hb dL_bounds_197 rfl (lv_at hl 0 rfl) ?_
              refine lv_bipush (v := (40 : Int32)) hx hb dL_bounds_198 (by decide) ?_
              refine lv_icmp_ge (tgt := 227) hx hb dL_bounds_200 (by decide) (fun c_968 => absurd c_968 (by decide)) (fun c_968 => ?_)
              refine lv_aload_n hx hb dL_bounds_203 rfl (lv_at hl 1 rfl) ?_
              refine lv_iconst (v := (2 : Int32)) hx hb dL_bounds_204 (by decide) ?_
              refine lv_iload_n hx hb dL_bounds_205 rfl (lv_at hl 0 rfl) ?_
              refine lv_imul hx hb dL_bounds_206 ?_
              refine lv_lit (b := (74 : Int32)) (by decide) ?_
              refine lv_iconst (v := (2 : Int32)) hx hb dL_bounds_207 (by decide) ?_
              refine lv_iload_n hx hb dL_bounds_208 rfl (lv_at hl 0 rfl) ?_
              refine lv_imul hx hb dL_bounds_209 ?_
              refine lv_lit (b := (74 : Int32)) (by decide) ?_
              refine lv_iconst (v := (2 : Int32)) hx hb dL_bounds_210 (by decide) ?_
              refine lv_iload_n hx hb dL_bounds_211 rfl (lv_at hl 0 rfl) ?_
              refine lv_imul hx hb dL_bounds_212 ?_
              refine lv_lit (b := (74 : Int32)) (by decide) ?_
              have hFc := frw hD hS hA
              refine vx_calli (vx_runV (As := [.int (74 : Int32), .int (74 : Int32), .int (74 : Int32)]) (rest := []) ⟨hx, hb, hml, hown, hts⟩ (c_X7_state l hst dC dI cI h0 h0_1 h0_2 h0_3 h0_4 h0_5 h0_6 h0_7 h0_8 h0_9 h0_10 h0_11 h0_12 h0_13 h0_14 h0_15 h0_16 h0_17 h0_18 h0_19 h0_20 h0_21 h0_22 m_963 m_964 h0_25 h0_26 m_965 m_966 h0_29 h0_30 _ u_961 (74 : Int32) (74 : Int32) (74 : Int32) _ _ h) (cwV 3 hts (goodIn_up gB_X7_state) rfl rfl rfl (by decide +kernel) ⟨Nat.le_of_ble_eq_true rfl, Nat.le_of_ble_eq_true rfl⟩) (pbj_V hP hK hD hN hX hFc hS (ci := 7) (q0 := 0) rfl rfl) rfl rfl hl.1 rfl (lv_room (Nat.le_of_ble_eq_true rfl)) dL_bounds_213 ⟨Nat.le_of_ble_eq_true rfl, Nat.le_of_ble_eq_true rfl⟩) hS (fun q _ h => hFc q h) hFc (fun q _ h => hFc q h) (fun E9 ce9 q9 u t H locs ht hvm h hB hz1 hk1 hS hce hcv hcl => (show False from h).elim) (fun r_970 u_969 t H locs ht hvm h hB hz1 hk1 hS => ?_)
              obtain ⟨m_971, m_972, m_973, m_974, hP1, hD1⟩ := hB
              rw [ht] at hP1
              have hP : va_P (dC, dI) vwCl (lwO cI h0 h0_1 h0_2 h0_3 h0_4 h0_5 h0_6 h0_7 h0_8 h0_9 h0_10 h0_11 h0_12 h0_13 h0_14 h0_15 h0_16 h0_17 h0_18 h0_19 h0_20 h0_21 h0_22 m_971 m_972 h0_25 h0_26 m_973 m_974 h0_29 h0_30 u_969) H := hP1
              have hD : va_D A (lwO cI h0 h0_1 h0_2 h0_3 h0_4 h0_5 h0_6 h0_7 h0_8 h0_9 h0_10 h0_11 h0_12 h0_13 h0_14 h0_15 h0_16 h0_17 h0_18 h0_19 h0_20 h0_21 h0_22 m_971 m_972 h0_25 h0_26 m_973 m_974 h0_29 h0_30 u_969) := hD1.weaken (fun _ _ _ h => hFc _ h)
              refine W.widen (k := 373) (n := 21536) (Nat.le_of_ble_eq_true rfl) (Nat.le_of_ble_eq_true rfl) ?_
              obtain ⟨ht_, hf_⟩ := h
              refine lv_if_ne (tgt := 221) hx hb dL_bounds_216 (by decide) (fun c_975 => ?_) (fun c_975 => ?_)
              · have h := ht_ c_975
                have hl : lv_has ls 3 [(1, .ref h0), (2, .int (37 : Int32))] := lv_sub hl [1, 0] rfl
                refine W.widen (k := 373) (n := 21536) (Nat.le_of_ble_eq_true rfl) (Nat.le_of_ble_eq_true rfl) ?_
                exact sg_L_bounds_16 l hst C0 hK hN hX hC hA h0 h0_1 h0_2 h0_3 h0_4 h0_5 h0_6 h0_7 h0_8 h0_9 h0_10 h0_11 h0_12 h0_13 h0_14 h0_15 h0_16 h0_17 h0_18 h0_19 h0_20 h0_21 h0_22 h0_25 h0_26 h0_29 h0_30 _ u_969 h m_971 m_972 m_973 m_974 _ _ hP hD hS _ hl
              · have h := hf_ c_975
                exact (show False from h).elim
            · have h := hf_ c_967
              exact (show False from h).elim
          · have h := hf_ c_959
            exact (show False from h).elim
        · have h := hf_ c_951
          exact (show False from h).elim
      · have h := hf_ c_943
        exact (show False from h).elim
    · have h := hf_ c_935
      exact (show False from h).elim
  · have h := hf_ c_927
    exact (show False from h).elim
