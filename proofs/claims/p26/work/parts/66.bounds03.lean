set_option maxHeartbeats 4000000 in
set_option maxRecDepth 100000 in
theorem sg_L_bounds_11 (l : Launch) (hst : l.stackTraces = false) {p : Program} {e : Env} {s : State} {m : MethodId} {below : List Frame} {meth : Method} {c : Code} (C0 : LC p s m (([] : List Value).toArray) meth c cL_bounds 3 wq_bounds) {dC : Nat → ClassId} {dI : Nat → Nat → Nat} {cI : ClassId} (hK : va_K (dC, dI) vwCl [(cI, .int)] s) (hN : nk s) {A : Nat → Prop} (hX : xj A s) (hC : xnc s) (hA : ∀ q : Nat, s.heap.size ≤ q → A q) (h0 h0_1 h0_2 h0_3 h0_4 h0_5 h0_6 h0_7 h0_8 h0_9 h0_10 h0_11 h0_12 h0_13 h0_14 h0_15 h0_16 h0_17 h0_18 h0_19 h0_20 h0_21 h0_22 h0_25 h0_26 h0_29 h0_30 : Nat) (post : Int32 → Prop) (s0 : TriS) (h : P_L_bounds_11 s0 post) (h0_23 h0_24 h0_27 h0_28 : Nat) (H : Heap) (locs : List Loc) (hP : va_P (dC, dI) vwCl (lwO cI h0 h0_1 h0_2 h0_3 h0_4 h0_5 h0_6 h0_7 h0_8 h0_9 h0_10 h0_11 h0_12 h0_13 h0_14 h0_15 h0_16 h0_17 h0_18 h0_19 h0_20 h0_21 h0_22 h0_23 h0_24 h0_25 h0_26 h0_27 h0_28 h0_29 h0_30 s0) H) (hD : va_D A (lwO cI h0 h0_1 h0_2 h0_3 h0_4 h0_5 h0_6 h0_7 h0_8 h0_9 h0_10 h0_11 h0_12 h0_13 h0_14 h0_15 h0_16 h0_17 h0_18 h0_19 h0_20 h0_21 h0_22 h0_23 h0_24 h0_25 h0_26 h0_27 h0_28 h0_29 h0_30 s0)) (hS : va_S A s.heap H locs) (ls : Array Slot) (hl : lv_has ls 3 [(1, .ref h0), (2, .int (2 : Int32))]) : W p l e rm_L_bounds s m (([] : List Value).toArray) below meth c H locs 338 21326 (MQ below (Q_L_bounds dC dI cI A post) (([] : List Value).toArray) s mc_L_bounds ms_L_bounds A) (F0 m 221 ls []) := by
  obtain ⟨hx, hb, hr, hml, hown, hts, hlocks⟩ := id C0
  refine lv_iinc (v := (3 : Int32)) (lv' := [(2, .int (3 : Int32)), (1, .ref h0)]) hx hb dL_bounds_221 hl (k := 1) rfl (by decide) (by decide) rfl (fun ls hl => ?_)
  refine lv_goto (tgt := 197) hx hb dL_bounds_224 (by decide) ?_
  refine lv_iload_n hx hb dL_bounds_197 rfl (lv_at hl 0 rfl) ?_
  refine lv_bipush (v := (40 : Int32)) hx hb dL_bounds_198 (by decide) ?_
  refine lv_icmp_ge (tgt := 227) hx hb dL_bounds_200 (by decide) (fun c_696 => absurd c_696 (by decide)) (fun c_696 => ?_)
  refine lv_aload_n hx hb dL_bounds_203 rfl (lv_at hl 1 rfl) ?_
  refine lv_iconst (v := (2 : Int32)) hx hb dL_bounds_204 (by decide) ?_
  refine lv_iload_n hx hb dL_bounds_205 rfl (lv_at hl 0 rfl) ?_
  refine lv_imul hx hb dL_bounds_206 ?_
  refine lv_lit (b := (6 : Int32)) (by decide) ?_
  refine lv_iconst (v := (2 : Int32)) hx hb dL_bounds_207 (by decide) ?_
  refine lv_iload_n hx hb dL_bounds_208 rfl (lv_at hl 0 rfl) ?_
  refine lv_imul hx hb dL_bounds_209 ?_
  refine lv_lit (b := (6 : Int32)) (by decide) ?_
  refine lv_iconst (v := (2 : Int32)) hx hb dL_bounds_210 (by decide) ?_
  refine lv_iload_n hx hb dL_bounds_211 rfl (lv_at hl 0 rfl) ?_
  refine lv_imul hx hb dL_bounds_212 ?_
  refine lv_lit (b := (6 : Int32)) (by decide) ?_
  have hFc := frw hD hS hA
  refine vx_calli (vx_runV (As := [.int (6 : Int32), .int (6 : Int32), .int (6 : Int32)]) (rest := []) ⟨hx, hb, hml, hown, hts⟩ (c_X7_state l hst dC dI cI h0 h0_1 h0_2 h0_3 h0_4 h0_5 h0_6 h0_7 h0_8 h0_9 h0_10 h0_11 h0_12 h0_13 h0_14 h0_15 h0_16 h0_17 h0_18 h0_19 h0_20 h0_21 h0_22 h0_23 h0_24 h0_25 h0_26 h0_27 h0_28 h0_29 h0_30 _ s0 (6 : Int32) (6 : Int32) (6 : Int32) _ _ h) (cwV 3 hts (goodIn_up gB_X7_state) rfl rfl rfl (by decide +kernel) ⟨Nat.le_of_ble_eq_true rfl, Nat.le_of_ble_eq_true rfl⟩) (pbj_V hP hK hD hN hX hFc hS (ci := 7) (q0 := 0) rfl rfl) rfl rfl hl.1 rfl (lv_room (Nat.le_of_ble_eq_true rfl)) dL_bounds_213 ⟨Nat.le_of_ble_eq_true rfl, Nat.le_of_ble_eq_true rfl⟩) hS (fun q _ h => hFc q h) hFc (fun q _ h => hFc q h) (fun E9 ce9 q9 u t H locs ht hvm h hB hz1 hk1 hS hce hcv hcl => (show False from h).elim) (fun r_698 u_697 t H locs ht hvm h hB hz1 hk1 hS => ?_)
  obtain ⟨m_699, m_700, m_701, m_702, hP1, hD1⟩ := hB
  rw [ht] at hP1
  have hP : va_P (dC, dI) vwCl (lwO cI h0 h0_1 h0_2 h0_3 h0_4 h0_5 h0_6 h0_7 h0_8 h0_9 h0_10 h0_11 h0_12 h0_13 h0_14 h0_15 h0_16 h0_17 h0_18 h0_19 h0_20 h0_21 h0_22 m_699 m_700 h0_25 h0_26 m_701 m_702 h0_29 h0_30 u_697) H := hP1
  have hD : va_D A (lwO cI h0 h0_1 h0_2 h0_3 h0_4 h0_5 h0_6 h0_7 h0_8 h0_9 h0_10 h0_11 h0_12 h0_13 h0_14 h0_15 h0_16 h0_17 h0_18 h0_19 h0_20 h0_21 h0_22 m_699 m_700 h0_25 h0_26 m_701 m_702 h0_29 h0_30 u_697) := hD1.weaken (fun _ _ _ h => hFc _ h)
  refine W.widen (k := 339) (n := 21332) (Nat.le_of_ble_eq_true rfl) (Nat.le_of_ble_eq_true rfl) ?_
  obtain ⟨ht_, hf_⟩ := h
  refine lv_if_ne (tgt := 221) hx hb dL_bounds_216 (by decide) (fun c_703 => ?_) (fun c_703 => ?_)
  · have h := ht_ c_703
    refine lv_iinc (v := (4 : Int32)) (lv' := [(2, .int (4 : Int32)), (1, .ref h0)]) hx hb dL_bounds_221 hl (k := 0) rfl (by decide) (by decide) rfl (fun ls hl => ?_)
    refine lv_goto (tgt := 197) hx hb dL_bounds_224 (by decide) ?_
    refine lv_iload_n hx hb dL_bounds_197 rfl (lv_at hl 0 rfl) ?_
    refine lv_bipush (v := (40 : Int32)) hx hb dL_bounds_198 (by decide) ?_
    refine lv_icmp_ge (tgt := 227) hx hb dL_bounds_200 (by decide) (fun c_704 => absurd c_704 (by decide)) (fun c_704 => ?_)
    refine lv_aload_n hx hb dL_bounds_203 rfl (lv_at hl 1 rfl) ?_
    refine lv_iconst (v := (2 : Int32)) hx hb dL_bounds_204 (by decide) ?_
    refine lv_iload_n hx hb dL_bounds_205 rfl (lv_at hl 0 rfl) ?_
    refine lv_imul hx hb dL_bounds_206 ?_
    refine lv_lit (b := (8 : Int32)) (by decide) ?_
    refine lv_iconst (v := (2 : Int32)) hx hb dL_bounds_207 (by decide) ?_
    refine lv_iload_n hx hb dL_bounds_208 rfl (lv_at hl 0 rfl) ?_
    refine lv_imul hx hb dL_bounds_209 ?_
    refine lv_lit (b := (8 : Int32)) (by decide) ?_
    refine lv_iconst (v := (2 : Int32)) hx hb dL_bounds_210 (by decide) ?_
    refine lv_iload_n hx hb dL_bounds_211 rfl (lv_at hl 0 rfl) ?_
    refine lv_imul hx hb dL_bounds_212 ?_
    refine lv_lit (b := (8 : Int32)) (by decide) ?_
    have hFc := frw hD hS hA
    refine vx_calli (vx_runV (As := [.int (8 : Int32), .int (8 : Int32), .int (8 : Int32)]) (rest := []) ⟨hx, hb, hml, hown, hts⟩ (c_X7_state l hst dC dI cI h0 h0_1 h0_2 h0_3 h0_4 h0_5 h0_6 h0_7 h0_8 h0_9 h0_10 h0_11 h0_12 h0_13 h0_14 h0_15 h0_16 h0_17 h0_18 h0_19 h0_20 h0_21 h0_22 m_699 m_700 h0_25 h0_26 m_701 m_702 h0_29 h0_30 _ u_697 (8 : Int32) (8 : Int32) (8 : Int32) _ _ h) (cwV 3 hts (goodIn_up gB_X7_state) rfl rfl rfl (by decide +kernel) ⟨Nat.le_of_ble_eq_true rfl, Nat.le_of_ble_eq_true rfl⟩) (pbj_V hP hK hD hN hX hFc hS (ci := 7) (q0 := 0) rfl rfl) rfl rfl hl.1 rfl (lv_room (Nat.le_of_ble_eq_true rfl)) dL_bounds_213 ⟨Nat.le_of_ble_eq_true rfl, Nat.le_of_ble_eq_true rfl⟩) hS (fun q _ h => hFc q h) hFc (fun q _ h => hFc q h) (fun E9 ce9 q9 u t H locs ht hvm h hB hz1 hk1 hS hce hcv hcl => (show False from h).elim) (fun r_706 u_705 t H locs ht hvm h hB hz1 hk1 hS => ?_)
    obtain ⟨m_707, m_708, m_709, m_710, hP1, hD1⟩ := hB
    rw [ht] at hP1
    have hP : va_P (dC, dI) vwCl (lwO cI h0 h0_1 h0_2 h0_3 h0_4 h0_5 h0_6 h0_7 h0_8 h0_9 h0_10 h0_11 h0_12 h0_13 h0_14 h0_15 h0_16 h0_17 h0_18 h0_19 h0_20 h0_21 h0_22 m_707 m_708 h0_25 h0_26 m_709 m_710 h0_29 h0_30 u_705) H := hP1
    have hD : va_D A (lwO cI h0 h0_1 h0_2 h0_3 h0_4 h0_5 h0_6 h0_7 h0_8 h0_9 h0_10 h0_11 h0_12 h0_13 h0_14 h0_15 h0_16 h0_17 h0_18 h0_19 h0_20 h0_21 h0_22 m_707 m_708 h0_25 h0_26 m_709 m_710 h0_29 h0_30 u_705) := hD1.weaken (fun _ _ _ h => hFc _ h)
    refine W.widen (k := 340) (n := 21338) (Nat.le_of_ble_eq_true rfl) (Nat.le_of_ble_eq_true rfl) ?_
    obtain ⟨ht_, hf_⟩ := h
    refine lv_if_ne (tgt := 221) hx hb dL_bounds_216 (by decide) (fun c_711 => ?_) (fun c_711 => ?_)
    · have h := ht_ c_711
      refine lv_iinc (v := (5 : Int32)) (lv' := [(2, .int (5 : Int32)), (1, .ref h0)]) hx hb dL_bounds_221 hl (k := 0) rfl (by decide) (by decide) rfl (fun ls hl => ?_)
      refine lv_goto (tgt := 197) hx hb dL_bounds_224 (by decide) ?_
      refine lv_iload_n hx hb dL_bounds_197 rfl (lv_at hl 0 rfl) ?_
      refine lv_bipush (v := (40 : Int32)) hx hb dL_bounds_198 (by decide) ?_
      refine lv_icmp_ge (tgt := 227) hx hb dL_bounds_200 (by decide) (fun c_712 => absurd c_712 (by decide)) (fun c_712 => ?_)
      refine lv_aload_n hx hb dL_bounds_203 rfl (lv_at hl 1 rfl) ?_
      refine lv_iconst (v := (2 : Int32)) hx hb dL_bounds_204 (by decide) ?_
      refine lv_iload_n hx hb dL_bounds_205 rfl (lv_at hl 0 rfl) ?_
      refine lv_imul hx hb dL_bounds_206 ?_
      refine lv_lit (b := (10 : Int32)) (by decide) ?_
      refine lv_iconst (v := (2 : Int32)) hx hb dL_bounds_207 (by decide) ?_
      refine lv_iload_n hx hb dL_bounds_208 rfl (lv_at hl 0 rfl) ?_
      refine lv_imul hx hb dL_bounds_209 ?_
      refine lv_lit (b := (10 : Int32)) (by decide) ?_
      refine lv_iconst (v := (2 : Int32)) hx hb dL_bounds_210 (by decide) ?_
      refine lv_iload_n hx hb dL_bounds_211 rfl (lv_at hl 0 rfl) ?_
      refine lv_imul hx hb dL_bounds_212 ?_
      refine lv_lit (b := (10 : Int32)) (by decide) ?_
      have hFc := frw hD hS hA
      refine vx_calli (vx_runV (As := [.int (10 : Int32), .int (10 : Int32), .int (10 : Int32)]) (rest := []) ⟨hx, hb, hml, hown, hts⟩ (c_X7_state l hst dC dI cI h0 h0_1 h0_2 h0_3 h0_4 h0_5 h0_6 h0_7 h0_8 h0_9 h0_10 h0_11 h0_12 h0_13 h0_14 h0_15 h0_16 h0_17 h0_18 h0_19 h0_20 h0_21 h0_22 m_707 m_708 h0_25 h0_26 m_709 m_710 h0_29 h0_30 _ u_705 (10 : Int32) (10 : Int32) (10 : Int32) _ _ h) (cwV 3 hts (goodIn_up gB_X7_state) rfl rfl rfl (by decide +kernel) ⟨Nat.le_of_ble_eq_true rfl, Nat.le_of_ble_eq_true rfl⟩) (pbj_V hP hK hD hN hX hFc hS (ci := 7) (q0 := 0) rfl rfl) rfl rfl hl.1 rfl (lv_room (Nat.le_of_ble_eq_true rfl)) dL_bounds_213 ⟨Nat.le_of_ble_eq_true rfl, Nat.le_of_ble_eq_true rfl⟩) hS (fun q _ h => hFc q h) hFc (fun q _ h => hFc q h) (fun E9 ce9 q9 u t H locs ht hvm h hB hz1 hk1 hS hce hcv hcl => (show False from h).elim) (fun r_714 u_713 t H locs ht hvm h hB hz1 hk1 hS => ?_)
      obtain ⟨m_715, m_716, m_717, m_718, hP1, hD1⟩ := hB
      rw [ht] at hP1
      have hP : va_P (dC, dI) vwCl (lwO cI h0 h0_1 h0_2 h0_3 h0_4 h0_5 h0_6 h0_7 h0_8 h0_9 h0_10 h0_11 h0_12 h0_13 h0_14 h0_15 h0_16 h0_17 h0_18 h0_19 h0_20 h0_21 h0_22 m_715 m_716 h0_25 h0_26 m_717 m_718 h0_29 h0_30 u_713) H := hP1
      have hD : va_D A (lwO cI h0 h0_1 h0_2 h0_3 h0_4 h0_5 h0_6 h0_7 h0_8 h0_9 h0_10 h0_11 h0_12 h0_13 h0_14 h0_15 h0_16 h0_17 h0_18 h0_19 h0_20 h0_21 h0_22 m_715 m_716 h0_25 h0_26 m_717 m_718 h0_29 h0_30 u_713) := hD1.weaken (fun _ _ _ h => hFc _ h)
      refine W.widen (k := 341) (n := 21344) (Nat.le_of_ble_eq_true rfl) (Nat.le_of_ble_eq_true rfl) ?_
      obtain ⟨ht_, hf_⟩ := h
      refine lv_if_ne (tgt := 221) hx hb dL_bounds_216 (by decide) (fun c_719 => ?_) (fun c_719 => ?_)
      · have h := ht_ c_719
        refine lv_iinc (v := (6 : Int32)) (lv' := [(2, .int (6 : Int32)), (1, .ref h0)]) hx hb dL_bounds_221 hl (k := 0) rfl (by decide) (by decide) rfl (fun ls hl => ?_)
        refine lv_goto (tgt := 197) hx hb dL_bounds_224 (by decide) ?_
        refine lv_iload_n hx hb dL_bounds_197 rfl (lv_at hl 0 rfl) ?_
        refine lv_bipush (v := (40 : Int32)) hx hb dL_bounds_198 (by decide) ?_
        refine lv_icmp_ge (tgt := 227) hx hb dL_bounds_200 (by decide) (fun c_720 => absurd c_720 (by decide)) (fun c_720 => ?_)
        refine lv_aload_n hx hb dL_bounds_203 rfl (lv_at hl 1 rfl) ?_
        refine lv_iconst (v := (2 : Int32)) hx hb dL_bounds_204 (by decide) ?_
        refine lv_iload_n hx hb dL_bounds_205 rfl (lv_at hl 0 rfl) ?_
        refine lv_imul hx hb dL_bounds_206 ?_
        refine lv_lit (b := (12 : Int32)) (by decide) ?_
        refine lv_iconst (v := (2 : Int32)) hx hb dL_bounds_207 (by decide) ?_
        refine lv_iload_n hx hb dL_bounds_208 rfl (lv_at hl 0 rfl) ?_
        refine lv_imul hx hb dL_bounds_209 ?_
        refine lv_lit (b := (12 : Int32)) (by decide) ?_
        refine lv_iconst (v := (2 : Int32)) hx hb dL_bounds_210 (by decide) ?_
        refine lv_iload_n hx hb dL_bounds_211 rfl (lv_at hl 0 rfl) ?_
        refine lv_imul hx hb dL_bounds_212 ?_
        refine lv_lit (b := (12 : Int32)) (by decide) ?_
        have hFc := frw hD hS hA
        refine vx_calli (vx_runV (As := [.int (12 : Int32), .int (12 : Int32), .int (12 : Int32)]) (rest := []) ⟨hx, hb, hml, hown, hts⟩ (c_X7_state l hst dC dI cI h0 h0_1 h0_2 h0_3 h0_4 h0_5 h0_6 h0_7 h0_8 h0_9 h0_10 h0_11 h0_12 h0_13 h0_14 h0_15 h0_16 h0_17 h0_18 h0_19 h0_20 h0_21 h0_22 m_715 m_716 h0_25 h0_26 m_717 m_718 h0_29 h0_30 _ u_713 (12 : Int32) (12 : Int32) (12 : Int32) _ _ h) (cwV 3 hts (goodIn_up gB_X7_state) rfl rfl rfl (by decide +kernel) ⟨Nat.le_of_ble_eq_true rfl, Nat.le_of_ble_eq_true rfl⟩) (pbj_V hP hK hD hN hX hFc hS (ci := 7) (q0 := 0) rfl rfl) rfl rfl hl.1 rfl (lv_room (Nat.le_of_ble_eq_true rfl)) dL_bounds_213 ⟨Nat.le_of_ble_eq_true rfl, Nat.le_of_ble_eq_true rfl⟩) hS (fun q _ h => hFc q h) hFc (fun q _ h => hFc q h) (fun E9 ce9 q9 u t H locs ht hvm h hB hz1 hk1 hS hce hcv hcl => (show False from h).elim) (fun r_722 u_721 t H locs ht hvm h hB hz1 hk1 hS => ?_)
        obtain ⟨m_723, m_724, m_725, m_726, hP1, hD1⟩ := hB
        rw [ht] at hP1
        have hP : va_P (dC, dI) vwCl (lwO cI h0 h0_1 h0_2 h0_3 h0_4 h0_5 h0_6 h0_7 h0_8 h0_9 h0_10 h0_11 h0_12 h0_13 h0_14 h0_15 h0_16 h0_17 h0_18 h0_19 h0_20 h0_21 h0_22 m_723 m_724 h0_25 h0_26 m_725 m_726 h0_29 h0_30 u_721) H := hP1
        have hD : va_D A (lwO cI h0 h0_1 h0_2 h0_3 h0_4 h0_5 h0_6 h0_7 h0_8 h0_9 h0_10 h0_11 h0_12 h0_13 h0_14 h0_15 h0_16 h0_17 h0_18 h0_19 h0_20 h0_21 h0_22 m_723 m_724 h0_25 h0_26 m_725 m_726 h0_29 h0_30 u_721) := hD1.weaken (fun _ _ _ h => hFc _ h)
        refine W.widen (k := 342) (n := 21350) (Nat.le_of_ble_eq_true rfl) (Nat.le_of_ble_eq_true rfl) ?_
        obtain ⟨ht_, hf_⟩ := h
        refine lv_if_ne (tgt := 221) hx hb dL_bounds_216 (by decide) (fun c_727 => ?_) (fun c_727 => ?_)
        · have h := ht_ c_727
          refine lv_iinc (v := (7 : Int32)) (lv' := [(2, .int (7 : Int32)), (1, .ref h0)]) hx hb dL_bounds_221 hl (k := 0) rfl (by decide) (by decide) rfl (fun ls hl => ?_)
          refine lv_goto (tgt := 197) hx hb dL_bounds_224 (by decide) ?_
          refine lv_iload_n hx hb dL_bounds_197 rfl (lv_at hl 0 rfl) ?_
          refine lv_bipush (v := (40 : Int32)) hx hb dL_bounds_198 (by decide) ?_
          refine lv_icmp_ge (tgt := 227) hx hb dL_bounds_200 (by decide) (fun c_728 => absurd c_728 (by decide)) (fun c_728 => ?_)
          refine lv_aload_n hx hb dL_bounds_203 rfl (lv_at hl 1 rfl) ?_
          refine lv_iconst (v := (2 : Int32)) hx hb dL_bounds_204 (by decide) ?_
          refine lv_iload_n hx hb dL_bounds_205 rfl (lv_at hl 0 rfl) ?_
          refine lv_imul hx hb dL_bounds_206 ?_
          refine lv_lit (b := (14 : Int32)) (by decide) ?_
          refine lv_iconst (v := (2 : Int32)) hx hb dL_bounds_207 (by decide) ?_
          refine lv_iload_n hx hb dL_bounds_208 rfl (lv_at hl 0 rfl) ?_
          refine lv_imul hx hb dL_bounds_209 ?_
          refine lv_lit (b := (14 : Int32)) (by decide) ?_
          refine lv_iconst (v := (2 : Int32)) hx hb dL_bounds_210 (by decide) ?_
          refine lv_iload_n hx hb dL_bounds_211 rfl (lv_at hl 0 rfl) ?_
          refine lv_imul hx hb dL_bounds_212 ?_
          refine lv_lit (b := (14 : Int32)) (by decide) ?_
          have hFc := frw hD hS hA
          refine vx_calli (vx_runV (As := [.int (14 : Int32), .int (14 : Int32), .int (14 : Int32)]) (rest := []) ⟨hx, hb, hml, hown, hts⟩ (c_X7_state l hst dC dI cI h0 h0_1 h0_2 h0_3 h0_4 h0_5 h0_6 h0_7 h0_8 h0_9 h0_10 h0_11 h0_12 h0_13 h0_14 h0_15 h0_16 h0_17 h0_18 h0_19 h0_20 h0_21 h0_22 m_723 m_724 h0_25 h0_26 m_725 m_726 h0_29 h0_30 _ u_721 (14 : Int32) (14 : Int32) (14 : Int32) _ _ h) (cwV 3 hts (goodIn_up gB_X7_state) rfl rfl rfl (by decide +kernel) ⟨Nat.le_of_ble_eq_true rfl, Nat.le_of_ble_eq_true rfl⟩) (pbj_V hP hK hD hN hX hFc hS (ci := 7) (q0 := 0) rfl rfl) rfl rfl hl.1 rfl (lv_room (Nat.le_of_ble_eq_true rfl)) dL_bounds_213 ⟨Nat.le_of_ble_eq_true rfl, Nat.le_of_ble_eq_true rfl⟩) hS (fun q _ h => hFc q h) hFc (fun q _ h => hFc q h) (fun E9 ce9 q9 u t H locs ht hvm h hB hz1 hk1 hS hce hcv hcl => (show False from h).elim) (fun r_730 u_729 t H locs ht hvm h hB hz1 hk1 hS => ?_)
          obtain ⟨m_731, m_732, m_733, m_734, hP1, hD1⟩ := hB
          rw [ht] at hP1
          have hP : va_P (dC, dI) vwCl (lwO cI h0 h0_1 h0_2 h0_3 h0_4 h0_5 h0_6 h0_7 h0_8 h0_9 h0_10 h0_11 h0_12 h0_13 h0_14 h0_15 h0_16 h0_17 h0_18 h0_19 h0_20 h0_21 h0_22 m_731 m_732 h0_25 h0_26 m_733 m_734 h0_29 h0_30 u_729) H := hP1
          have hD : va_D A (lwO cI h0 h0_1 h0_2 h0_3 h0_4 h0_5 h0_6 h0_7 h0_8 h0_9 h0_10 h0_11 h0_12 h0_13 h0_14 h0_15 h0_16 h0_17 h0_18 h0_19 h0_20 h0_21 h0_22 m_731 m_732 h0_25 h0_26 m_733 m_734 h0_29 h0_30 u_729) := hD1.weaken (fun _ _ _ h => hFc _ h)
          refine W.widen (k := 343) (n := 21356) (Nat.le_of_ble_eq_true rfl) (Nat.le_of_ble_eq_true rfl) ?_
          obtain ⟨ht_, hf_⟩ := h
          refine lv_if_ne (tgt := 221) hx hb dL_bounds_216 (by decide) (fun c_735 => ?_) (fun c_735 => ?_)
          · have h := ht_ c_735
            refine lv_iinc (v := (8 : Int32)) (lv' := [(2, .int (8 : Int32)), (1, .ref h0)]) hx hb dL_bounds_221 hl (k := 0) rfl (by decide) (by decide) rfl (fun ls hl => ?_)
            refine lv_goto (tgt := 197) hx hb dL_bounds_224 (by decide) ?_
            refine lv_iload_n hx hb dL_bounds_197 rfl (lv_at hl 0 rfl) ?_
            refine lv_bipush (v := (40 : Int32)) hx hb dL_bounds_198 (by decide) ?_
            refine lv_icmp_ge (tgt := 227) hx hb dL_bounds_200 (by decide) (fun c_736 => absurd c_736 (by decide)) (fun c_736 => ?_)
            refine lv_aload_n hx hb dL_bounds_203 rfl (lv_at hl 1 rfl) ?_
            refine lv_iconst (v := (2 : Int32)) hx hb dL_bounds_204 (by decide) ?_
            refine lv_iload_n hx hb dL_bounds_205 rfl (lv_at hl 0 rfl) ?_
            refine lv_imul hx hb dL_bounds_206 ?_
            refine lv_lit (b := (16 : Int32)) (by decide) ?_
            refine lv_iconst (v := (2 : Int32)) hx hb dL_bounds_207 (by decide) ?_
            refine lv_iload_n hx hb dL_bounds_208 rfl (lv_at hl 0 rfl) ?_
            refine lv_imul hx hb dL_bounds_209 ?_
            refine lv_lit (b := (16 : Int32)) (by decide) ?_
            refine lv_iconst (v := (2 : Int32)) hx hb dL_bounds_210 (by decide) ?_
            refine lv_iload_n hx hb dL_bounds_211 rfl (lv_at hl 0 rfl) ?_
            refine lv_imul hx hb dL_bounds_212 ?_
            refine lv_lit (b := (16 : Int32)) (by decide) ?_
            have hFc := frw hD hS hA
            refine vx_calli (vx_runV (As := [.int (16 : Int32), .int (16 : Int32), .int (16 : Int32)]) (rest := []) ⟨hx, hb, hml, hown, hts⟩ (c_X7_state l hst dC dI cI h0 h0_1 h0_2 h0_3 h0_4 h0_5 h0_6 h0_7 h0_8 h0_9 h0_10 h0_11 h0_12 h0_13 h0_14 h0_15 h0_16 h0_17 h0_18 h0_19 h0_20 h0_21 h0_22 m_731 m_732 h0_25 h0_26 m_733 m_734 h0_29 h0_30 _ u_729 (16 : Int32) (16 : Int32) (16 : Int32) _ _ h) (cwV 3 hts (goodIn_up gB_X7_state) rfl rfl rfl (by decide +kernel) ⟨Nat.le_of_ble_eq_true rfl, Nat.le_of_ble_eq_true rfl⟩) (pbj_V hP hK hD hN hX hFc hS (ci := 7) (q0 := 0) rfl rfl) rfl rfl hl.1 rfl (lv_room (Nat.le_of_ble_eq_true rfl)) dL_bounds_213 ⟨Nat.le_of_ble_eq_true rfl, Nat.le_of_ble_eq_true rfl⟩) hS (fun q _ h => hFc q h) hFc (fun q _ h => hFc q h) (fun E9 ce9 q9 u t H locs ht hvm h hB hz1 hk1 hS hce hcv hcl => (show False from h).elim) (fun r_738 u_737 t H locs ht hvm h hB hz1 hk1 hS => ?_)
            obtain ⟨m_739, m_740, m_741, m_742, hP1, hD1⟩ := hB
            rw [ht] at hP1
            have hP : va_P (dC, dI) vwCl (lwO cI h0 h0_1 h0_2 h0_3 h0_4 h0_5 h0_6 h0_7 h0_8 h0_9 h0_10 h0_11 h0_12 h0_13 h0_14 h0_15 h0_16 h0_17 h0_18 h0_19 h0_20 h0_21 h0_22 m_739 m_740 h0_25 h0_26 m_741 m_742 h0_29 h0_30 u_737) H := hP1
            have hD : va_D A (lwO cI h0 h0_1 h0_2 h0_3 h0_4 h0_5 h0_6 h0_7 h0_8 h0_9 h0_10 h0_11 h0_12 h0_13 h0_14 h0_15 h0_16 h0_17 h0_18 h0_19 h0_20 h0_21 h0_22 m_739 m_740 h0_25 h0_26 m_741 m_742 h0_29 h0_30 u_737) := hD1.weaken (fun _ _ _ h => hFc _ h)
            refine W.widen (k := 344) (n := 21362) (Nat.le_of_ble_eq_true rfl) (Nat.le_of_ble_eq_true rfl) ?_
            obtain ⟨ht_, hf_⟩ := h
            refine lv_if_ne (tgt := 221) hx hb dL_bounds_216 (by decide) (fun c_743 => ?_) (fun c_743 => ?_)
            · have h := ht_ c_743
              refine lv_iinc (v := (9 : Int32)) (lv' := [(2, .int (9 : Int32)), (1, .ref h0)]) hx hb dL_bounds_221 hl (k := 0) rfl (by decide) (by decide) rfl (fun ls hl => ?_)
              refine lv_goto (tgt := 197) hx hb dL_bounds_224 (by decide) ?_
              refine lv_iload_n hx hb dL_bounds_197 rfl (lv_at hl 0 rfl) ?_
              refine lv_bipush (v := (40 : Int32)) hx hb dL_bounds_198 (by decide) ?_
              refine lv_icmp_ge (tgt := 227) hx hb dL_bounds_200 (by decide) (fun c_744 => absurd c_744 (by decide)) (fun c_744 => ?_)
              refine lv_aload_n hx hb dL_bounds_203 rfl (lv_at hl 1 rfl) ?_
              refine lv_iconst (v := (2 : Int32)) hx hb dL_bounds_204 (by decide) ?_
              refine lv_iload_n hx hb dL_bounds_205 rfl (lv_at hl 0 rfl) ?_
              refine lv_imul hx hb dL_bounds_206 ?_
              refine lv_lit (b := (18 : Int32)) (by decide) ?_
              refine lv_iconst (v := (2 : Int32)) hx hb dL_bounds_207 (by decide) ?_
              refine lv_iload_n hx hb dL_bounds_208 rfl (lv_at hl 0 rfl) ?_
              refine lv_imul hx hb dL_bounds_209 ?_
              refine lv_lit (b := (18 : Int32)) (by decide) ?_
              refine lv_iconst (v := (2 : Int32)) hx hb dL_bounds_210 (by decide) ?_
              refine lv_iload_n hx hb dL_bounds_211 rfl (lv_at hl 0 rfl) ?_
              refine lv_imul hx hb dL_bounds_212 ?_
              refine lv_lit (b := (18 : Int32)) (by decide) ?_
              have hFc := frw hD hS hA
              refine vx_calli (vx_runV (As := [.int (18 : Int32), .int (18 : Int32), .int (18 : Int32)]) (rest := []) ⟨hx, hb, hml, hown, hts⟩ (c_X7_state l hst dC dI cI h0 h0_1 h0_2 h0_3 h0_4 h0_5 h0_6 h0_7 h0_8 h0_9 h0_10 h0_11 h0_12 h0_13 h0_14 h0_15 h0_16 h0_17 h0_18 h0_19 h0_20 h0_21 h0_22 m_739 m_740 h0_25 h0_26 m_741 m_742 h0_29 h0_30 _ u_737 (18 : Int32) (18 : Int32) (18 : Int32) _ _ h) (cwV 3 hts (goodIn_up gB_X7_state) rfl rfl rfl (by decide +kernel) ⟨Nat.le_of_ble_eq_true rfl, Nat.le_of_ble_eq_true rfl⟩) (pbj_V hP hK hD hN hX hFc hS (ci := 7) (q0 := 0) rfl rfl) rfl rfl hl.1 rfl (lv_room (Nat.le_of_ble_eq_true rfl)) dL_bounds_213 ⟨Nat.le_of_ble_eq_true rfl, Nat.le_of_ble_eq_true rfl⟩) hS (fun q _ h => hFc q h) hFc (fun q _ h => hFc q h) (fun E9 ce9 q9 u t H locs ht hvm h hB hz1 hk1 hS hce hcv hcl => (show False from h).elim) (fun r_746 u_745 t H locs ht hvm h hB hz1 hk1 hS => ?_)
              obtain ⟨m_747, m_748, m_749, m_750, hP1, hD1⟩ := hB
              rw [ht] at hP1
              have hP : va_P (dC, dI) vwCl (lwO cI h0 h0_1 h0_2 h0_3 h0_4 h0_5 h0_6 h0_7 h0_8 h0_9 h0_10 h0_11 h0_12 h0_13 h0_14 h0_15 h0_16 h0_17 h0_18 h0_19 h0_20 h0_21 h0_22 m_747 m_748 h0_25 h0_26 m_749 m_750 h0_29 h0_30 u_745) H := hP1
              have hD : va_D A (lwO cI h0 h0_1 h0_2 h0_3 h0_4 h0_5 h0_6 h0_7 h0_8 h0_9 h0_10 h0_11 h0_12 h0_13 h0_14 h0_15 h0_16 h0_17 h0_18 h0_19 h0_20 h0_21 h0_22 m_747 m_748 h0_25 h0_26 m_749 m_750 h0_29 h0_30 u_745) := hD1.weaken (fun _ _ _ h => hFc _ h)
              refine W.widen (k := 345) (n := 21368) (Nat.le_of_ble_eq_true rfl) (Nat.le_of_ble_eq_true rfl) ?_
              obtain ⟨ht_, hf_⟩ := h
              refine lv_if_ne (tgt := 221) hx hb dL_bounds_216 (by decide) (fun c_751 => ?_) (fun c_751 => ?_)
              · have h := ht_ c_751
                have hl : lv_has ls 3 [(1, .ref h0), (2, .int (9 : Int32))] := lv_sub hl [1, 0] rfl
                refine W.widen (k := 345) (n := 21368) (Nat.le_of_ble_eq_true rfl) (Nat.le_of_ble_eq_true rfl) ?_
                exact sg_L_bounds_12 l hst C0 hK hN hX hC hA h0 h0_1 h0_2 h0_3 h0_4 h0_5 h0_6 h0_7 h0_8 h0_9 h0_10 h0_11 h0_12 h0_13 h0_14 h0_15 h0_16 h0_17 h0_18 h0_19 h0_20 h0_21 h0_22 h0_25 h0_26 h0_29 h0_30 _ u_745 h m_747 m_748 m_749 m_750 _ _ hP hD hS _ hl
              · have h := hf_ c_751
                exact (show False from h).elim
            · have h := hf_ c_743
              exact (show False from h).elim
          · have h := hf_ c_735
            exact (show False from h).elim
        · have h := hf_ c_727
          exact (show False from h).elim
      · have h := hf_ c_719
        exact (show False from h).elim
    · have h := hf_ c_711
      exact (show False from h).elim
  · have h := hf_ c_703
    exact (show False from h).elim
set_option maxHeartbeats 4000000 in
set_option maxRecDepth 100000 in
theorem sg_L_bounds_10 (l : Launch) (hst : l.stackTraces = false) {p : Program} {e : Env} {s : State} {m : MethodId} {below : List Frame} {meth : Method} {c : Code} (C0 : LC p s m (([] : List Value).toArray) meth c cL_bounds 3 wq_bounds) {dC : Nat → ClassId} {dI : Nat → Nat → Nat} {cI : ClassId} (hK : va_K (dC, dI) vwCl [(cI, .int)] s) (hN : nk s) {A : Nat → Prop} (hX : xj A s) (hC : xnc s) (hA : ∀ q : Nat, s.heap.size ≤ q → A q) (h0 h0_1 h0_2 h0_3 h0_4 h0_5 h0_6 h0_7 h0_8 h0_9 h0_10 h0_11 h0_12 h0_13 h0_14 h0_15 h0_16 h0_17 h0_18 h0_19 h0_20 h0_21 h0_22 h0_25 h0_26 h0_29 h0_30 : Nat) (post : Int32 → Prop) (s0 : TriS) (h : P_L_bounds_10 s0 post) (h0_23 h0_24 h0_27 h0_28 : Nat) (H : Heap) (locs : List Loc) (hP : va_P (dC, dI) vwCl (lwO cI h0 h0_1 h0_2 h0_3 h0_4 h0_5 h0_6 h0_7 h0_8 h0_9 h0_10 h0_11 h0_12 h0_13 h0_14 h0_15 h0_16 h0_17 h0_18 h0_19 h0_20 h0_21 h0_22 h0_23 h0_24 h0_25 h0_26 h0_27 h0_28 h0_29 h0_30 s0) H) (hD : va_D A (lwO cI h0 h0_1 h0_2 h0_3 h0_4 h0_5 h0_6 h0_7 h0_8 h0_9 h0_10 h0_11 h0_12 h0_13 h0_14 h0_15 h0_16 h0_17 h0_18 h0_19 h0_20 h0_21 h0_22 h0_23 h0_24 h0_25 h0_26 h0_27 h0_28 h0_29 h0_30 s0)) (hS : va_S A s.heap H locs) (ls : Array Slot) (hl : lv_has ls 3 [(0, .ref h0)]) : W p l e rm_L_bounds s m (([] : List Value).toArray) below meth c H locs 109 10303 (MQ below (Q_L_bounds dC dI cI A post) (([] : List Value).toArray) s mc_L_bounds ms_L_bounds A) (F0 m 153 ls []) := by
  obtain ⟨hx, hb, hr, hml, hown, hts, hlocks⟩ := id C0
  have hinX7 : ∀ w ∈ u_ws RX7 TX7 7, w ∈ wq_bounds := fun w h => List.mem_cons_of_mem _ (inlX7 w h)
  refine lv_aload_n hx hb dL_bounds_153 rfl (lv_at hl 0 rfl) ?_
  refine lv_iconst (v := (0 : Int32)) hx hb dL_bounds_154 (by decide) ?_
  refine lv_iconst (v := (1 : Int32)) hx hb dL_bounds_155 (by decide) ?_
  refine lv_iconst (v := (1 : Int32)) hx hb dL_bounds_156 (by decide) ?_
  refine lv_iconst (v := (1 : Int32)) hx hb dL_bounds_157 (by decide) ?_
  have hFc := frw hD hS hA
  refine vx_calli (SX := Unit) (px := fun _ => False) (BX := fun _ _ _ => True) (AX := A) (vx_runSX0 (vx_runSX (As := [.ref h0, .int (0 : Int32), .int (1 : Int32), .int (1 : Int32), .int (1 : Int32)]) (rest := []) ⟨hx, hb, hml, hown, hts⟩ (c_L_act l hst dC dI cI h0 h0_1 h0_2 h0_3 h0_4 h0_5 h0_6 h0_7 h0_8 h0_9 h0_10 h0_11 h0_12 h0_13 h0_14 h0_15 h0_16 h0_17 h0_18 h0_19 h0_20 h0_21 h0_22 h0_23 h0_24 h0_25 h0_26 h0_27 h0_28 h0_29 h0_30 _ s0 (0 : Int32) (1 : Int32) (1 : Int32) (1 : Int32) _ h) (vx_cwSW 5 hts (goodIn_up gB_L_act) rfl rfl rfl (by decide +kernel) ⟨Nat.le_of_ble_eq_true rfl, Nat.le_of_ble_eq_true rfl⟩) (pbl_S hP hK hD hN hX hC hFc hS) rfl rfl hl.1 rfl (lv_room (Nat.le_of_ble_eq_true rfl)) dL_bounds_158 ⟨Nat.le_of_ble_eq_true rfl, Nat.le_of_ble_eq_true rfl⟩)) hS (fun q _ h => hFc q h) hFc (fun q _ h => h) (fun E9 ce9 q9 u t H locs ht hvm h hB hz1 hk1 hS hce hcv hcl => h.elim) (fun r_619 u_618 t H locs ht hvm h hB hz1 hk1 hS => ?_)
  obtain ⟨m_620, m_621, m_622, m_623, hP1, hD1⟩ := hB
  rw [ht] at hP1
  have hP : va_P (dC, dI) vwCl (lwO cI h0 h0_1 h0_2 h0_3 h0_4 h0_5 h0_6 h0_7 h0_8 h0_9 h0_10 h0_11 h0_12 h0_13 h0_14 h0_15 h0_16 h0_17 h0_18 h0_19 h0_20 h0_21 h0_22 m_620 m_621 h0_25 h0_26 m_622 m_623 h0_29 h0_30 u_618) H := hP1
  have hD : va_D A (lwO cI h0 h0_1 h0_2 h0_3 h0_4 h0_5 h0_6 h0_7 h0_8 h0_9 h0_10 h0_11 h0_12 h0_13 h0_14 h0_15 h0_16 h0_17 h0_18 h0_19 h0_20 h0_21 h0_22 m_620 m_621 h0_25 h0_26 m_622 m_623 h0_29 h0_30 u_618) := hD1.weaken (fun _ _ _ h => hFc _ h)
  refine W.widen (k := 111) (n := 10315) (Nat.le_of_ble_eq_true rfl) (Nat.le_of_ble_eq_true rfl) ?_
  refine lv_bipush (v := (-93 : Int32)) hx hb dL_bounds_161 (by decide) ?_
  obtain ⟨ht_, hf_⟩ := h
  refine lv_icmp_ne (tgt := 185) hx hb dL_bounds_163 (by decide) (fun c_624 => ?_) (fun c_624 => ?_)
  · have h := ht_ c_624
    exact (show False from h).elim
  · have h := hf_ c_624
    refine lv_aload_n hx hb dL_bounds_166 rfl (lv_at hl 0 rfl) ?_
    refine lv_iconst (v := (0 : Int32)) hx hb dL_bounds_167 (by decide) ?_
    refine lv_bipush (v := (10 : Int32)) hx hb dL_bounds_168 (by decide) ?_
    refine lv_bipush (v := (20 : Int32)) hx hb dL_bounds_170 (by decide) ?_
    have hFc := frw hD hS hA
    refine vx_calli (vx_runV (As := [.int (0 : Int32), .int (10 : Int32), .int (20 : Int32)]) (rest := []) ⟨hx, hb, hml, hown, hts⟩ (c_X7_state l hst dC dI cI h0 h0_1 h0_2 h0_3 h0_4 h0_5 h0_6 h0_7 h0_8 h0_9 h0_10 h0_11 h0_12 h0_13 h0_14 h0_15 h0_16 h0_17 h0_18 h0_19 h0_20 h0_21 h0_22 m_620 m_621 h0_25 h0_26 m_622 m_623 h0_29 h0_30 _ u_618 (0 : Int32) (10 : Int32) (20 : Int32) _ _ h) (cwV 3 hts (goodIn_up gB_X7_state) rfl rfl rfl (by decide +kernel) ⟨Nat.le_of_ble_eq_true rfl, Nat.le_of_ble_eq_true rfl⟩) (pbj_V hP hK hD hN hX hFc hS (ci := 7) (q0 := 0) rfl rfl) rfl rfl hl.1 rfl (lv_room (Nat.le_of_ble_eq_true rfl)) dL_bounds_172 ⟨Nat.le_of_ble_eq_true rfl, Nat.le_of_ble_eq_true rfl⟩) hS (fun q _ h => hFc q h) hFc (fun q _ h => hFc q h) (fun E9 ce9 q9 u t H locs ht hvm h hB hz1 hk1 hS hce hcv hcl => (show False from h).elim) (fun r_626 u_625 t H locs ht hvm h hB hz1 hk1 hS => ?_)
    obtain ⟨m_627, m_628, m_629, m_630, hP1, hD1⟩ := hB
    rw [ht] at hP1
    have hP : va_P (dC, dI) vwCl (lwO cI h0 h0_1 h0_2 h0_3 h0_4 h0_5 h0_6 h0_7 h0_8 h0_9 h0_10 h0_11 h0_12 h0_13 h0_14 h0_15 h0_16 h0_17 h0_18 h0_19 h0_20 h0_21 h0_22 m_627 m_628 h0_25 h0_26 m_629 m_630 h0_29 h0_30 u_625) H := hP1
    have hD : va_D A (lwO cI h0 h0_1 h0_2 h0_3 h0_4 h0_5 h0_6 h0_7 h0_8 h0_9 h0_10 h0_11 h0_12 h0_13 h0_14 h0_15 h0_16 h0_17 h0_18 h0_19 h0_20 h0_21 h0_22 m_627 m_628 h0_25 h0_26 m_629 m_630 h0_29 h0_30 u_625) := hD1.weaken (fun _ _ _ h => hFc _ h)
    refine W.widen (k := 112) (n := 10321) (Nat.le_of_ble_eq_true rfl) (Nat.le_of_ble_eq_true rfl) ?_
    obtain ⟨ht_, hf_⟩ := h
    refine lv_if_ne (tgt := 185) hx hb dL_bounds_175 (by decide) (fun c_631 => ?_) (fun c_631 => ?_)
    · have h := ht_ c_631
      exact (show False from h).elim
    · have h := hf_ c_631
      refine lv_aload_n hx hb dL_bounds_178 rfl (lv_at hl 0 rfl) ?_
      have hFc := frw hD hS hA
      refine va_calli (va_runS (As := [.ref h0]) (rest := []) ⟨hx, hb, hml, hown, hts⟩ (c_L_refuses l hst dC dI cI h0 h0_1 h0_2 h0_3 h0_4 h0_5 h0_6 h0_7 h0_8 h0_9 h0_10 h0_11 h0_12 h0_13 h0_14 h0_15 h0_16 h0_17 h0_18 h0_19 h0_20 h0_21 h0_22 m_627 m_628 h0_25 h0_26 m_629 m_630 h0_29 h0_30 _ u_625 _ h) (va_cwS 1 hts (goodIn_up gB_L_refuses) rfl rfl rfl (by decide +kernel) ⟨Nat.le_of_ble_eq_true rfl, Nat.le_of_ble_eq_true rfl⟩) (pbl_S hP hK hD hN hX hC hFc hS) rfl rfl hl.1 rfl (lv_room (Nat.le_of_ble_eq_true rfl)) dL_bounds_179 ⟨Nat.le_of_ble_eq_true rfl, Nat.le_of_ble_eq_true rfl⟩) hS (fun q _ h => hFc q h) hFc (fun r_633 u_632 t H locs ht hvm h hB hz1 hk1 hS => ?_)
      obtain ⟨m_634, m_635, m_636, m_637, hP1, hD1⟩ := hB
      rw [ht] at hP1
      have hP : va_P (dC, dI) vwCl (lwO cI h0 h0_1 h0_2 h0_3 h0_4 h0_5 h0_6 h0_7 h0_8 h0_9 h0_10 h0_11 h0_12 h0_13 h0_14 h0_15 h0_16 h0_17 h0_18 h0_19 h0_20 h0_21 h0_22 m_634 m_635 h0_25 h0_26 m_636 m_637 h0_29 h0_30 u_632) H := hP1
      have hD : va_D A (lwO cI h0 h0_1 h0_2 h0_3 h0_4 h0_5 h0_6 h0_7 h0_8 h0_9 h0_10 h0_11 h0_12 h0_13 h0_14 h0_15 h0_16 h0_17 h0_18 h0_19 h0_20 h0_21 h0_22 m_634 m_635 h0_25 h0_26 m_636 m_637 h0_29 h0_30 u_632) := hD1.weaken (fun _ _ _ h => hFc _ h)
      refine W.widen (k := 304) (n := 11473) (Nat.le_of_ble_eq_true rfl) (Nat.le_of_ble_eq_true rfl) ?_
      obtain ⟨ht_, hf_⟩ := h
      refine lv_if_ne (tgt := 187) hx hb dL_bounds_182 (by decide) (fun c_638 => ?_) (fun c_638 => ?_)
      · have h := ht_ c_638
        have hP := vaP0 (dC, dI) (H := H)
        have hD := vaD0 (A := A)
        refine va_new (ci := 7) (fs := [.null, .null, .null, .null, .null, .int (0 : Int32), .int (0 : Int32)]) (C := RX7) (T := TX7) (N := 7) hx hb hts (hinX7) tyX7 tyX7_ok hown (hts (.classLink RL 8 RX7) (by decide +kernel)) (hts (.instantiable RX7 7) (by decide +kernel)) (hts (.initialized RX7) (by decide +kernel)) hK hP hD hS hA rfl (fun j hj => by rcases (show j = 0 ∨ j = 1 ∨ j = 2 ∨ j = 3 ∨ j = 4 ∨ j = 5 ∨ j = 6 by omega) with rfl | rfl | rfl | rfl | rfl | rfl | rfl <;> rfl) (by decide +kernel) (by decide +kernel) dL_bounds_187 (fun q_639 H hP hD hS => ?_)
        refine W.widen (k := 305) (n := 11480) (by omega) (by omega) ?_
        have hP : va_P (dC, dI) vwCl [(q_639, .inr (7, [.null, .null, .null, .null, .null, .int (0 : Int32), .int (0 : Int32)]))] _ := hP
        have hD : va_D A [(q_639, .inr (7, [.null, .null, .null, .null, .null, .int (0 : Int32), .int (0 : Int32)]))] := hD
        refine lv_dup hx hb dL_bounds_190 rfl ?_
        have hFc := frw hD hS hA
        have hkc : 305 + 30 ≤ 383 := by decide +kernel
        have hks : 11480 + 9828 ≤ 21596 := by decide +kernel
        refine va_callv (va_runI (As := []) (rest := [.ref q_639]) ⟨hx, hb, hml, hown, hts⟩ (c_X7_init l dC dI cI q_639 _ _ h) (cwI 0 hts (goodIn_up gB_X7_init) rfl rfl rfl (hts (.initialized RX7) (by decide +kernel)) (hts (.methodLink RL 84 yX7_init) (by decide +kernel)) (hts (.instanceMethod yX7_init) (by decide +kernel)) rfl (by decide +kernel) ⟨Nat.le_of_ble_eq_true rfl, Nat.le_of_ble_eq_true rfl⟩) (pb_I hP hK hD hN) rfl rfl hl.1 rfl (lv_room (Nat.le_of_ble_eq_true rfl)) dL_bounds_191 ⟨hkc, hks⟩) hS (fun q _ h => hFc q h) hFc (fun u_640 t H locs ht hvm h hB hz1 hk1 hS => ?_)
        obtain ⟨q_642, q_643, q_644, q_645, q_646, q_647, q_648, q_649, q_650, q_651, q_652, q_653, q_654, q_655, q_656, q_657, q_658, q_659, q_660, q_661, q_662, q_663, q_664, q_665, q_666, q_667, q_668, q_669, q_670, q_671, hP1, hD1⟩ := hB
        rw [ht] at hP1
        have hP : va_P (dC, dI) vwCl (lwO cI q_639 q_642 q_643 q_644 q_645 q_646 q_647 q_648 q_649 q_650 q_651 q_652 q_653 q_654 q_655 q_656 q_657 q_658 q_659 q_660 q_661 q_662 q_663 q_664 q_665 q_666 q_667 q_668 q_669 q_670 q_671 u_640) H := hP1
        have hD : va_D A (lwO cI q_639 q_642 q_643 q_644 q_645 q_646 q_647 q_648 q_649 q_650 q_651 q_652 q_653 q_654 q_655 q_656 q_657 q_658 q_659 q_660 q_661 q_662 q_663 q_664 q_665 q_666 q_667 q_668 q_669 q_670 q_671 u_640) := hD1.weaken (fun _ _ _ h => hFc _ h)
        refine W.widen (k := 335) (n := 21308) (by omega) (by omega) ?_
        refine lv_astore_n (lv' := [(1, .ref q_639), (0, .ref h0)]) hx hb dL_bounds_194 rfl hl (by decide) rfl (fun ls hl => ?_)
        refine lv_iconst (v := (0 : Int32)) hx hb dL_bounds_195 (by decide) ?_
        refine lv_istore_n (lv' := [(2, .int (0 : Int32)), (1, .ref q_639), (0, .ref h0)]) hx hb dL_bounds_196 rfl hl (by decide) rfl (fun ls hl => ?_)
        refine lv_iload_n hx hb dL_bounds_197 rfl (lv_at hl 0 rfl) ?_
        refine lv_bipush (v := (40 : Int32)) hx hb dL_bounds_198 (by decide) ?_
        refine lv_icmp_ge (tgt := 227) hx hb dL_bounds_200 (by decide) (fun c_672 => absurd c_672 (by decide)) (fun c_672 => ?_)
        refine lv_aload_n hx hb dL_bounds_203 rfl (lv_at hl 1 rfl) ?_
        refine lv_iconst (v := (2 : Int32)) hx hb dL_bounds_204 (by decide) ?_
        refine lv_iload_n hx hb dL_bounds_205 rfl (lv_at hl 0 rfl) ?_
        refine lv_imul hx hb dL_bounds_206 ?_
        refine lv_lit (b := (0 : Int32)) (by decide) ?_
        refine lv_iconst (v := (2 : Int32)) hx hb dL_bounds_207 (by decide) ?_
        refine lv_iload_n hx hb dL_bounds_208 rfl (lv_at hl 0 rfl) ?_
        refine lv_imul hx hb dL_bounds_209 ?_
        refine lv_lit (b := (0 : Int32)) (by decide) ?_
        refine lv_iconst (v := (2 : Int32)) hx hb dL_bounds_210 (by decide) ?_
        refine lv_iload_n hx hb dL_bounds_211 rfl (lv_at hl 0 rfl) ?_
        refine lv_imul hx hb dL_bounds_212 ?_
        refine lv_lit (b := (0 : Int32)) (by decide) ?_
        have hFc := frw hD hS hA
        refine vx_calli (vx_runV (As := [.int (0 : Int32), .int (0 : Int32), .int (0 : Int32)]) (rest := []) ⟨hx, hb, hml, hown, hts⟩ (c_X7_state l hst dC dI cI q_639 q_642 q_643 q_644 q_645 q_646 q_647 q_648 q_649 q_650 q_651 q_652 q_653 q_654 q_655 q_656 q_657 q_658 q_659 q_660 q_661 q_662 q_663 q_664 q_665 q_666 q_667 q_668 q_669 q_670 q_671 _ u_640 (0 : Int32) (0 : Int32) (0 : Int32) _ _ h) (cwV 3 hts (goodIn_up gB_X7_state) rfl rfl rfl (by decide +kernel) ⟨Nat.le_of_ble_eq_true rfl, Nat.le_of_ble_eq_true rfl⟩) (pbj_V hP hK hD hN hX hFc hS (ci := 7) (q0 := 0) rfl rfl) rfl rfl hl.1 rfl (lv_room (Nat.le_of_ble_eq_true rfl)) dL_bounds_213 ⟨Nat.le_of_ble_eq_true rfl, Nat.le_of_ble_eq_true rfl⟩) hS (fun q _ h => hFc q h) hFc (fun q _ h => hFc q h) (fun E9 ce9 q9 u t H locs ht hvm h hB hz1 hk1 hS hce hcv hcl => (show False from h).elim) (fun r_674 u_673 t H locs ht hvm h hB hz1 hk1 hS => ?_)
        obtain ⟨m_675, m_676, m_677, m_678, hP1, hD1⟩ := hB
        rw [ht] at hP1
        have hP : va_P (dC, dI) vwCl (lwO cI q_639 q_642 q_643 q_644 q_645 q_646 q_647 q_648 q_649 q_650 q_651 q_652 q_653 q_654 q_655 q_656 q_657 q_658 q_659 q_660 q_661 q_662 q_663 m_675 m_676 q_666 q_667 m_677 m_678 q_670 q_671 u_673) H := hP1
        have hD : va_D A (lwO cI q_639 q_642 q_643 q_644 q_645 q_646 q_647 q_648 q_649 q_650 q_651 q_652 q_653 q_654 q_655 q_656 q_657 q_658 q_659 q_660 q_661 q_662 q_663 m_675 m_676 q_666 q_667 m_677 m_678 q_670 q_671 u_673) := hD1.weaken (fun _ _ _ h => hFc _ h)
        refine W.widen (k := 336) (n := 21314) (Nat.le_of_ble_eq_true rfl) (Nat.le_of_ble_eq_true rfl) ?_
        obtain ⟨ht_, hf_⟩ := h
        refine lv_if_ne (tgt := 221) hx hb dL_bounds_216 (by decide) (fun c_679 => ?_) (fun c_679 => ?_)
        · have h := ht_ c_679
          refine lv_iinc (v := (1 : Int32)) (lv' := [(2, .int (1 : Int32)), (1, .ref q_639), (0, .ref h0)]) hx hb dL_bounds_221 hl (k := 0) rfl (by decide) (by decide) rfl (fun ls hl => ?_)
          refine lv_goto (tgt := 197) hx hb dL_bounds_224 (by decide) ?_
          refine lv_iload_n hx hb dL_bounds_197 rfl (lv_at hl 0 rfl) ?_
          refine lv_bipush (v := (40 : Int32)) hx hb dL_bounds_198 (by decide) ?_
          refine lv_icmp_ge (tgt := 227) hx hb dL_bounds_200 (by decide) (fun c_680 => absurd c_680 (by decide)) (fun c_680 => ?_)
          refine lv_aload_n hx hb dL_bounds_203 rfl (lv_at hl 1 rfl) ?_
          refine lv_iconst (v := (2 : Int32)) hx hb dL_bounds_204 (by decide) ?_
          refine lv_iload_n hx hb dL_bounds_205 rfl (lv_at hl 0 rfl) ?_
          refine lv_imul hx hb dL_bounds_206 ?_
          refine lv_lit (b := (2 : Int32)) (by decide) ?_
          refine lv_iconst (v := (2 : Int32)) hx hb dL_bounds_207 (by decide) ?_
          refine lv_iload_n hx hb dL_bounds_208 rfl (lv_at hl 0 rfl) ?_
          refine lv_imul hx hb dL_bounds_209 ?_
          refine lv_lit (b := (2 : Int32)) (by decide) ?_
          refine lv_iconst (v := (2 : Int32)) hx hb dL_bounds_210 (by decide) ?_
          refine lv_iload_n hx hb dL_bounds_211 rfl (lv_at hl 0 rfl) ?_
          refine lv_imul hx hb dL_bounds_212 ?_
          refine lv_lit (b := (2 : Int32)) (by decide) ?_
          have hFc := frw hD hS hA
          refine vx_calli (vx_runV (As := [.int (2 : Int32), .int (2 : Int32), .int (2 : Int32)]) (rest := []) ⟨hx, hb, hml, hown, hts⟩ (c_X7_state l hst dC dI cI q_639 q_642 q_643 q_644 q_645 q_646 q_647 q_648 q_649 q_650 q_651 q_652 q_653 q_654 q_655 q_656 q_657 q_658 q_659 q_660 q_661 q_662 q_663 m_675 m_676 q_666 q_667 m_677 m_678 q_670 q_671 _ u_673 (2 : Int32) (2 : Int32) (2 : Int32) _ _ h) (cwV 3 hts (goodIn_up gB_X7_state) rfl rfl rfl (by decide +kernel) ⟨Nat.le_of_ble_eq_true rfl, Nat.le_of_ble_eq_true rfl⟩) (pbj_V hP hK hD hN hX hFc hS (ci := 7) (q0 := 0) rfl rfl) rfl rfl hl.1 rfl (lv_room (Nat.le_of_ble_eq_true rfl)) dL_bounds_213 ⟨Nat.le_of_ble_eq_true rfl, Nat.le_of_ble_eq_true rfl⟩) hS (fun q _ h => hFc q h) hFc (fun q _ h => hFc q h) (fun E9 ce9 q9 u t H locs ht hvm h hB hz1 hk1 hS hce hcv hcl => (show False from h).elim) (fun r_682 u_681 t H locs ht hvm h hB hz1 hk1 hS => ?_)
          obtain ⟨m_683, m_684, m_685, m_686, hP1, hD1⟩ := hB
          rw [ht] at hP1
          have hP : va_P (dC, dI) vwCl (lwO cI q_639 q_642 q_643 q_644 q_645 q_646 q_647 q_648 q_649 q_650 q_651 q_652 q_653 q_654 q_655 q_656 q_657 q_658 q_659 q_660 q_661 q_662 q_663 m_683 m_684 q_666 q_667 m_685 m_686 q_670 q_671 u_681) H := hP1
          have hD : va_D A (lwO cI q_639 q_642 q_643 q_644 q_645 q_646 q_647 q_648 q_649 q_650 q_651 q_652 q_653 q_654 q_655 q_656 q_657 q_658 q_659 q_660 q_661 q_662 q_663 m_683 m_684 q_666 q_667 m_685 m_686 q_670 q_671 u_681) := hD1.weaken (fun _ _ _ h => hFc _ h)
          refine W.widen (k := 337) (n := 21320) (Nat.le_of_ble_eq_true rfl) (Nat.le_of_ble_eq_true rfl) ?_
          obtain ⟨ht_, hf_⟩ := h
          refine lv_if_ne (tgt := 221) hx hb dL_bounds_216 (by decide) (fun c_687 => ?_) (fun c_687 => ?_)
          · have h := ht_ c_687
            refine lv_iinc (v := (2 : Int32)) (lv' := [(2, .int (2 : Int32)), (1, .ref q_639), (0, .ref h0)]) hx hb dL_bounds_221 hl (k := 0) rfl (by decide) (by decide) rfl (fun ls hl => ?_)
            refine lv_goto (tgt := 197) hx hb dL_bounds_224 (by decide) ?_
            refine lv_iload_n hx hb dL_bounds_197 rfl (lv_at hl 0 rfl) ?_
            refine lv_bipush (v := (40 : Int32)) hx hb dL_bounds_198 (by decide) ?_
            refine lv_icmp_ge (tgt := 227) hx hb dL_bounds_200 (by decide) (fun c_688 => absurd c_688 (by decide)) (fun c_688 => ?_)
            refine lv_aload_n hx hb dL_bounds_203 rfl (lv_at hl 1 rfl) ?_
            refine lv_iconst (v := (2 : Int32)) hx hb dL_bounds_204 (by decide) ?_
            refine lv_iload_n hx hb dL_bounds_205 rfl (lv_at hl 0 rfl) ?_
            refine lv_imul hx hb dL_bounds_206 ?_
            refine lv_lit (b := (4 : Int32)) (by decide) ?_
            refine lv_iconst (v := (2 : Int32)) hx hb dL_bounds_207 (by decide) ?_
            refine lv_iload_n hx hb dL_bounds_208 rfl (lv_at hl 0 rfl) ?_
            refine lv_imul hx hb dL_bounds_209 ?_
            refine lv_lit (b := (4 : Int32)) (by decide) ?_
            refine lv_iconst (v := (2 : Int32)) hx hb dL_bounds_210 (by decide) ?_
            refine lv_iload_n hx hb dL_bounds_211 rfl (lv_at hl 0 rfl) ?_
            refine lv_imul hx hb dL_bounds_212 ?_
            refine lv_lit (b := (4 : Int32)) (by decide) ?_
            have hFc := frw hD hS hA
            refine vx_calli (vx_runV (As := [.int (4 : Int32), .int (4 : Int32), .int (4 : Int32)]) (rest := []) ⟨hx, hb, hml, hown, hts⟩ (c_X7_state l hst dC dI cI q_639 q_642 q_643 q_644 q_645 q_646 q_647 q_648 q_649 q_650 q_651 q_652 q_653 q_654 q_655 q_656 q_657 q_658 q_659 q_660 q_661 q_662 q_663 m_683 m_684 q_666 q_667 m_685 m_686 q_670 q_671 _ u_681 (4 : Int32) (4 : Int32) (4 : Int32) _ _ h) (cwV 3 hts (goodIn_up gB_X7_state) rfl rfl rfl (by decide +kernel) ⟨Nat.le_of_ble_eq_true rfl, Nat.le_of_ble_eq_true rfl⟩) (pbj_V hP hK hD hN hX hFc hS (ci := 7) (q0 := 0) rfl rfl) rfl rfl hl.1 rfl (lv_room (Nat.le_of_ble_eq_true rfl)) dL_bounds_213 ⟨Nat.le_of_ble_eq_true rfl, Nat.le_of_ble_eq_true rfl⟩) hS (fun q _ h => hFc q h) hFc (fun q _ h => hFc q h) (fun E9 ce9 q9 u t H locs ht hvm h hB hz1 hk1 hS hce hcv hcl => (show False from h).elim) (fun r_690 u_689 t H locs ht hvm h hB hz1 hk1 hS => ?_)
            obtain ⟨m_691, m_692, m_693, m_694, hP1, hD1⟩ := hB
            rw [ht] at hP1
            have hP : va_P (dC, dI) vwCl (lwO cI q_639 q_642 q_643 q_644 q_645 q_646 q_647 q_648 q_649 q_650 q_651 q_652 q_653 q_654 q_655 q_656 q_657 q_658 q_659 q_660 q_661 q_662 q_663 m_691 m_692 q_666 q_667 m_693 m_694 q_670 q_671 u_689) H := hP1
            have hD : va_D A (lwO cI q_639 q_642 q_643 q_644 q_645 q_646 q_647 q_648 q_649 q_650 q_651 q_652 q_653 q_654 q_655 q_656 q_657 q_658 q_659 q_660 q_661 q_662 q_663 m_691 m_692 q_666 q_667 m_693 m_694 q_670 q_671 u_689) := hD1.weaken (fun _ _ _ h => hFc _ h)
            refine W.widen (k := 338) (n := 21326) (Nat.le_of_ble_eq_true rfl) (Nat.le_of_ble_eq_true rfl) ?_
            obtain ⟨ht_, hf_⟩ := h
            refine lv_if_ne (tgt := 221) hx hb dL_bounds_216 (by decide) (fun c_695 => ?_) (fun c_695 => ?_)
            · have h := ht_ c_695
              have hl : lv_has ls 3 [(1, .ref q_639), (2, .int (2 : Int32))] := lv_sub hl [1, 0] rfl
              refine W.widen (k := 338) (n := 21326) (Nat.le_of_ble_eq_true rfl) (Nat.le_of_ble_eq_true rfl) ?_
              exact sg_L_bounds_11 l hst C0 hK hN hX hC hA q_639 q_642 q_643 q_644 q_645 q_646 q_647 q_648 q_649 q_650 q_651 q_652 q_653 q_654 q_655 q_656 q_657 q_658 q_659 q_660 q_661 q_662 q_663 q_666 q_667 q_670 q_671 _ u_689 h m_691 m_692 m_693 m_694 _ _ hP hD hS _ hl
            · have h := hf_ c_695
              exact (show False from h).elim
          · have h := hf_ c_687
            exact (show False from h).elim
        · have h := hf_ c_679
          exact (show False from h).elim
      · have h := hf_ c_638
        exact (show False from h).elim
set_option maxHeartbeats 4000000 in
set_option maxRecDepth 100000 in
theorem sg_L_bounds_9 (l : Launch) (hst : l.stackTraces = false) {p : Program} {e : Env} {s : State} {m : MethodId} {below : List Frame} {meth : Method} {c : Code} (C0 : LC p s m (([] : List Value).toArray) meth c cL_bounds 3 wq_bounds) {dC : Nat → ClassId} {dI : Nat → Nat → Nat} {cI : ClassId} (hK : va_K (dC, dI) vwCl [(cI, .int)] s) (hN : nk s) {A : Nat → Prop} (hX : xj A s) (hC : xnc s) (hA : ∀ q : Nat, s.heap.size ≤ q → A q) (h0 h0_1 h0_2 h0_3 h0_4 h0_5 h0_6 h0_7 h0_8 h0_9 h0_10 h0_11 h0_12 h0_13 h0_14 h0_15 h0_16 h0_17 h0_18 h0_19 h0_20 h0_21 h0_22 h0_25 h0_26 h0_29 h0_30 : Nat) (post : Int32 → Prop) (s0 : TriS) (h : P_L_bounds_9 s0 post) (h0_23 h0_24 h0_27 h0_28 : Nat) (H : Heap) (locs : List Loc) (hP : va_P (dC, dI) vwCl (lwO cI h0 h0_1 h0_2 h0_3 h0_4 h0_5 h0_6 h0_7 h0_8 h0_9 h0_10 h0_11 h0_12 h0_13 h0_14 h0_15 h0_16 h0_17 h0_18 h0_19 h0_20 h0_21 h0_22 h0_23 h0_24 h0_25 h0_26 h0_27 h0_28 h0_29 h0_30 s0) H) (hD : va_D A (lwO cI h0 h0_1 h0_2 h0_3 h0_4 h0_5 h0_6 h0_7 h0_8 h0_9 h0_10 h0_11 h0_12 h0_13 h0_14 h0_15 h0_16 h0_17 h0_18 h0_19 h0_20 h0_21 h0_22 h0_23 h0_24 h0_25 h0_26 h0_27 h0_28 h0_29 h0_30 s0)) (hS : va_S A s.heap H locs) (ls : Array Slot) (hl : lv_has ls 3 [(0, .ref h0), (1, .int (55 : Int32))]) : W p l e rm_L_bounds s m (([] : List Value).toArray) below meth c H locs 98 10237 (MQ below (Q_L_bounds dC dI cI A post) (([] : List Value).toArray) s mc_L_bounds ms_L_bounds A) (F0 m 118 ls []) := by
  obtain ⟨hx, hb, hr, hml, hown, hts, hlocks⟩ := id C0
  refine lv_iinc (v := (56 : Int32)) (lv' := [(1, .int (56 : Int32)), (0, .ref h0)]) hx hb dL_bounds_118 hl (k := 1) rfl (by decide) (by decide) rfl (fun ls hl => ?_)
  refine lv_goto (tgt := 38) hx hb dL_bounds_121 (by decide) ?_
  refine lv_iload_n hx hb dL_bounds_38 rfl (lv_at hl 0 rfl) ?_
  refine lv_bipush (v := (60 : Int32)) hx hb dL_bounds_39 (by decide) ?_
  refine lv_icmp_ge (tgt := 124) hx hb dL_bounds_41 (by decide) (fun c_568 => absurd c_568 (by decide)) (fun c_568 => ?_)
  refine lv_iload_n hx hb dL_bounds_44 rfl (lv_at hl 0 rfl) ?_
  refine lv_bipush (v := (44 : Int32)) hx hb dL_bounds_45 (by decide) ?_
  refine lv_icmp_ne (tgt := 96) hx hb dL_bounds_47 (by decide) (fun c_569 => ?_) (fun c_569 => absurd c_569 (by decide))
  refine lv_aload_n hx hb dL_bounds_96 rfl (lv_at hl 1 rfl) ?_
  refine lv_iload_n hx hb dL_bounds_97 rfl (lv_at hl 0 rfl) ?_
  refine lv_bipush (v := (9 : Int32)) hx hb dL_bounds_98 (by decide) ?_
  refine lv_idiv hx hb dL_bounds_100 (by decide) ?_
  refine lv_lit (b := (6 : Int32)) (by decide) ?_
  refine lv_bipush (v := (10 : Int32)) hx hb dL_bounds_101 (by decide) ?_
  refine lv_bipush (v := (20 : Int32)) hx hb dL_bounds_103 (by decide) ?_
  refine lv_iload_n hx hb dL_bounds_105 rfl (lv_at hl 0 rfl) ?_
  refine lv_bipush (v := (9 : Int32)) hx hb dL_bounds_106 (by decide) ?_
  refine lv_irem hx hb dL_bounds_108 (by decide) ?_
  refine lv_lit (b := (2 : Int32)) (by decide) ?_
  refine lv_iadd hx hb dL_bounds_109 ?_
  refine lv_lit (b := (22 : Int32)) (by decide) ?_
  have hFc := frw hD hS hA
  refine vx_calli (vx_runV (As := [.int (6 : Int32), .int (10 : Int32), .int (22 : Int32)]) (rest := []) ⟨hx, hb, hml, hown, hts⟩ (c_X7_state l hst dC dI cI h0 h0_1 h0_2 h0_3 h0_4 h0_5 h0_6 h0_7 h0_8 h0_9 h0_10 h0_11 h0_12 h0_13 h0_14 h0_15 h0_16 h0_17 h0_18 h0_19 h0_20 h0_21 h0_22 h0_23 h0_24 h0_25 h0_26 h0_27 h0_28 h0_29 h0_30 _ s0 (6 : Int32) (10 : Int32) (22 : Int32) _ _ h) (cwV 3 hts (goodIn_up gB_X7_state) rfl rfl rfl (by decide +kernel) ⟨Nat.le_of_ble_eq_true rfl, Nat.le_of_ble_eq_true rfl⟩) (pbj_V hP hK hD hN hX hFc hS (ci := 7) (q0 := 0) rfl rfl) rfl rfl hl.1 rfl (lv_room (Nat.le_of_ble_eq_true rfl)) dL_bounds_110 ⟨Nat.le_of_ble_eq_true rfl, Nat.le_of_ble_eq_true rfl⟩) hS (fun q _ h => hFc q h) hFc (fun q _ h => hFc q h) (fun E9 ce9 q9 u t H locs ht hvm h hB hz1 hk1 hS hce hcv hcl => (show False from h).elim) (fun r_571 u_570 t H locs ht hvm h hB hz1 hk1 hS => ?_)
  obtain ⟨m_572, m_573, m_574, m_575, hP1, hD1⟩ := hB
  rw [ht] at hP1
  have hP : va_P (dC, dI) vwCl (lwO cI h0 h0_1 h0_2 h0_3 h0_4 h0_5 h0_6 h0_7 h0_8 h0_9 h0_10 h0_11 h0_12 h0_13 h0_14 h0_15 h0_16 h0_17 h0_18 h0_19 h0_20 h0_21 h0_22 m_572 m_573 h0_25 h0_26 m_574 m_575 h0_29 h0_30 u_570) H := hP1
  have hD : va_D A (lwO cI h0 h0_1 h0_2 h0_3 h0_4 h0_5 h0_6 h0_7 h0_8 h0_9 h0_10 h0_11 h0_12 h0_13 h0_14 h0_15 h0_16 h0_17 h0_18 h0_19 h0_20 h0_21 h0_22 m_572 m_573 h0_25 h0_26 m_574 m_575 h0_29 h0_30 u_570) := hD1.weaken (fun _ _ _ h => hFc _ h)
  refine W.widen (k := 99) (n := 10243) (Nat.le_of_ble_eq_true rfl) (Nat.le_of_ble_eq_true rfl) ?_
  obtain ⟨ht_, hf_⟩ := h
  refine lv_if_ne (tgt := 118) hx hb dL_bounds_113 (by decide) (fun c_576 => ?_) (fun c_576 => ?_)
  · have h := ht_ c_576
    refine lv_iinc (v := (57 : Int32)) (lv' := [(1, .int (57 : Int32)), (0, .ref h0)]) hx hb dL_bounds_118 hl (k := 0) rfl (by decide) (by decide) rfl (fun ls hl => ?_)
    refine lv_goto (tgt := 38) hx hb dL_bounds_121 (by decide) ?_
    refine lv_iload_n hx hb dL_bounds_38 rfl (lv_at hl 0 rfl) ?_
    refine lv_bipush (v := (60 : Int32)) hx hb dL_bounds_39 (by decide) ?_
    refine lv_icmp_ge (tgt := 124) hx hb dL_bounds_41 (by decide) (fun c_577 => absurd c_577 (by decide)) (fun c_577 => ?_)
    refine lv_iload_n hx hb dL_bounds_44 rfl (lv_at hl 0 rfl) ?_
    refine lv_bipush (v := (44 : Int32)) hx hb dL_bounds_45 (by decide) ?_
    refine lv_icmp_ne (tgt := 96) hx hb dL_bounds_47 (by decide) (fun c_578 => ?_) (fun c_578 => absurd c_578 (by decide))
    refine lv_aload_n hx hb dL_bounds_96 rfl (lv_at hl 1 rfl) ?_
    refine lv_iload_n hx hb dL_bounds_97 rfl (lv_at hl 0 rfl) ?_
    refine lv_bipush (v := (9 : Int32)) hx hb dL_bounds_98 (by decide) ?_
    refine lv_idiv hx hb dL_bounds_100 (by decide) ?_
    refine lv_lit (b := (6 : Int32)) (by decide) ?_
    refine lv_bipush (v := (10 : Int32)) hx hb dL_bounds_101 (by decide) ?_
    refine lv_bipush (v := (20 : Int32)) hx hb dL_bounds_103 (by decide) ?_
    refine lv_iload_n hx hb dL_bounds_105 rfl (lv_at hl 0 rfl) ?_
    refine lv_bipush (v := (9 : Int32)) hx hb dL_bounds_106 (by decide) ?_
    refine lv_irem hx hb dL_bounds_108 (by decide) ?_
    refine lv_lit (b := (3 : Int32)) (by decide) ?_
    refine lv_iadd hx hb dL_bounds_109 ?_
    refine lv_lit (b := (23 : Int32)) (by decide) ?_
    have hFc := frw hD hS hA
    refine vx_calli (vx_runV (As := [.int (6 : Int32), .int (10 : Int32), .int (23 : Int32)]) (rest := []) ⟨hx, hb, hml, hown, hts⟩ (c_X7_state l hst dC dI cI h0 h0_1 h0_2 h0_3 h0_4 h0_5 h0_6 h0_7 h0_8 h0_9 h0_10 h0_11 h0_12 h0_13 h0_14 h0_15 h0_16 h0_17 h0_18 h0_19 h0_20 h0_21 h0_22 m_572 m_573 h0_25 h0_26 m_574 m_575 h0_29 h0_30 _ u_570 (6 : Int32) (10 : Int32) (23 : Int32) _ _ h) (cwV 3 hts (goodIn_up gB_X7_state) rfl rfl rfl (by decide +kernel) ⟨Nat.le_of_ble_eq_true rfl, Nat.le_of_ble_eq_true rfl⟩) (pbj_V hP hK hD hN hX hFc hS (ci := 7) (q0 := 0) rfl rfl) rfl rfl hl.1 rfl (lv_room (Nat.le_of_ble_eq_true rfl)) dL_bounds_110 ⟨Nat.le_of_ble_eq_true rfl, Nat.le_of_ble_eq_true rfl⟩) hS (fun q _ h => hFc q h) hFc (fun q _ h => hFc q h) (fun E9 ce9 q9 u t H locs ht hvm h hB hz1 hk1 hS hce hcv hcl => (show False from h).elim) (fun r_580 u_579 t H locs ht hvm h hB hz1 hk1 hS => ?_)
    obtain ⟨m_581, m_582, m_583, m_584, hP1, hD1⟩ := hB
    rw [ht] at hP1
    have hP : va_P (dC, dI) vwCl (lwO cI h0 h0_1 h0_2 h0_3 h0_4 h0_5 h0_6 h0_7 h0_8 h0_9 h0_10 h0_11 h0_12 h0_13 h0_14 h0_15 h0_16 h0_17 h0_18 h0_19 h0_20 h0_21 h0_22 m_581 m_582 h0_25 h0_26 m_583 m_584 h0_29 h0_30 u_579) H := hP1
    have hD : va_D A (lwO cI h0 h0_1 h0_2 h0_3 h0_4 h0_5 h0_6 h0_7 h0_8 h0_9 h0_10 h0_11 h0_12 h0_13 h0_14 h0_15 h0_16 h0_17 h0_18 h0_19 h0_20 h0_21 h0_22 m_581 m_582 h0_25 h0_26 m_583 m_584 h0_29 h0_30 u_579) := hD1.weaken (fun _ _ _ h => hFc _ h)
    refine W.widen (k := 100) (n := 10249) (Nat.le_of_ble_eq_true rfl) (Nat.le_of_ble_eq_true rfl) ?_
    obtain ⟨ht_, hf_⟩ := h
    refine lv_if_ne (tgt := 118) hx hb dL_bounds_113 (by decide) (fun c_585 => ?_) (fun c_585 => ?_)
    · have h := ht_ c_585
      refine lv_iinc (v := (58 : Int32)) (lv' := [(1, .int (58 : Int32)), (0, .ref h0)]) hx hb dL_bounds_118 hl (k := 0) rfl (by decide) (by decide) rfl (fun ls hl => ?_)
      refine lv_goto (tgt := 38) hx hb dL_bounds_121 (by decide) ?_
      refine lv_iload_n hx hb dL_bounds_38 rfl (lv_at hl 0 rfl) ?_
      refine lv_bipush (v := (60 : Int32)) hx hb dL_bounds_39 (by decide) ?_
      refine lv_icmp_ge (tgt := 124) hx hb dL_bounds_41 (by decide) (fun c_586 => absurd c_586 (by decide)) (fun c_586 => ?_)
      refine lv_iload_n hx hb dL_bounds_44 rfl (lv_at hl 0 rfl) ?_
      refine lv_bipush (v := (44 : Int32)) hx hb dL_bounds_45 (by decide) ?_
      refine lv_icmp_ne (tgt := 96) hx hb dL_bounds_47 (by decide) (fun c_587 => ?_) (fun c_587 => absurd c_587 (by decide))
      refine lv_aload_n hx hb dL_bounds_96 rfl (lv_at hl 1 rfl) ?_
      refine lv_iload_n hx hb dL_bounds_97 rfl (lv_at hl 0 rfl) ?_
      refine lv_bipush (v := (9 : Int32)) hx hb dL_bounds_98 (by decide) ?_
      refine lv_idiv hx hb dL_bounds_100 (by decide) ?_
      refine lv_lit (b := (6 : Int32)) (by decide) ?_
      refine lv_bipush (v := (10 : Int32)) hx hb dL_bounds_101 (by decide) ?_
      refine lv_bipush (v := (20 : Int32)) hx hb dL_bounds_103 (by decide) ?_
      refine lv_iload_n hx hb dL_bounds_105 rfl (lv_at hl 0 rfl) ?_
      refine lv_bipush (v := (9 : Int32)) hx hb dL_bounds_106 (by decide) ?_
      refine lv_irem hx hb dL_bounds_108 (by decide) ?_
      refine lv_lit (b := (4 : Int32)) (by decide) ?_
      refine lv_iadd hx hb dL_bounds_109 ?_
      refine lv_lit (b := (24 : Int32)) (by decide) ?_
      have hFc := frw hD hS hA
      refine vx_calli (vx_runV (As := [.int (6 : Int32), .int (10 : Int32), .int (24 : Int32)]) (rest := []) ⟨hx, hb, hml, hown, hts⟩ (c_X7_state l hst dC dI cI h0 h0_1 h0_2 h0_3 h0_4 h0_5 h0_6 h0_7 h0_8 h0_9 h0_10 h0_11 h0_12 h0_13 h0_14 h0_15 h0_16 h0_17 h0_18 h0_19 h0_20 h0_21 h0_22 m_581 m_582 h0_25 h0_26 m_583 m_584 h0_29 h0_30 _ u_579 (6 : Int32) (10 : Int32) (24 : Int32) _ _ h) (cwV 3 hts (goodIn_up gB_X7_state) rfl rfl rfl (by decide +kernel) ⟨Nat.le_of_ble_eq_true rfl, Nat.le_of_ble_eq_true rfl⟩) (pbj_V hP hK hD hN hX hFc hS (ci := 7) (q0 := 0) rfl rfl) rfl rfl hl.1 rfl (lv_room (Nat.le_of_ble_eq_true rfl)) dL_bounds_110 ⟨Nat.le_of_ble_eq_true rfl, Nat.le_of_ble_eq_true rfl⟩) hS (fun q _ h => hFc q h) hFc (fun q _ h => hFc q h) (fun E9 ce9 q9 u t H locs ht hvm h hB hz1 hk1 hS hce hcv hcl => (show False from h).elim) (fun r_589 u_588 t H locs ht hvm h hB hz1 hk1 hS => ?_)
      obtain ⟨m_590, m_591, m_592, m_593, hP1, hD1⟩ := hB
      rw [ht] at hP1
      have hP : va_P (dC, dI) vwCl (lwO cI h0 h0_1 h0_2 h0_3 h0_4 h0_5 h0_6 h0_7 h0_8 h0_9 h0_10 h0_11 h0_12 h0_13 h0_14 h0_15 h0_16 h0_17 h0_18 h0_19 h0_20 h0_21 h0_22 m_590 m_591 h0_25 h0_26 m_592 m_593 h0_29 h0_30 u_588) H := hP1
      have hD : va_D A (lwO cI h0 h0_1 h0_2 h0_3 h0_4 h0_5 h0_6 h0_7 h0_8 h0_9 h0_10 h0_11 h0_12 h0_13 h0_14 h0_15 h0_16 h0_17 h0_18 h0_19 h0_20 h0_21 h0_22 m_590 m_591 h0_25 h0_26 m_592 m_593 h0_29 h0_30 u_588) := hD1.weaken (fun _ _ _ h => hFc _ h)
      refine W.widen (k := 101) (n := 10255) (Nat.le_of_ble_eq_true rfl) (Nat.le_of_ble_eq_true rfl) ?_
      obtain ⟨ht_, hf_⟩ := h
      refine lv_if_ne (tgt := 118) hx hb dL_bounds_113 (by decide) (fun c_594 => ?_) (fun c_594 => ?_)
      · have h := ht_ c_594
        refine lv_iinc (v := (59 : Int32)) (lv' := [(1, .int (59 : Int32)), (0, .ref h0)]) hx hb dL_bounds_118 hl (k := 0) rfl (by decide) (by decide) rfl (fun ls hl => ?_)
        refine lv_goto (tgt := 38) hx hb dL_bounds_121 (by decide) ?_
        refine lv_iload_n hx hb dL_bounds_38 rfl (lv_at hl 0 rfl) ?_
        refine lv_bipush (v := (60 : Int32)) hx hb dL_bounds_39 (by decide) ?_
        refine lv_icmp_ge (tgt := 124) hx hb dL_bounds_41 (by decide) (fun c_595 => absurd c_595 (by decide)) (fun c_595 => ?_)
        refine lv_iload_n hx hb dL_bounds_44 rfl (lv_at hl 0 rfl) ?_
        refine lv_bipush (v := (44 : Int32)) hx hb dL_bounds_45 (by decide) ?_
        refine lv_icmp_ne (tgt := 96) hx hb dL_bounds_47 (by decide) (fun c_596 => ?_) (fun c_596 => absurd c_596 (by decide))
        refine lv_aload_n hx hb dL_bounds_96 rfl (lv_at hl 1 rfl) ?_
        refine lv_iload_n hx hb dL_bounds_97 rfl (lv_at hl 0 rfl) ?_
        refine lv_bipush (v := (9 : Int32)) hx hb dL_bounds_98 (by decide) ?_
        refine lv_idiv hx hb dL_bounds_100 (by decide) ?_
        refine lv_lit (b := (6 : Int32)) (by decide) ?_
        refine lv_bipush (v := (10 : Int32)) hx hb dL_bounds_101 (by decide) ?_
        refine lv_bipush (v := (20 : Int32)) hx hb dL_bounds_103 (by decide) ?_
        refine lv_iload_n hx hb dL_bounds_105 rfl (lv_at hl 0 rfl) ?_
        refine lv_bipush (v := (9 : Int32)) hx hb dL_bounds_106 (by decide) ?_
        refine lv_irem hx hb dL_bounds_108 (by decide) ?_
        refine lv_lit (b := (5 : Int32)) (by decide) ?_
        refine lv_iadd hx hb dL_bounds_109 ?_
        refine lv_lit (b := (25 : Int32)) (by decide) ?_
        have hFc := frw hD hS hA
        refine vx_calli (vx_runV (As := [.int (6 : Int32), .int (10 : Int32), .int (25 : Int32)]) (rest := []) ⟨hx, hb, hml, hown, hts⟩ (c_X7_state l hst dC dI cI h0 h0_1 h0_2 h0_3 h0_4 h0_5 h0_6 h0_7 h0_8 h0_9 h0_10 h0_11 h0_12 h0_13 h0_14 h0_15 h0_16 h0_17 h0_18 h0_19 h0_20 h0_21 h0_22 m_590 m_591 h0_25 h0_26 m_592 m_593 h0_29 h0_30 _ u_588 (6 : Int32) (10 : Int32) (25 : Int32) _ _ h) (cwV 3 hts (goodIn_up gB_X7_state) rfl rfl rfl (by decide +kernel) ⟨Nat.le_of_ble_eq_true rfl, Nat.le_of_ble_eq_true rfl⟩) (pbj_V hP hK hD hN hX hFc hS (ci := 7) (q0 := 0) rfl rfl) rfl rfl hl.1 rfl (lv_room (Nat.le_of_ble_eq_true rfl)) dL_bounds_110 ⟨Nat.le_of_ble_eq_true rfl, Nat.le_of_ble_eq_true rfl⟩) hS (fun q _ h => hFc q h) hFc (fun q _ h => hFc q h) (fun E9 ce9 q9 u t H locs ht hvm h hB hz1 hk1 hS hce hcv hcl => (show False from h).elim) (fun r_598 u_597 t H locs ht hvm h hB hz1 hk1 hS => ?_)
        obtain ⟨m_599, m_600, m_601, m_602, hP1, hD1⟩ := hB
        rw [ht] at hP1
        have hP : va_P (dC, dI) vwCl (lwO cI h0 h0_1 h0_2 h0_3 h0_4 h0_5 h0_6 h0_7 h0_8 h0_9 h0_10 h0_11 h0_12 h0_13 h0_14 h0_15 h0_16 h0_17 h0_18 h0_19 h0_20 h0_21 h0_22 m_599 m_600 h0_25 h0_26 m_601 m_602 h0_29 h0_30 u_597) H := hP1
        have hD : va_D A (lwO cI h0 h0_1 h0_2 h0_3 h0_4 h0_5 h0_6 h0_7 h0_8 h0_9 h0_10 h0_11 h0_12 h0_13 h0_14 h0_15 h0_16 h0_17 h0_18 h0_19 h0_20 h0_21 h0_22 m_599 m_600 h0_25 h0_26 m_601 m_602 h0_29 h0_30 u_597) := hD1.weaken (fun _ _ _ h => hFc _ h)
        refine W.widen (k := 102) (n := 10261) (Nat.le_of_ble_eq_true rfl) (Nat.le_of_ble_eq_true rfl) ?_
        obtain ⟨ht_, hf_⟩ := h
        refine lv_if_ne (tgt := 118) hx hb dL_bounds_113 (by decide) (fun c_603 => ?_) (fun c_603 => ?_)
        · have h := ht_ c_603
          refine lv_iinc (v := (60 : Int32)) (lv' := [(1, .int (60 : Int32)), (0, .ref h0)]) hx hb dL_bounds_118 hl (k := 0) rfl (by decide) (by decide) rfl (fun ls hl => ?_)
          refine lv_goto (tgt := 38) hx hb dL_bounds_121 (by decide) ?_
          refine lv_iload_n hx hb dL_bounds_38 rfl (lv_at hl 0 rfl) ?_
          refine lv_bipush (v := (60 : Int32)) hx hb dL_bounds_39 (by decide) ?_
          refine lv_icmp_ge (tgt := 124) hx hb dL_bounds_41 (by decide) (fun c_604 => ?_) (fun c_604 => absurd c_604 (by decide))
          refine lv_aload_n hx hb dL_bounds_124 rfl (lv_at hl 1 rfl) ?_
          refine lv_bipush (v := (-93 : Int32)) hx hb dL_bounds_125 (by decide) ?_
          have hFc := frw hD hS hA
          refine va_calli (va_runS (As := [.ref h0, .int (-93 : Int32)]) (rest := []) ⟨hx, hb, hml, hown, hts⟩ (c_L_comes l hst dC dI cI h0 h0_1 h0_2 h0_3 h0_4 h0_5 h0_6 h0_7 h0_8 h0_9 h0_10 h0_11 h0_12 h0_13 h0_14 h0_15 h0_16 h0_17 h0_18 h0_19 h0_20 h0_21 h0_22 m_599 m_600 h0_25 h0_26 m_601 m_602 h0_29 h0_30 _ u_597 (-93 : Int32) _ h) (va_cwS 2 hts (goodIn_up gB_L_comes) rfl rfl rfl (by decide +kernel) ⟨Nat.le_of_ble_eq_true rfl, Nat.le_of_ble_eq_true rfl⟩) (pbl_S hP hK hD hN hX hC hFc hS) rfl rfl hl.1 rfl (lv_room (Nat.le_of_ble_eq_true rfl)) dL_bounds_127 ⟨Nat.le_of_ble_eq_true rfl, Nat.le_of_ble_eq_true rfl⟩) hS (fun q _ h => hFc q h) hFc (fun r_606 u_605 t H locs ht hvm h hB hz1 hk1 hS => ?_)
          obtain ⟨m_607, m_608, m_609, m_610, hP1, hD1⟩ := hB
          rw [ht] at hP1
          have hP : va_P (dC, dI) vwCl (lwO cI h0 h0_1 h0_2 h0_3 h0_4 h0_5 h0_6 h0_7 h0_8 h0_9 h0_10 h0_11 h0_12 h0_13 h0_14 h0_15 h0_16 h0_17 h0_18 h0_19 h0_20 h0_21 h0_22 m_607 m_608 h0_25 h0_26 m_609 m_610 h0_29 h0_30 u_605) H := hP1
          have hD : va_D A (lwO cI h0 h0_1 h0_2 h0_3 h0_4 h0_5 h0_6 h0_7 h0_8 h0_9 h0_10 h0_11 h0_12 h0_13 h0_14 h0_15 h0_16 h0_17 h0_18 h0_19 h0_20 h0_21 h0_22 m_607 m_608 h0_25 h0_26 m_609 m_610 h0_29 h0_30 u_605) := hD1.weaken (fun _ _ _ h => hFc _ h)
          refine W.widen (k := 108) (n := 10297) (Nat.le_of_ble_eq_true rfl) (Nat.le_of_ble_eq_true rfl) ?_
          obtain ⟨ht_, hf_⟩ := h
          refine lv_if_eq (tgt := 185) hx hb dL_bounds_130 (by decide) (fun c_611 => ?_) (fun c_611 => ?_)
          · have h := ht_ c_611
            exact (show False from h).elim
          · have h := hf_ c_611
            refine lv_aload_n hx hb dL_bounds_133 rfl (lv_at hl 1 rfl) ?_
            have hFc := fr0 hA hS
            refine va_calli (va_runV (As := []) (rest := []) ⟨hx, hb, hml, hown, hts⟩ (c_X7_answers l dC dI cI h0 h0_1 h0_2 h0_3 h0_4 h0_5 h0_6 h0_7 h0_8 h0_9 h0_10 h0_11 h0_12 h0_13 h0_14 h0_15 h0_16 h0_17 h0_18 h0_19 h0_20 h0_21 h0_22 m_607 m_608 h0_25 h0_26 m_609 m_610 h0_29 h0_30 _ u_605 _ h) (cwV 0 hts (goodIn_up gB_X7_answers) rfl rfl rfl (by decide +kernel) ⟨Nat.le_of_ble_eq_true rfl, Nat.le_of_ble_eq_true rfl⟩) (pb_V hP hK hD hN (ci := 7) (q0 := 0) rfl rfl) rfl rfl hl.1 rfl (lv_room (Nat.le_of_ble_eq_true rfl)) dL_bounds_134 ⟨Nat.le_of_ble_eq_true rfl, Nat.le_of_ble_eq_true rfl⟩) hS (fun q _ h => hFc q h) hFc (fun r_613 u_612 t H locs ht hvm h hB hz1 hk1 hS => ?_)
            have hP := vaPk hP hk1
            refine lv_sipush (v := (1936 : Int32)) hx hb dL_bounds_137 (by decide) ?_
            obtain ⟨ht_, hf_⟩ := h
            refine lv_icmp_ne (tgt := 185) hx hb dL_bounds_140 (by decide) (fun c_614 => ?_) (fun c_614 => ?_)
            · have h := ht_ c_614
              exact (show False from h).elim
            · have h := hf_ c_614
              refine lv_aload_n hx hb dL_bounds_143 rfl (lv_at hl 1 rfl) ?_
              refine lv_iconst (v := (1 : Int32)) hx hb dL_bounds_144 (by decide) ?_
              have hFc := fr0 hA hS
              refine vx_calli (vx_runV (As := [.int (1 : Int32)]) (rest := []) ⟨hx, hb, hml, hown, hts⟩ (c_X7_termsFor l hst dC dI cI h0 h0_1 h0_2 h0_3 h0_4 h0_5 h0_6 h0_7 h0_8 h0_9 h0_10 h0_11 h0_12 h0_13 h0_14 h0_15 h0_16 h0_17 h0_18 h0_19 h0_20 h0_21 h0_22 m_607 m_608 h0_25 h0_26 m_609 m_610 h0_29 h0_30 _ u_605 (1 : Int32) _ _ h) (cwV 1 hts (goodIn_up gB_X7_termsFor) rfl rfl rfl (by decide +kernel) ⟨Nat.le_of_ble_eq_true rfl, Nat.le_of_ble_eq_true rfl⟩) (pbj_V hP hK hD hN hX hFc hS (ci := 7) (q0 := 0) rfl rfl) rfl rfl hl.1 rfl (lv_room (Nat.le_of_ble_eq_true rfl)) dL_bounds_145 ⟨Nat.le_of_ble_eq_true rfl, Nat.le_of_ble_eq_true rfl⟩) hS (fun q _ h => hFc q h) hFc (fun q _ h => hFc q h) (fun E9 ce9 q9 u t H locs ht hvm h hB hz1 hk1 hS hce hcv hcl => (show False from h).elim) (fun r_616 u_615 t H locs ht hvm h hB hz1 hk1 hS => ?_)
              have hP := vaPk hP hk1
              refine W.widen (k := 109) (n := 10303) (Nat.le_of_ble_eq_true rfl) (Nat.le_of_ble_eq_true rfl) ?_
              refine lv_bipush (v := (9 : Int32)) hx hb dL_bounds_148 (by decide) ?_
              obtain ⟨ht_, hf_⟩ := h
              refine lv_icmp_ne (tgt := 185) hx hb dL_bounds_150 (by decide) (fun c_617 => ?_) (fun c_617 => ?_)
              · have h := ht_ c_617
                exact (show False from h).elim
              · have h := hf_ c_617
                have hl : lv_has ls 3 [(0, .ref h0)] := lv_sub hl [1] rfl
                refine W.widen (k := 109) (n := 10303) (Nat.le_of_ble_eq_true rfl) (Nat.le_of_ble_eq_true rfl) ?_
                exact sg_L_bounds_10 l hst C0 hK hN hX hC hA h0 h0_1 h0_2 h0_3 h0_4 h0_5 h0_6 h0_7 h0_8 h0_9 h0_10 h0_11 h0_12 h0_13 h0_14 h0_15 h0_16 h0_17 h0_18 h0_19 h0_20 h0_21 h0_22 h0_25 h0_26 h0_29 h0_30 _ u_605 h m_607 m_608 m_609 m_610 _ _ hP hD hS _ hl
        · have h := hf_ c_603
          exact (show False from h).elim
      · have h := hf_ c_594
        exact (show False from h).elim
    · have h := hf_ c_585
      exact (show False from h).elim
  · have h := hf_ c_576
    exact (show False from h).elim
