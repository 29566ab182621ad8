set_option maxHeartbeats 4000000 in
set_option maxRecDepth 100000 in
theorem sg_L_bounds_14 (l : Launch) (hst : l.stackTraces = false) {p : Program} {e : Env} {s : State} {m : MethodId} {below : List Frame} {meth : Method} {c : Code} (C0 : LC p s m (([] : List Value).toArray) meth c cL_bounds 3 wq_bounds) {dC : Nat → ClassId} {dI : Nat → Nat → Nat} {cI : ClassId} (hK : va_K (dC, dI) vwCl [(cI, .int)] s) (hN : nk s) {A : Nat → Prop} (hX : xj A s) (hC : xnc s) (hA : ∀ q : Nat, s.heap.size ≤ q → A q) (h0 h0_1 h0_2 h0_3 h0_4 h0_5 h0_6 h0_7 h0_8 h0_9 h0_10 h0_11 h0_12 h0_13 h0_14 h0_15 h0_16 h0_17 h0_18 h0_19 h0_20 h0_21 h0_22 h0_25 h0_26 h0_29 h0_30 : Nat) (post : Int32 → Prop) (s0 : TriS) (h : P_L_bounds_14 s0 post) (h0_23 h0_24 h0_27 h0_28 : Nat) (H : Heap) (locs : List Loc) (hP : va_P (dC, dI) vwCl (lwO cI h0 h0_1 h0_2 h0_3 h0_4 h0_5 h0_6 h0_7 h0_8 h0_9 h0_10 h0_11 h0_12 h0_13 h0_14 h0_15 h0_16 h0_17 h0_18 h0_19 h0_20 h0_21 h0_22 h0_23 h0_24 h0_25 h0_26 h0_27 h0_28 h0_29 h0_30 s0) H) (hD : va_D A (lwO cI h0 h0_1 h0_2 h0_3 h0_4 h0_5 h0_6 h0_7 h0_8 h0_9 h0_10 h0_11 h0_12 h0_13 h0_14 h0_15 h0_16 h0_17 h0_18 h0_19 h0_20 h0_21 h0_22 h0_23 h0_24 h0_25 h0_26 h0_27 h0_28 h0_29 h0_30 s0)) (hS : va_S A s.heap H locs) (ls : Array Slot) (hl : lv_has ls 3 [(1, .ref h0), (2, .int (23 : Int32))]) : W p l e rm_L_bounds s m (([] : List Value).toArray) below meth c H locs 359 21452 (MQ below (Q_L_bounds dC dI cI A post) (([] : List Value).toArray) s mc_L_bounds ms_L_bounds A) (F0 m 221 ls []) := by
  obtain ⟨hx, hb, hr, hml, hown, hts, hlocks⟩ := id C0
  refine lv_iinc (v := (24 : Int32)) (lv' := [(2, .int (24 : Int32)), (1, .ref h0)]) hx hb dL_bounds_221 hl (k := 1) rfl (by decide) (by decide) rfl (fun ls hl => ?_)
  refine lv_goto (tgt := 197) hx hb dL_bounds_224 (by decide) ?_
  refine lv_iload_n hx hb dL_bounds_197 rfl (lv_at hl 0 rfl) ?_
  refine lv_bipush (v := (40 : Int32)) hx hb dL_bounds_198 (by decide) ?_
  refine lv_icmp_ge (tgt := 227) hx hb dL_bounds_200 (by decide) (fun c_864 => absurd c_864 (by decide)) (fun c_864 => ?_)
  refine lv_aload_n hx hb dL_bounds_203 rfl (lv_at hl 1 rfl) ?_
  refine lv_iconst (v := (2 : Int32)) hx hb dL_bounds_204 (by decide) ?_
  refine lv_iload_n hx hb dL_bounds_205 rfl (lv_at hl 0 rfl) ?_
  refine lv_imul hx hb dL_bounds_206 ?_
  refine lv_lit (b := (48 : Int32)) (by decide) ?_
  refine lv_iconst (v := (2 : Int32)) hx hb dL_bounds_207 (by decide) ?_
  refine lv_iload_n hx hb dL_bounds_208 rfl (lv_at hl 0 rfl) ?_
  refine lv_imul hx hb dL_bounds_209 ?_
  refine lv_lit (b := (48 : Int32)) (by decide) ?_
  refine lv_iconst (v := (2 : Int32)) hx hb dL_bounds_210 (by decide) ?_
  refine lv_iload_n hx hb dL_bounds_211 rfl (lv_at hl 0 rfl) ?_
  refine lv_imul hx hb dL_bounds_212 ?_
  refine lv_lit (b := (48 : Int32)) (by decide) ?_
  have hFc := frw hD hS hA
  refine vx_calli (vx_runV (As := [.int (48 : Int32), .int (48 : Int32), .int (48 : Int32)]) (rest := []) ⟨hx, hb, hml, hown, hts⟩ (c_X7_state l hst dC dI cI h0 h0_1 h0_2 h0_3 h0_4 h0_5 h0_6 h0_7 h0_8 h0_9 h0_10 h0_11 h0_12 h0_13 h0_14 h0_15 h0_16 h0_17 h0_18 h0_19 h0_20 h0_21 h0_22 h0_23 h0_24 h0_25 h0_26 h0_27 h0_28 h0_29 h0_30 _ s0 (48 : Int32) (48 : Int32) (48 : Int32) _ _ h) (cwV 3 hts (goodIn_up gB_X7_state) rfl rfl rfl (by decide +kernel) ⟨Nat.le_of_ble_eq_true rfl, Nat.le_of_ble_eq_true rfl⟩) (pbj_V hP hK hD hN hX hFc hS (ci := 7) (q0 := 0) rfl rfl) rfl rfl hl.1 rfl (lv_room (Nat.le_of_ble_eq_true rfl)) dL_bounds_213 ⟨Nat.le_of_ble_eq_true rfl, Nat.le_of_ble_eq_true rfl⟩) hS (fun q _ h => hFc q h) hFc (fun q _ h => hFc q h) (fun E9 ce9 q9 u t H locs ht hvm h hB hz1 hk1 hS hce hcv hcl => (show False from h).elim) (fun r_866 u_865 t H locs ht hvm h hB hz1 hk1 hS => ?_)
  obtain ⟨m_867, m_868, m_869, m_870, hP1, hD1⟩ := hB
  rw [ht] at hP1
  have hP : va_P (dC, dI) vwCl (lwO cI h0 h0_1 h0_2 h0_3 h0_4 h0_5 h0_6 h0_7 h0_8 h0_9 h0_10 h0_11 h0_12 h0_13 h0_14 h0_15 h0_16 h0_17 h0_18 h0_19 h0_20 h0_21 h0_22 m_867 m_868 h0_25 h0_26 m_869 m_870 h0_29 h0_30 u_865) H := hP1
  have hD : va_D A (lwO cI h0 h0_1 h0_2 h0_3 h0_4 h0_5 h0_6 h0_7 h0_8 h0_9 h0_10 h0_11 h0_12 h0_13 h0_14 h0_15 h0_16 h0_17 h0_18 h0_19 h0_20 h0_21 h0_22 m_867 m_868 h0_25 h0_26 m_869 m_870 h0_29 h0_30 u_865) := hD1.weaken (fun _ _ _ h => hFc _ h)
  refine W.widen (k := 360) (n := 21458) (Nat.le_of_ble_eq_true rfl) (Nat.le_of_ble_eq_true rfl) ?_
  obtain ⟨ht_, hf_⟩ := h
  refine lv_if_ne (tgt := 221) hx hb dL_bounds_216 (by decide) (fun c_871 => ?_) (fun c_871 => ?_)
  · have h := ht_ c_871
    refine lv_iinc (v := (25 : Int32)) (lv' := [(2, .int (25 : Int32)), (1, .ref h0)]) hx hb dL_bounds_221 hl (k := 0) rfl (by decide) (by decide) rfl (fun ls hl => ?_)
    refine lv_goto (tgt := 197) hx hb dL_bounds_224 (by decide) ?_
    refine lv_iload_n hx hb dL_bounds_197 rfl (lv_at hl 0 rfl) ?_
    refine lv_bipush (v := (40 : Int32)) hx hb dL_bounds_198 (by decide) ?_
    refine lv_icmp_ge (tgt := 227) hx hb dL_bounds_200 (by decide) (fun c_872 => absurd c_872 (by decide)) (fun c_872 => ?_)
    refine lv_aload_n hx hb dL_bounds_203 rfl (lv_at hl 1 rfl) ?_
    refine lv_iconst (v := (2 : Int32)) hx hb dL_bounds_204 (by decide) ?_
    refine lv_iload_n hx hb dL_bounds_205 rfl (lv_at hl 0 rfl) ?_
    refine lv_imul hx hb dL_bounds_206 ?_
    refine lv_lit (b := (50 : Int32)) (by decide) ?_
    refine lv_iconst (v := (2 : Int32)) hx hb dL_bounds_207 (by decide) ?_
    refine lv_iload_n hx hb dL_bounds_208 rfl (lv_at hl 0 rfl) ?_
    refine lv_imul hx hb dL_bounds_209 ?_
    refine lv_lit (b := (50 : Int32)) (by decide) ?_
    refine lv_iconst (v := (2 : Int32)) hx hb dL_bounds_210 (by decide) ?_
    refine lv_iload_n hx hb dL_bounds_211 rfl (lv_at hl 0 rfl) ?_
    refine lv_imul hx hb dL_bounds_212 ?_
    refine lv_lit (b := (50 : Int32)) (by decide) ?_
    have hFc := frw hD hS hA
    refine vx_calli (vx_runV (As := [.int (50 : Int32), .int (50 : Int32), .int (50 : Int32)]) (rest := []) ⟨hx, hb, hml, hown, hts⟩ (c_X7_state l hst dC dI cI h0 h0_1 h0_2 h0_3 h0_4 h0_5 h0_6 h0_7 h0_8 h0_9 h0_10 h0_11 h0_12 h0_13 h0_14 h0_15 h0_16 h0_17 h0_18 h0_19 h0_20 h0_21 h0_22 m_867 m_868 h0_25 h0_26 m_869 m_870 h0_29 h0_30 _ u_865 (50 : Int32) (50 : Int32) (50 : Int32) _ _ h) (cwV 3 hts (goodIn_up gB_X7_state) rfl rfl rfl (by decide +kernel) ⟨Nat.le_of_ble_eq_true rfl, Nat.le_of_ble_eq_true rfl⟩) (pbj_V hP hK hD hN hX hFc hS (ci := 7) (q0 := 0) rfl rfl) rfl rfl hl.1 rfl (lv_room (Nat.le_of_ble_eq_true rfl)) dL_bounds_213 ⟨Nat.le_of_ble_eq_true rfl, Nat.le_of_ble_eq_true rfl⟩) hS (fun q _ h => hFc q h) hFc (fun q _ h => hFc q h) (fun E9 ce9 q9 u t H locs ht hvm h hB hz1 hk1 hS hce hcv hcl => (show False from h).elim) (fun r_874 u_873 t H locs ht hvm h hB hz1 hk1 hS => ?_)
    obtain ⟨m_875, m_876, m_877, m_878, hP1, hD1⟩ := hB
    rw [ht] at hP1
    have hP : va_P (dC, dI) vwCl (lwO cI h0 h0_1 h0_2 h0_3 h0_4 h0_5 h0_6 h0_7 h0_8 h0_9 h0_10 h0_11 h0_12 h0_13 h0_14 h0_15 h0_16 h0_17 h0_18 h0_19 h0_20 h0_21 h0_22 m_875 m_876 h0_25 h0_26 m_877 m_878 h0_29 h0_30 u_873) H := hP1
    have hD : va_D A (lwO cI h0 h0_1 h0_2 h0_3 h0_4 h0_5 h0_6 h0_7 h0_8 h0_9 h0_10 h0_11 h0_12 h0_13 h0_14 h0_15 h0_16 h0_17 h0_18 h0_19 h0_20 h0_21 h0_22 m_875 m_876 h0_25 h0_26 m_877 m_878 h0_29 h0_30 u_873) := hD1.weaken (fun _ _ _ h => hFc _ h)
    refine W.widen (k := 361) (n := 21464) (Nat.le_of_ble_eq_true rfl) (Nat.le_of_ble_eq_true rfl) ?_
    obtain ⟨ht_, hf_⟩ := h
    refine lv_if_ne (tgt := 221) hx hb dL_bounds_216 (by decide) (fun c_879 => ?_) (fun c_879 => ?_)
    · have h := ht_ c_879
      refine lv_iinc (v := (26 : Int32)) (lv' := [(2, .int (26 : Int32)), (1, .ref h0)]) hx hb dL_bounds_221 hl (k := 0) rfl (by decide) (by decide) rfl (fun ls hl => ?_)
      refine lv_goto (tgt := 197) hx hb dL_bounds_224 (by decide) ?_
      refine lv_iload_n hx hb dL_bounds_197 rfl (lv_at hl 0 rfl) ?_
      refine lv_bipush (v := (40 : Int32)) hx hb dL_bounds_198 (by decide) ?_
      refine lv_icmp_ge (tgt := 227) hx hb dL_bounds_200 (by decide) (fun c_880 => absurd c_880 (by decide)) (fun c_880 => ?_)
      refine lv_aload_n hx hb dL_bounds_203 rfl (lv_at hl 1 rfl) ?_
      refine lv_iconst (v := (2 : Int32)) hx hb dL_bounds_204 (by decide) ?_
      refine lv_iload_n hx hb dL_bounds_205 rfl (lv_at hl 0 rfl) ?_
      refine lv_imul hx hb dL_bounds_206 ?_
      refine lv_lit (b := (52 : Int32)) (by decide) ?_
      refine lv_iconst (v := (2 : Int32)) hx hb dL_bounds_207 (by decide) ?_
      refine lv_iload_n hx hb dL_bounds_208 rfl (lv_at hl 0 rfl) ?_
      refine lv_imul hx hb dL_bounds_209 ?_
      refine lv_lit (b := (52 : Int32)) (by decide) ?_
      refine lv_iconst (v := (2 : Int32)) hx hb dL_bounds_210 (by decide) ?_
      refine lv_iload_n hx hb dL_bounds_211 rfl (lv_at hl 0 rfl) ?_
      refine lv_imul hx hb dL_bounds_212 ?_
      refine lv_lit (b := (52 : Int32)) (by decide) ?_
      have hFc := frw hD hS hA
      refine vx_calli (vx_runV (As := [.int (52 : Int32), .int (52 : Int32), .int (52 : Int32)]) (rest := []) ⟨hx, hb, hml, hown, hts⟩ (c_X7_state l hst dC dI cI h0 h0_1 h0_2 h0_3 h0_4 h0_5 h0_6 h0_7 h0_8 h0_9 h0_10 h0_11 h0_12 h0_13 h0_14 h0_15 h0_16 h0_17 h0_18 h0_19 h0_20 h0_21 h0_22 m_875 m_876 h0_25 h0_26 m_877 m_878 h0_29 h0_30 _ u_873 (52 : Int32) (52 : Int32) (52 : Int32) _ _ h) (cwV 3 hts (goodIn_up gB_X7_state) rfl rfl rfl (by decide +kernel) ⟨Nat.le_of_ble_eq_true rfl, Nat.le_of_ble_eq_true rfl⟩) (pbj_V hP hK hD hN hX hFc hS (ci := 7) (q0 := 0) rfl rfl) rfl rfl hl.1 rfl (lv_room (Nat.le_of_ble_eq_true rfl)) dL_bounds_213 ⟨Nat.le_of_ble_eq_true rfl, Nat.le_of_ble_eq_true rfl⟩) hS (fun q _ h => hFc q h) hFc (fun q _ h => hFc q h) (fun E9 ce9 q9 u t H locs ht hvm h hB hz1 hk1 hS hce hcv hcl => (show False from h).elim) (fun r_882 u_881 t H locs ht hvm h hB hz1 hk1 hS => ?_)
      obtain ⟨m_883, m_884, m_885, m_886, hP1, hD1⟩ := hB
      rw [ht] at hP1
      have hP : va_P (dC, dI) vwCl (lwO cI h0 h0_1 h0_2 h0_3 h0_4 h0_5 h0_6 h0_7 h0_8 h0_9 h0_10 h0_11 h0_12 h0_13 h0_14 h0_15 h0_16 h0_17 h0_18 h0_19 h0_20 h0_21 h0_22 m_883 m_884 h0_25 h0_26 m_885 m_886 h0_29 h0_30 u_881) H := hP1
      have hD : va_D A (lwO cI h0 h0_1 h0_2 h0_3 h0_4 h0_5 h0_6 h0_7 h0_8 h0_9 h0_10 h0_11 h0_12 h0_13 h0_14 h0_15 h0_16 h0_17 h0_18 h0_19 h0_20 h0_21 h0_22 m_883 m_884 h0_25 h0_26 m_885 m_886 h0_29 h0_30 u_881) := hD1.weaken (fun _ _ _ h => hFc _ h)
      refine W.widen (k := 362) (n := 21470) (Nat.le_of_ble_eq_true rfl) (Nat.le_of_ble_eq_true rfl) ?_
      obtain ⟨ht_, hf_⟩ := h
      refine lv_if_ne (tgt := 221) hx hb dL_bounds_216 (by decide) (fun c_887 => ?_) (fun c_887 => ?_)
      · have h := ht_ c_887
        refine lv_iinc (v := (27 : Int32)) (lv' := [(2, .int (27 : Int32)), (1, .ref h0)]) hx hb dL_bounds_221 hl (k := 0) rfl (by decide) (by decide) rfl (fun ls hl => ?_)
        refine lv_goto (tgt := 197) hx hb dL_bounds_224 (by decide) ?_
        refine lv_iload_n hx hb dL_bounds_197 rfl (lv_at hl 0 rfl) ?_
        refine lv_bipush (v := (40 : Int32)) hx hb dL_bounds_198 (by decide) ?_
        refine lv_icmp_ge (tgt := 227) hx hb dL_bounds_200 (by decide) (fun c_888 => absurd c_888 (by decide)) (fun c_888 => ?_)
        refine lv_aload_n hx hb dL_bounds_203 rfl (lv_at hl 1 rfl) ?_
        refine lv_iconst (v := (2 : Int32)) hx hb dL_bounds_204 (by decide) ?_
        refine lv_iload_n hx hb dL_bounds_205 rfl (lv_at hl 0 rfl) ?_
        refine lv_imul hx hb dL_bounds_206 ?_
        refine lv_lit (b := (54 : Int32)) (by decide) ?_
        refine lv_iconst (v := (2 : Int32)) hx hb dL_bounds_207 (by decide) ?_
        refine lv_iload_n hx hb dL_bounds_208 rfl (lv_at hl 0 rfl) ?_
        refine lv_imul hx hb dL_bounds_209 ?_
        refine lv_lit (b := (54 : Int32)) (by decide) ?_
        refine lv_iconst (v := (2 : Int32)) hx hb dL_bounds_210 (by decide) ?_
        refine lv_iload_n hx hb dL_bounds_211 rfl (lv_at hl 0 rfl) ?_
        refine lv_imul hx hb dL_bounds_212 ?_
        refine lv_lit (b := (54 : Int32)) (by decide) ?_
        have hFc := frw hD hS hA
        refine vx_calli (vx_runV (As := [.int (54 : Int32), .int (54 : Int32), .int (54 : Int32)]) (rest := []) ⟨hx, hb, hml, hown, hts⟩ (c_X7_state l hst dC dI cI h0 h0_1 h0_2 h0_3 h0_4 h0_5 h0_6 h0_7 h0_8 h0_9 h0_10 h0_11 h0_12 h0_13 h0_14 h0_15 h0_16 h0_17 h0_18 h0_19 h0_20 h0_21 h0_22 m_883 m_884 h0_25 h0_26 m_885 m_886 h0_29 h0_30 _ u_881 (54 : Int32) (54 : Int32) (54 : Int32) _ _ h) (cwV 3 hts (goodIn_up gB_X7_state) rfl rfl rfl (by decide +kernel) ⟨Nat.le_of_ble_eq_true rfl, Nat.le_of_ble_eq_true rfl⟩) (pbj_V hP hK hD hN hX hFc hS (ci := 7) (q0 := 0) rfl rfl) rfl rfl hl.1 rfl (lv_room (Nat.le_of_ble_eq_true rfl)) dL_bounds_213 ⟨Nat.le_of_ble_eq_true rfl, Nat.le_of_ble_eq_true rfl⟩) hS (fun q _ h => hFc q h) hFc (fun q _ h => hFc q h) (fun E9 ce9 q9 u t H locs ht hvm h hB hz1 hk1 hS hce hcv hcl => (show False from h).elim) (fun r_890 u_889 t H locs ht hvm h hB hz1 hk1 hS => ?_)
        obtain ⟨m_891, m_892, m_893, m_894, hP1, hD1⟩ := hB
        rw [ht] at hP1
        have hP : va_P (dC, dI) vwCl (lwO cI h0 h0_1 h0_2 h0_3 h0_4 h0_5 h0_6 h0_7 h0_8 h0_9 h0_10 h0_11 h0_12 h0_13 h0_14 h0_15 h0_16 h0_17 h0_18 h0_19 h0_20 h0_21 h0_22 m_891 m_892 h0_25 h0_26 m_893 m_894 h0_29 h0_30 u_889) H := hP1
        have hD : va_D A (lwO cI h0 h0_1 h0_2 h0_3 h0_4 h0_5 h0_6 h0_7 h0_8 h0_9 h0_10 h0_11 h0_12 h0_13 h0_14 h0_15 h0_16 h0_17 h0_18 h0_19 h0_20 h0_21 h0_22 m_891 m_892 h0_25 h0_26 m_893 m_894 h0_29 h0_30 u_889) := hD1.weaken (fun _ _ _ h => hFc _ h)
        refine W.widen (k := 363) (n := 21476) (Nat.le_of_ble_eq_true rfl) (Nat.le_of_ble_eq_true rfl) ?_
        obtain ⟨ht_, hf_⟩ := h
        refine lv_if_ne (tgt := 221) hx hb dL_bounds_216 (by decide) (fun c_895 => ?_) (fun c_895 => ?_)
        · have h := ht_ c_895
          refine lv_iinc (v := (28 : Int32)) (lv' := [(2, .int (28 : Int32)), (1, .ref h0)]) hx hb dL_bounds_221 hl (k := 0) rfl (by decide) (by decide) rfl (fun ls hl => ?_)
          refine lv_goto (tgt := 197) hx hb dL_bounds_224 (by decide) ?_
          refine lv_iload_n hx hb dL_bounds_197 rfl (lv_at hl 0 rfl) ?_
          refine lv_bipush (v := (40 : Int32)) hx hb dL_bounds_198 (by decide) ?_
          refine lv_icmp_ge (tgt := 227) hx hb dL_bounds_200 (by decide) (fun c_896 => absurd c_896 (by decide)) (fun c_896 => ?_)
          refine lv_aload_n hx hb dL_bounds_203 rfl (lv_at hl 1 rfl) ?_
          refine lv_iconst (v := (2 : Int32)) hx hb dL_bounds_204 (by decide) ?_
          refine lv_iload_n hx hb dL_bounds_205 rfl (lv_at hl 0 rfl) ?_
          refine lv_imul hx hb dL_bounds_206 ?_
          refine lv_lit (b := (56 : Int32)) (by decide) ?_
          refine lv_iconst (v := (2 : Int32)) hx hb dL_bounds_207 (by decide) ?_
          refine lv_iload_n hx hb dL_bounds_208 rfl (lv_at hl 0 rfl) ?_
          refine lv_imul hx hb dL_bounds_209 ?_
          refine lv_lit (b := (56 : Int32)) (by decide) ?_
          refine lv_iconst (v := (2 : Int32)) hx hb dL_bounds_210 (by decide) ?_
          refine lv_iload_n hx hb dL_bounds_211 rfl (lv_at hl 0 rfl) ?_
          refine lv_imul hx hb dL_bounds_212 ?_
          refine lv_lit (b := (56 : Int32)) (by decide) ?_
          have hFc := frw hD hS hA
          refine vx_calli (vx_runV (As := [.int (56 : Int32), .int (56 : Int32), .int (56 : Int32)]) (rest := []) ⟨hx, hb, hml, hown, hts⟩ (c_X7_state l hst dC dI cI h0 h0_1 h0_2 h0_3 h0_4 h0_5 h0_6 h0_7 h0_8 h0_9 h0_10 h0_11 h0_12 h0_13 h0_14 h0_15 h0_16 h0_17 h0_18 h0_19 h0_20 h0_21 h0_22 m_891 m_892 h0_25 h0_26 m_893 m_894 h0_29 h0_30 _ u_889 (56 : Int32) (56 : Int32) (56 : Int32) _ _ h) (cwV 3 hts (goodIn_up gB_X7_state) rfl rfl rfl (by decide +kernel) ⟨Nat.le_of_ble_eq_true rfl, Nat.le_of_ble_eq_true rfl⟩) (pbj_V hP hK hD hN hX hFc hS (ci := 7) (q0 := 0) rfl rfl) rfl rfl hl.1 rfl (lv_room (Nat.le_of_ble_eq_true rfl)) dL_bounds_213 ⟨Nat.le_of_ble_eq_true rfl, Nat.le_of_ble_eq_true rfl⟩) hS (fun q _ h => hFc q h) hFc (fun q _ h => hFc q h) (fun E9 ce9 q9 u t H locs ht hvm h hB hz1 hk1 hS hce hcv hcl => (show False from h).elim) (fun r_898 u_897 t H locs ht hvm h hB hz1 hk1 hS => ?_)
          obtain ⟨m_899, m_900, m_901, m_902, hP1, hD1⟩ := hB
          rw [ht] at hP1
          have hP : va_P (dC, dI) vwCl (lwO cI h0 h0_1 h0_2 h0_3 h0_4 h0_5 h0_6 h0_7 h0_8 h0_9 h0_10 h0_11 h0_12 h0_13 h0_14 h0_15 h0_16 h0_17 h0_18 h0_19 h0_20 h0_21 h0_22 m_899 m_900 h0_25 h0_26 m_901 m_902 h0_29 h0_30 u_897) H := hP1
          have hD : va_D A (lwO cI h0 h0_1 h0_2 h0_3 h0_4 h0_5 h0_6 h0_7 h0_8 h0_9 h0_10 h0_11 h0_12 h0_13 h0_14 h0_15 h0_16 h0_17 h0_18 h0_19 h0_20 h0_21 h0_22 m_899 m_900 h0_25 h0_26 m_901 m_902 h0_29 h0_30 u_897) := hD1.weaken (fun _ _ _ h => hFc _ h)
          refine W.widen (k := 364) (n := 21482) (Nat.le_of_ble_eq_true rfl) (Nat.le_of_ble_eq_true rfl) ?_
          obtain ⟨ht_, hf_⟩ := h
          refine lv_if_ne (tgt := 221) hx hb dL_bounds_216 (by decide) (fun c_903 => ?_) (fun c_903 => ?_)
          · have h := ht_ c_903
            refine lv_iinc (v := (29 : Int32)) (lv' := [(2, .int (29 : Int32)), (1, .ref h0)]) hx hb dL_bounds_221 hl (k := 0) rfl (by decide) (by decide) rfl (fun ls hl => ?_)
            refine lv_goto (tgt := 197) hx hb dL_bounds_224 (by decide) ?_
            refine lv_iload_n hx hb dL_bounds_197 rfl (lv_at hl 0 rfl) ?_
            refine lv_bipush (v := (40 : Int32)) hx hb dL_bounds_198 (by decide) ?_
            refine lv_icmp_ge (tgt := 227) hx hb dL_bounds_200 (by decide) (fun c_904 => absurd c_904 (by decide)) (fun c_904 => ?_)
            refine lv_aload_n hx hb dL_bounds_203 rfl (lv_at hl 1 rfl) ?_
            refine lv_iconst (v := (2 : Int32)) hx hb dL_bounds_204 (by decide) ?_
            refine lv_iload_n hx hb dL_bounds_205 rfl (lv_at hl 0 rfl) ?_
            refine lv_imul hx hb dL_bounds_206 ?_
            refine lv_lit (b := (58 : Int32)) (by decide) ?_
            refine lv_iconst (v := (2 : Int32)) hx hb dL_bounds_207 (by decide) ?_
            refine lv_iload_n hx hb dL_bounds_208 rfl (lv_at hl 0 rfl) ?_
            refine lv_imul hx hb dL_bounds_209 ?_
            refine lv_lit (b := (58 : Int32)) (by decide) ?_
            refine lv_iconst (v := (2 : Int32)) hx hb dL_bounds_210 (by decide) ?_
            refine lv_iload_n hx hb dL_bounds_211 rfl (lv_at hl 0 rfl) ?_
            refine lv_imul hx hb dL_bounds_212 ?_
            refine lv_lit (b := (58 : Int32)) (by decide) ?_
            have hFc := frw hD hS hA
            refine vx_calli (vx_runV (As := [.int (58 : Int32), .int (58 : Int32), .int (58 : Int32)]) (rest := []) ⟨hx, hb, hml, hown, hts⟩ (c_X7_state l hst dC dI cI h0 h0_1 h0_2 h0_3 h0_4 h0_5 h0_6 h0_7 h0_8 h0_9 h0_10 h0_11 h0_12 h0_13 h0_14 h0_15 h0_16 h0_17 h0_18 h0_19 h0_20 h0_21 h0_22 m_899 m_900 h0_25 h0_26 m_901 m_902 h0_29 h0_30 _ u_897 (58 : Int32) (58 : Int32) (58 : Int32) _ _ h) (cwV 3 hts (goodIn_up gB_X7_state) rfl rfl rfl (by decide +kernel) ⟨Nat.le_of_ble_eq_true rfl, Nat.le_of_ble_eq_true rfl⟩) (pbj_V hP hK hD hN hX hFc hS (ci := 7) (q0 := 0) rfl rfl) rfl rfl hl.1 rfl (lv_room (Nat.le_of_ble_eq_true rfl)) dL_bounds_213 ⟨Nat.le_of_ble_eq_true rfl, Nat.le_of_ble_eq_true rfl⟩) hS (fun q _ h => hFc q h) hFc (fun q _ h => hFc q h) (fun E9 ce9 q9 u t H locs ht hvm h hB hz1 hk1 hS hce hcv hcl => (show False from h).elim) (fun r_906 u_905 t H locs ht hvm h hB hz1 hk1 hS => ?_)
            obtain ⟨m_907, m_908, m_909, m_910, hP1, hD1⟩ := hB
            rw [ht] at hP1
            have hP : va_P (dC, dI) vwCl (lwO cI h0 h0_1 h0_2 h0_3 h0_4 h0_5 h0_6 h0_7 h0_8 h0_9 h0_10 h0_11 h0_12 h0_13 h0_14 h0_15 h0_16 h0_17 h0_18 h0_19 h0_20 h0_21 h0_22 m_907 m_908 h0_25 h0_26 m_909 m_910 h0_29 h0_30 u_905) H := hP1
            have hD : va_D A (lwO cI h0 h0_1 h0_2 h0_3 h0_4 h0_5 h0_6 h0_7 h0_8 h0_9 h0_10 h0_11 h0_12 h0_13 h0_14 h0_15 h0_16 h0_17 h0_18 h0_19 h0_20 h0_21 h0_22 m_907 m_908 h0_25 h0_26 m_909 m_910 h0_29 h0_30 u_905) := hD1.weaken (fun _ _ _ h => hFc _ h)
            refine W.widen (k := 365) (n := 21488) (Nat.le_of_ble_eq_true rfl) (Nat.le_of_ble_eq_true rfl) ?_
            obtain ⟨ht_, hf_⟩ := h
            refine lv_if_ne (tgt := 221) hx hb dL_bounds_216 (by decide) (fun c_911 => ?_) (fun c_911 => ?_)
            · have h := ht_ c_911
              refine lv_iinc (v := (30 : Int32)) (lv' := [(2, .int (30 : Int32)), (1, .ref h0)]) hx hb dL_bounds_221 hl (k := 0) rfl (by decide) (by decide) rfl (fun ls hl => ?_)
              refine lv_goto (tgt := 197) hx hb dL_bounds_224 (by decide) ?_
              refine lv_iload_n hx hb dL_bounds_197 rfl (lv_at hl 0 rfl) ?_
              refine lv_bipush (v := (40 : Int32)) hx hb dL_bounds_198 (by decide) ?_
              refine lv_icmp_ge (tgt := 227) hx hb dL_bounds_200 (by decide) (fun c_912 => absurd c_912 (by decide)) (fun c_912 => ?_)
              refine lv_aload_n hx hb dL_bounds_203 rfl (lv_at hl 1 rfl) ?_
              refine lv_iconst (v := (2 : Int32)) hx hb dL_bounds_204 (by decide) ?_
              refine lv_iload_n hx hb dL_bounds_205 rfl (lv_at hl 0 rfl) ?_
              refine lv_imul hx hb dL_bounds_206 ?_
              refine lv_lit (b := (60 : Int32)) (by decide) ?_
              refine lv_iconst (v := (2 : Int32)) hx hb dL_bounds_207 (by decide) ?_
              refine lv_iload_n hx hb dL_bounds_208 rfl (lv_at hl 0 rfl) ?_
              refine lv_imul hx hb dL_bounds_209 ?_
              refine lv_lit (b := (60 : Int32)) (by decide) ?_
              refine lv_iconst (v := (2 : Int32)) hx hb dL_bounds_210 (by decide) ?_
              refine lv_iload_n hx hb dL_bounds_211 rfl (lv_at hl 0 rfl) ?_
              refine lv_imul hx hb dL_bounds_212 ?_
              refine lv_lit (b := (60 : Int32)) (by decide) ?_
              have hFc := frw hD hS hA
              refine vx_calli (vx_runV (As := [.int (60 : Int32), .int (60 : Int32), .int (60 : Int32)]) (rest := []) ⟨hx, hb, hml, hown, hts⟩ (c_X7_state l hst dC dI cI h0 h0_1 h0_2 h0_3 h0_4 h0_5 h0_6 h0_7 h0_8 h0_9 h0_10 h0_11 h0_12 h0_13 h0_14 h0_15 h0_16 h0_17 h0_18 h0_19 h0_20 h0_21 h0_22 m_907 m_908 h0_25 h0_26 m_909 m_910 h0_29 h0_30 _ u_905 (60 : Int32) (60 : Int32) (60 : Int32) _ _ h) (cwV 3 hts (goodIn_up gB_X7_state) rfl rfl rfl (by decide +kernel) ⟨Nat.le_of_ble_eq_true rfl, Nat.le_of_ble_eq_true rfl⟩) (pbj_V hP hK hD hN hX hFc hS (ci := 7) (q0 := 0) rfl rfl) rfl rfl hl.1 rfl (lv_room (Nat.le_of_ble_eq_true rfl)) dL_bounds_213 ⟨Nat.le_of_ble_eq_true rfl, Nat.le_of_ble_eq_true rfl⟩) hS (fun q _ h => hFc q h) hFc (fun q _ h => hFc q h) (fun E9 ce9 q9 u t H locs ht hvm h hB hz1 hk1 hS hce hcv hcl => (show False from h).elim) (fun r_914 u_913 t H locs ht hvm h hB hz1 hk1 hS => ?_)
              obtain ⟨m_915, m_916, m_917, m_918, hP1, hD1⟩ := hB
              rw [ht] at hP1
              have hP : va_P (dC, dI) vwCl (lwO cI h0 h0_1 h0_2 h0_3 h0_4 h0_5 h0_6 h0_7 h0_8 h0_9 h0_10 h0_11 h0_12 h0_13 h0_14 h0_15 h0_16 h0_17 h0_18 h0_19 h0_20 h0_21 h0_22 m_915 m_916 h0_25 h0_26 m_917 m_918 h0_29 h0_30 u_913) H := hP1
              have hD : va_D A (lwO cI h0 h0_1 h0_2 h0_3 h0_4 h0_5 h0_6 h0_7 h0_8 h0_9 h0_10 h0_11 h0_12 h0_13 h0_14 h0_15 h0_16 h0_17 h0_18 h0_19 h0_20 h0_21 h0_22 m_915 m_916 h0_25 h0_26 m_917 m_918 h0_29 h0_30 u_913) := hD1.weaken (fun _ _ _ h => hFc _ h)
              refine W.widen (k := 366) (n := 21494) (Nat.le_of_ble_eq_true rfl) (Nat.le_of_ble_eq_true rfl) ?_
              obtain ⟨ht_, hf_⟩ := h
              refine lv_if_ne (tgt := 221) hx hb dL_bounds_216 (by decide) (fun c_919 => ?_) (fun c_919 => ?_)
              · have h := ht_ c_919
                have hl : lv_has ls 3 [(1, .ref h0), (2, .int (30 : Int32))] := lv_sub hl [1, 0] rfl
                refine W.widen (k := 366) (n := 21494) (Nat.le_of_ble_eq_true rfl) (Nat.le_of_ble_eq_true rfl) ?_
                exact sg_L_bounds_15 l hst C0 hK hN hX hC hA h0 h0_1 h0_2 h0_3 h0_4 h0_5 h0_6 h0_7 h0_8 h0_9 h0_10 h0_11 h0_12 h0_13 h0_14 h0_15 h0_16 h0_17 h0_18 h0_19 h0_20 h0_21 h0_22 h0_25 h0_26 h0_29 h0_30 _ u_913 h m_915 m_916 m_917 m_918 _ _ hP hD hS _ hl
              · have h := hf_ c_919
                exact (show False from h).elim
            · have h := hf_ c_911
              exact (show False from h).elim
          · have h := hf_ c_903
            exact (show False from h).elim
        · have h := hf_ c_895
          exact (show False from h).elim
      · have h := hf_ c_887
        exact (show False from h).elim
    · have h := hf_ c_879
      exact (show False from h).elim
  · have h := hf_ c_871
    exact (show False from h).elim
set_option maxHeartbeats 4000000 in
set_option maxRecDepth 100000 in
theorem sg_L_bounds_13 (l : Launch) (hst : l.stackTraces = false) {p : Program} {e : Env} {s : State} {m : MethodId} {below : List Frame} {meth : Method} {c : Code} (C0 : LC p s m (([] : List Value).toArray) meth c cL_bounds 3 wq_bounds) {dC : Nat → ClassId} {dI : Nat → Nat → Nat} {cI : ClassId} (hK : va_K (dC, dI) vwCl [(cI, .int)] s) (hN : nk s) {A : Nat → Prop} (hX : xj A s) (hC : xnc s) (hA : ∀ q : Nat, s.heap.size ≤ q → A q) (h0 h0_1 h0_2 h0_3 h0_4 h0_5 h0_6 h0_7 h0_8 h0_9 h0_10 h0_11 h0_12 h0_13 h0_14 h0_15 h0_16 h0_17 h0_18 h0_19 h0_20 h0_21 h0_22 h0_25 h0_26 h0_29 h0_30 : Nat) (post : Int32 → Prop) (s0 : TriS) (h : P_L_bounds_13 s0 post) (h0_23 h0_24 h0_27 h0_28 : Nat) (H : Heap) (locs : List Loc) (hP : va_P (dC, dI) vwCl (lwO cI h0 h0_1 h0_2 h0_3 h0_4 h0_5 h0_6 h0_7 h0_8 h0_9 h0_10 h0_11 h0_12 h0_13 h0_14 h0_15 h0_16 h0_17 h0_18 h0_19 h0_20 h0_21 h0_22 h0_23 h0_24 h0_25 h0_26 h0_27 h0_28 h0_29 h0_30 s0) H) (hD : va_D A (lwO cI h0 h0_1 h0_2 h0_3 h0_4 h0_5 h0_6 h0_7 h0_8 h0_9 h0_10 h0_11 h0_12 h0_13 h0_14 h0_15 h0_16 h0_17 h0_18 h0_19 h0_20 h0_21 h0_22 h0_23 h0_24 h0_25 h0_26 h0_27 h0_28 h0_29 h0_30 s0)) (hS : va_S A s.heap H locs) (ls : Array Slot) (hl : lv_has ls 3 [(1, .ref h0), (2, .int (16 : Int32))]) : W p l e rm_L_bounds s m (([] : List Value).toArray) below meth c H locs 352 21410 (MQ below (Q_L_bounds dC dI cI A post) (([] : List Value).toArray) s mc_L_bounds ms_L_bounds A) (F0 m 221 ls []) := by
  obtain ⟨hx, hb, hr, hml, hown, hts, hlocks⟩ := id C0
  refine lv_iinc (v := (17 : Int32)) (lv' := [(2, .int (17 : Int32)), (1, .ref h0)]) hx hb dL_bounds_221 hl (k := 1) rfl (by decide) (by decide) rfl (fun ls hl => ?_)
  refine lv_goto (tgt := 197) hx hb dL_bounds_224 (by decide) ?_
  refine lv_iload_n hx hb dL_bounds_197 rfl (lv_at hl 0 rfl) ?_
  refine lv_bipush (v := (40 : Int32)) hx hb dL_bounds_198 (by decide) ?_
  refine lv_icmp_ge (tgt := 227) hx hb dL_bounds_200 (by decide) (fun c_808 => absurd c_808 (by decide)) (fun c_808 => ?_)
  refine lv_aload_n hx hb dL_bounds_203 rfl (lv_at hl 1 rfl) ?_
  refine lv_iconst (v := (2 : Int32)) hx hb dL_bounds_204 (by decide) ?_
  refine lv_iload_n hx hb dL_bounds_205 rfl (lv_at hl 0 rfl) ?_
  refine lv_imul hx hb dL_bounds_206 ?_
  refine lv_lit (b := (34 : Int32)) (by decide) ?_
  refine lv_iconst (v := (2 : Int32)) hx hb dL_bounds_207 (by decide) ?_
  refine lv_iload_n hx hb dL_bounds_208 rfl (lv_at hl 0 rfl) ?_
  refine lv_imul hx hb dL_bounds_209 ?_
  refine lv_lit (b := (34 : Int32)) (by decide) ?_
  refine lv_iconst (v := (2 : Int32)) hx hb dL_bounds_210 (by decide) ?_
  refine lv_iload_n hx hb dL_bounds_211 rfl (lv_at hl 0 rfl) ?_
  refine lv_imul hx hb dL_bounds_212 ?_
  refine lv_lit (b := (34 : Int32)) (by decide) ?_
  have hFc := frw hD hS hA
  refine vx_calli (vx_runV (As := [.int (34 : Int32), .int (34 : Int32), .int (34 : Int32)]) (rest := []) ⟨hx, hb, hml, hown, hts⟩ (c_X7_state l hst dC dI cI h0 h0_1 h0_2 h0_3 h0_4 h0_5 h0_6 h0_7 h0_8 h0_9 h0_10 h0_11 h0_12 h0_13 h0_14 h0_15 h0_16 h0_17 h0_18 h0_19 h0_20 h0_21 h0_22 h0_23 h0_24 h0_25 h0_26 h0_27 h0_28 h0_29 h0_30 _ s0 (34 : Int32) (34 : Int32) (34 : Int32) _ _ h) (cwV 3 hts (goodIn_up gB_X7_state) rfl rfl rfl (by decide +kernel) ⟨Nat.le_of_ble_eq_true rfl, Nat.le_of_ble_eq_true rfl⟩) (pbj_V hP hK hD hN hX hFc hS (ci := 7) (q0 := 0) rfl rfl) rfl rfl hl.1 rfl (lv_room (Nat.le_of_ble_eq_true rfl)) dL_bounds_213 ⟨Nat.le_of_ble_eq_true rfl, Nat.le_of_ble_eq_true rfl⟩) hS (fun q _ h => hFc q h) hFc (fun q _ h => hFc q h) (fun E9 ce9 q9 u t H locs ht hvm h hB hz1 hk1 hS hce hcv hcl => (show False from h).elim) (fun r_810 u_809 t H locs ht hvm h hB hz1 hk1 hS => ?_)
  obtain ⟨m_811, m_812, m_813, m_814, hP1, hD1⟩ := hB
  rw [ht] at hP1
  have hP : va_P (dC, dI) vwCl (lwO cI h0 h0_1 h0_2 h0_3 h0_4 h0_5 h0_6 h0_7 h0_8 h0_9 h0_10 h0_11 h0_12 h0_13 h0_14 h0_15 h0_16 h0_17 h0_18 h0_19 h0_20 h0_21 h0_22 m_811 m_812 h0_25 h0_26 m_813 m_814 h0_29 h0_30 u_809) H := hP1
  have hD : va_D A (lwO cI h0 h0_1 h0_2 h0_3 h0_4 h0_5 h0_6 h0_7 h0_8 h0_9 h0_10 h0_11 h0_12 h0_13 h0_14 h0_15 h0_16 h0_17 h0_18 h0_19 h0_20 h0_21 h0_22 m_811 m_812 h0_25 h0_26 m_813 m_814 h0_29 h0_30 u_809) := hD1.weaken (fun _ _ _ h => hFc _ h)
  refine W.widen (k := 353) (n := 21416) (Nat.le_of_ble_eq_true rfl) (Nat.le_of_ble_eq_true rfl) ?_
  obtain ⟨ht_, hf_⟩ := h
  refine lv_if_ne (tgt := 221) hx hb dL_bounds_216 (by decide) (fun c_815 => ?_) (fun c_815 => ?_)
  · have h := ht_ c_815
    refine lv_iinc (v := (18 : Int32)) (lv' := [(2, .int (18 : Int32)), (1, .ref h0)]) hx hb dL_bounds_221 hl (k := 0) rfl (by decide) (by decide) rfl (fun ls hl => ?_)
    refine lv_goto (tgt := 197) hx hb dL_bounds_224 (by decide) ?_
    refine lv_iload_n hx hb dL_bounds_197 rfl (lv_at hl 0 rfl) ?_
    refine lv_bipush (v := (40 : Int32)) hx hb dL_bounds_198 (by decide) ?_
    refine lv_icmp_ge (tgt := 227) hx hb dL_bounds_200 (by decide) (fun c_816 => absurd c_816 (by decide)) (fun c_816 => ?_)
    refine lv_aload_n hx hb dL_bounds_203 rfl (lv_at hl 1 rfl) ?_
    refine lv_iconst (v := (2 : Int32)) hx hb dL_bounds_204 (by decide) ?_
    refine lv_iload_n hx hb dL_bounds_205 rfl (lv_at hl 0 rfl) ?_
    refine lv_imul hx hb dL_bounds_206 ?_
    refine lv_lit (b := (36 : Int32)) (by decide) ?_
    refine lv_iconst (v := (2 : Int32)) hx hb dL_bounds_207 (by decide) ?_
    refine lv_iload_n hx hb dL_bounds_208 rfl (lv_at hl 0 rfl) ?_
    refine lv_imul hx hb dL_bounds_209 ?_
    refine lv_lit (b := (36 : Int32)) (by decide) ?_
    refine lv_iconst (v := (2 : Int32)) hx hb dL_bounds_210 (by decide) ?_
    refine lv_iload_n hx hb dL_bounds_211 rfl (lv_at hl 0 rfl) ?_
    refine lv_imul hx hb dL_bounds_212 ?_
    refine lv_lit (b := (36 : Int32)) (by decide) ?_
    have hFc := frw hD hS hA
    refine vx_calli (vx_runV (As := [.int (36 : Int32), .int (36 : Int32), .int (36 : Int32)]) (rest := []) ⟨hx, hb, hml, hown, hts⟩ (c_X7_state l hst dC dI cI h0 h0_1 h0_2 h0_3 h0_4 h0_5 h0_6 h0_7 h0_8 h0_9 h0_10 h0_11 h0_12 h0_13 h0_14 h0_15 h0_16 h0_17 h0_18 h0_19 h0_20 h0_21 h0_22 m_811 m_812 h0_25 h0_26 m_813 m_814 h0_29 h0_30 _ u_809 (36 : Int32) (36 : Int32) (36 : Int32) _ _ h) (cwV 3 hts (goodIn_up gB_X7_state) rfl rfl rfl (by decide +kernel) ⟨Nat.le_of_ble_eq_true rfl, Nat.le_of_ble_eq_true rfl⟩) (pbj_V hP hK hD hN hX hFc hS (ci := 7) (q0 := 0) rfl rfl) rfl rfl hl.1 rfl (lv_room (Nat.le_of_ble_eq_true rfl)) dL_bounds_213 ⟨Nat.le_of_ble_eq_true rfl, Nat.le_of_ble_eq_true rfl⟩) hS (fun q _ h => hFc q h) hFc (fun q _ h => hFc q h) (fun E9 ce9 q9 u t H locs ht hvm h hB hz1 hk1 hS hce hcv hcl => (show False from h).elim) (fun r_818 u_817 t H locs ht hvm h hB hz1 hk1 hS => ?_)
    obtain ⟨m_819, m_820, m_821, m_822, hP1, hD1⟩ := hB
    rw [ht] at hP1
    have hP : va_P (dC, dI) vwCl (lwO cI h0 h0_1 h0_2 h0_3 h0_4 h0_5 h0_6 h0_7 h0_8 h0_9 h0_10 h0_11 h0_12 h0_13 h0_14 h0_15 h0_16 h0_17 h0_18 h0_19 h0_20 h0_21 h0_22 m_819 m_820 h0_25 h0_26 m_821 m_822 h0_29 h0_30 u_817) H := hP1
    have hD : va_D A (lwO cI h0 h0_1 h0_2 h0_3 h0_4 h0_5 h0_6 h0_7 h0_8 h0_9 h0_10 h0_11 h0_12 h0_13 h0_14 h0_15 h0_16 h0_17 h0_18 h0_19 h0_20 h0_21 h0_22 m_819 m_820 h0_25 h0_26 m_821 m_822 h0_29 h0_30 u_817) := hD1.weaken (fun _ _ _ h => hFc _ h)
    refine W.widen (k := 354) (n := 21422) (Nat.le_of_ble_eq_true rfl) (Nat.le_of_ble_eq_true rfl) ?_
    obtain ⟨ht_, hf_⟩ := h
    refine lv_if_ne (tgt := 221) hx hb dL_bounds_216 (by decide) (fun c_823 => ?_) (fun c_823 => ?_)
    · have h := ht_ c_823
      refine lv_iinc (v := (19 : Int32)) (lv' := [(2, .int (19 : Int32)), (1, .ref h0)]) hx hb dL_bounds_221 hl (k := 0) rfl (by decide) (by decide) rfl (fun ls hl => ?_)
      refine lv_goto (tgt := 197) hx hb dL_bounds_224 (by decide) ?_
      refine lv_iload_n hx hb dL_bounds_197 rfl (lv_at hl 0 rfl) ?_
      refine lv_bipush (v := (40 : Int32)) hx hb dL_bounds_198 (by decide) ?_
      refine lv_icmp_ge (tgt := 227) hx hb dL_bounds_200 (by decide) (fun c_824 => absurd c_824 (by decide)) (fun c_824 => ?_)
      refine lv_aload_n hx hb dL_bounds_203 rfl (lv_at hl 1 rfl) ?_
      refine lv_iconst (v := (2 : Int32)) hx hb dL_bounds_204 (by decide) ?_
      refine lv_iload_n hx hb dL_bounds_205 rfl (lv_at hl 0 rfl) ?_
      refine lv_imul hx hb dL_bounds_206 ?_
      refine lv_lit (b := (38 : Int32)) (by decide) ?_
      refine lv_iconst (v := (2 : Int32)) hx hb dL_bounds_207 (by decide) ?_
      refine lv_iload_n hx hb dL_bounds_208 rfl (lv_at hl 0 rfl) ?_
      refine lv_imul hx hb dL_bounds_209 ?_
      refine lv_lit (b := (38 : Int32)) (by decide) ?_
      refine lv_iconst (v := (2 : Int32)) hx hb dL_bounds_210 (by decide) ?_
      refine lv_iload_n hx hb dL_bounds_211 rfl (lv_at hl 0 rfl) ?_
      refine lv_imul hx hb dL_bounds_212 ?_
      refine lv_lit (b := (38 : Int32)) (by decide) ?_
      have hFc := frw hD hS hA
      refine vx_calli (vx_runV (As := [.int (38 : Int32), .int (38 : Int32), .int (38 : Int32)]) (rest := []) ⟨hx, hb, hml, hown, hts⟩ (c_X7_state l hst dC dI cI h0 h0_1 h0_2 h0_3 h0_4 h0_5 h0_6 h0_7 h0_8 h0_9 h0_10 h0_11 h0_12 h0_13 h0_14 h0_15 h0_16 h0_17 h0_18 h0_19 h0_20 h0_21 h0_22 m_819 m_820 h0_25 h0_26 m_821 m_822 h0_29 h0_30 _ u_817 (38 : Int32) (38 : Int32) (38 : Int32) _ _ h) (cwV 3 hts (goodIn_up gB_X7_state) rfl rfl rfl (by decide +kernel) ⟨Nat.le_of_ble_eq_true rfl, Nat.le_of_ble_eq_true rfl⟩) (pbj_V hP hK hD hN hX hFc hS (ci := 7) (q0 := 0) rfl rfl) rfl rfl hl.1 rfl (lv_room (Nat.le_of_ble_eq_true rfl)) dL_bounds_213 ⟨Nat.le_of_ble_eq_true rfl, Nat.le_of_ble_eq_true rfl⟩) hS (fun q _ h => hFc q h) hFc (fun q _ h => hFc q h) (fun E9 ce9 q9 u t H locs ht hvm h hB hz1 hk1 hS hce hcv hcl => (show False from h).elim) (fun r_826 u_825 t H locs ht hvm h hB hz1 hk1 hS => ?_)
      obtain ⟨m_827, m_828, m_829, m_830, hP1, hD1⟩ := hB
      rw [ht] at hP1
      have hP : va_P (dC, dI) vwCl (lwO cI h0 h0_1 h0_2 h0_3 h0_4 h0_5 h0_6 h0_7 h0_8 h0_9 h0_10 h0_11 h0_12 h0_13 h0_14 h0_15 h0_16 h0_17 h0_18 h0_19 h0_20 h0_21 h0_22 m_827 m_828 h0_25 h0_26 m_829 m_830 h0_29 h0_30 u_825) H := hP1
      have hD : va_D A (lwO cI h0 h0_1 h0_2 h0_3 h0_4 h0_5 h0_6 h0_7 h0_8 h0_9 h0_10 h0_11 h0_12 h0_13 h0_14 h0_15 h0_16 h0_17 h0_18 h0_19 h0_20 h0_21 h0_22 m_827 m_828 h0_25 h0_26 m_829 m_830 h0_29 h0_30 u_825) := hD1.weaken (fun _ _ _ h => hFc _ h)
      refine W.widen (k := 355) (n := 21428) (Nat.le_of_ble_eq_true rfl) (Nat.le_of_ble_eq_true rfl) ?_
      obtain ⟨ht_, hf_⟩ := h
      refine lv_if_ne (tgt := 221) hx hb dL_bounds_216 (by decide) (fun c_831 => ?_) (fun c_831 => ?_)
      · have h := ht_ c_831
        refine lv_iinc (v := (20 : Int32)) (lv' := [(2, .int (20 : Int32)), (1, .ref h0)]) hx hb dL_bounds_221 hl (k := 0) rfl (by decide) (by decide) rfl (fun ls hl => ?_)
        refine lv_goto (tgt := 197) hx hb dL_bounds_224 (by decide) ?_
        refine lv_iload_n hx hb dL_bounds_197 rfl (lv_at hl 0 rfl) ?_
        refine lv_bipush (v := (40 : Int32)) hx hb dL_bounds_198 (by decide) ?_
        refine lv_icmp_ge (tgt := 227) hx hb dL_bounds_200 (by decide) (fun c_832 => absurd c_832 (by decide)) (fun c_832 => ?_)
        refine lv_aload_n hx hb dL_bounds_203 rfl (lv_at hl 1 rfl) ?_
        refine lv_iconst (v := (2 : Int32)) hx hb dL_bounds_204 (by decide) ?_
        refine lv_iload_n hx hb dL_bounds_205 rfl (lv_at hl 0 rfl) ?_
        refine lv_imul hx hb dL_bounds_206 ?_
        refine lv_lit (b := (40 : Int32)) (by decide) ?_
        refine lv_iconst (v := (2 : Int32)) hx hb dL_bounds_207 (by decide) ?_
        refine lv_iload_n hx hb dL_bounds_208 rfl (lv_at hl 0 rfl) ?_
        refine lv_imul hx hb dL_bounds_209 ?_
        refine lv_lit (b := (40 : Int32)) (by decide) ?_
        refine lv_iconst (v := (2 : Int32)) hx hb dL_bounds_210 (by decide) ?_
        refine lv_iload_n hx hb dL_bounds_211 rfl (lv_at hl 0 rfl) ?_
        refine lv_imul hx hb dL_bounds_212 ?_
        refine lv_lit (b := (40 : Int32)) (by decide) ?_
        have hFc := frw hD hS hA
        refine vx_calli (vx_runV (As := [.int (40 : Int32), .int (40 : Int32), .int (40 : Int32)]) (rest := []) ⟨hx, hb, hml, hown, hts⟩ (c_X7_state l hst dC dI cI h0 h0_1 h0_2 h0_3 h0_4 h0_5 h0_6 h0_7 h0_8 h0_9 h0_10 h0_11 h0_12 h0_13 h0_14 h0_15 h0_16 h0_17 h0_18 h0_19 h0_20 h0_21 h0_22 m_827 m_828 h0_25 h0_26 m_829 m_830 h0_29 h0_30 _ u_825 (40 : Int32) (40 : Int32) (40 : Int32) _ _ h) (cwV 3 hts (goodIn_up gB_X7_state) rfl rfl rfl (by decide +kernel) ⟨Nat.le_of_ble_eq_true rfl, Nat.le_of_ble_eq_true rfl⟩) (pbj_V hP hK hD hN hX hFc hS (ci := 7) (q0 := 0) rfl rfl) rfl rfl hl.1 rfl (lv_room (Nat.le_of_ble_eq_true rfl)) dL_bounds_213 ⟨Nat.le_of_ble_eq_true rfl, Nat.le_of_ble_eq_true rfl⟩) hS (fun q _ h => hFc q h) hFc (fun q _ h => hFc q h) (fun E9 ce9 q9 u t H locs ht hvm h hB hz1 hk1 hS hce hcv hcl => (show False from h).elim) (fun r_834 u_833 t H locs ht hvm h hB hz1 hk1 hS => ?_)
        obtain ⟨m_835, m_836, m_837, m_838, hP1, hD1⟩ := hB
        rw [ht] at hP1
        have hP : va_P (dC, dI) vwCl (lwO cI h0 h0_1 h0_2 h0_3 h0_4 h0_5 h0_6 h0_7 h0_8 h0_9 h0_10 h0_11 h0_12 h0_13 h0_14 h0_15 h0_16 h0_17 h0_18 h0_19 h0_20 h0_21 h0_22 m_835 m_836 h0_25 h0_26 m_837 m_838 h0_29 h0_30 u_833) H := hP1
        have hD : va_D A (lwO cI h0 h0_1 h0_2 h0_3 h0_4 h0_5 h0_6 h0_7 h0_8 h0_9 h0_10 h0_11 h0_12 h0_13 h0_14 h0_15 h0_16 h0_17 h0_18 h0_19 h0_20 h0_21 h0_22 m_835 m_836 h0_25 h0_26 m_837 m_838 h0_29 h0_30 u_833) := hD1.weaken (fun _ _ _ h => hFc _ h)
        refine W.widen (k := 356) (n := 21434) (Nat.le_of_ble_eq_true rfl) (Nat.le_of_ble_eq_true rfl) ?_
        obtain ⟨ht_, hf_⟩ := h
        refine lv_if_ne (tgt := 221) hx hb dL_bounds_216 (by decide) (fun c_839 => ?_) (fun c_839 => ?_)
        · have h := ht_ c_839
          refine lv_iinc (v := (21 : Int32)) (lv' := [(2, .int (21 : Int32)), (1, .ref h0)]) hx hb dL_bounds_221 hl (k := 0) rfl (by decide) (by decide) rfl (fun ls hl => ?_)
          refine lv_goto (tgt := 197) hx hb dL_bounds_224 (by decide) ?_
          refine lv_iload_n hx hb dL_bounds_197 rfl (lv_at hl 0 rfl) ?_
          refine lv_bipush (v := (40 : Int32)) hx hb dL_bounds_198 (by decide) ?_
          refine lv_icmp_ge (tgt := 227) hx hb dL_bounds_200 (by decide) (fun c_840 => absurd c_840 (by decide)) (fun c_840 => ?_)
          refine lv_aload_n hx hb dL_bounds_203 rfl (lv_at hl 1 rfl) ?_
          refine lv_iconst (v := (2 : Int32)) hx hb dL_bounds_204 (by decide) ?_
          refine lv_iload_n hx hb dL_bounds_205 rfl (lv_at hl 0 rfl) ?_
          refine lv_imul hx hb dL_bounds_206 ?_
          refine lv_lit (b := (42 : Int32)) (by decide) ?_
          refine lv_iconst (v := (2 : Int32)) hx hb dL_bounds_207 (by decide) ?_
          refine lv_iload_n hx hb dL_bounds_208 rfl (lv_at hl 0 rfl) ?_
          refine lv_imul hx hb dL_bounds_209 ?_
          refine lv_lit (b := (42 : Int32)) (by decide) ?_
          refine lv_iconst (v := (2 : Int32)) hx hb dL_bounds_210 (by decide) ?_
          refine lv_iload_n hx hb dL_bounds_211 rfl (lv_at hl 0 rfl) ?_
          refine lv_imul hx hb dL_bounds_212 ?_
          refine lv_lit (b := (42 : Int32)) (by decide) ?_
          have hFc := frw hD hS hA
          refine vx_calli (vx_runV (As := [.int (42 : Int32), .int (42 : Int32), .int (42 : Int32)]) (rest := []) ⟨hx, hb, hml, hown, hts⟩ (c_X7_state l hst dC dI cI h0 h0_1 h0_2 h0_3 h0_4 h0_5 h0_6 h0_7 h0_8 h0_9 h0_10 h0_11 h0_12 h0_13 h0_14 h0_15 h0_16 h0_17 h0_18 h0_19 h0_20 h0_21 h0_22 m_835 m_836 h0_25 h0_26 m_837 m_838 h0_29 h0_30 _ u_833 (42 : Int32) (42 : Int32) (42 : Int32) _ _ h) (cwV 3 hts (goodIn_up gB_X7_state) rfl rfl rfl (by decide +kernel) ⟨Nat.le_of_ble_eq_true rfl, Nat.le_of_ble_eq_true rfl⟩) (pbj_V hP hK hD hN hX hFc hS (ci := 7) (q0 := 0) rfl rfl) rfl rfl hl.1 rfl (lv_room (Nat.le_of_ble_eq_true rfl)) dL_bounds_213 ⟨Nat.le_of_ble_eq_true rfl, Nat.le_of_ble_eq_true rfl⟩) hS (fun q _ h => hFc q h) hFc (fun q _ h => hFc q h) (fun E9 ce9 q9 u t H locs ht hvm h hB hz1 hk1 hS hce hcv hcl => (show False from h).elim) (fun r_842 u_841 t H locs ht hvm h hB hz1 hk1 hS => ?_)
          obtain ⟨m_843, m_844, m_845, m_846, hP1, hD1⟩ := hB
          rw [ht] at hP1
          have hP : va_P (dC, dI) vwCl (lwO cI h0 h0_1 h0_2 h0_3 h0_4 h0_5 h0_6 h0_7 h0_8 h0_9 h0_10 h0_11 h0_12 h0_13 h0_14 h0_15 h0_16 h0_17 h0_18 h0_19 h0_20 h0_21 h0_22 m_843 m_844 h0_25 h0_26 m_845 m_846 h0_29 h0_30 u_841) H := hP1
          have hD : va_D A (lwO cI h0 h0_1 h0_2 h0_3 h0_4 h0_5 h0_6 h0_7 h0_8 h0_9 h0_10 h0_11 h0_12 h0_13 h0_14 h0_15 h0_16 h0_17 h0_18 h0_19 h0_20 h0_21 h0_22 m_843 m_844 h0_25 h0_26 m_845 m_846 h0_29 h0_30 u_841) := hD1.weaken (fun _ _ _ h => hFc _ h)
          refine W.widen (k := 357) (n := 21440) (Nat.le_of_ble_eq_true rfl) (Nat.le_of_ble_eq_true rfl) ?_
          obtain ⟨ht_, hf_⟩ := h
          refine lv_if_ne (tgt := 221) hx hb dL_bounds_216 (by decide) (fun c_847 => ?_) (fun c_847 => ?_)
          · have h := ht_ c_847
            refine lv_iinc (v := (22 : Int32)) (lv' := [(2, .int (22 : Int32)), (1, .ref h0)]) hx hb dL_bounds_221 hl (k := 0) rfl (by decide) (by decide) rfl (fun ls hl => ?_)
            refine lv_goto (tgt := 197) hx hb dL_bounds_224 (by decide) ?_
            refine lv_iload_n hx hb dL_bounds_197 rfl (lv_at hl 0 rfl) ?_
            refine lv_bipush (v := (40 : Int32)) hx hb dL_bounds_198 (by decide) ?_
            refine lv_icmp_ge (tgt := 227) hx hb dL_bounds_200 (by decide) (fun c_848 => absurd c_848 (by decide)) (fun c_848 => ?_)
            refine lv_aload_n hx hb dL_bounds_203 rfl (lv_at hl 1 rfl) ?_
            refine lv_iconst (v := (2 : Int32)) hx hb dL_bounds_204 (by decide) ?_
            refine lv_iload_n hx hb dL_bounds_205 rfl (lv_at hl 0 rfl) ?_
            refine lv_imul hx hb dL_bounds_206 ?_
            refine lv_lit (b := (44 : Int32)) (by decide) ?_
            refine lv_iconst (v := (2 : Int32)) hx hb dL_bounds_207 (by decide) ?_
            refine lv_iload_n hx hb dL_bounds_208 rfl (lv_at hl 0 rfl) ?_
            refine lv_imul hx hb dL_bounds_209 ?_
            refine lv_lit (b := (44 : Int32)) (by decide) ?_
            refine lv_iconst (v := (2 : Int32)) hx hb dL_bounds_210 (by decide) ?_
            refine lv_iload_n hx hb dL_bounds_211 rfl (lv_at hl 0 rfl) ?_
            refine lv_imul hx hb dL_bounds_212 ?_
            refine lv_lit (b := (44 : Int32)) (by decide) ?_
            have hFc := frw hD hS hA
            refine vx_calli (vx_runV (As := [.int (44 : Int32), .int (44 : Int32), .int (44 : Int32)]) (rest := []) ⟨hx, hb, hml, hown, hts⟩ (c_X7_state l hst dC dI cI h0 h0_1 h0_2 h0_3 h0_4 h0_5 h0_6 h0_7 h0_8 h0_9 h0_10 h0_11 h0_12 h0_13 h0_14 h0_15 h0_16 h0_17 h0_18 h0_19 h0_20 h0_21 h0_22 m_843 m_844 h0_25 h0_26 m_845 m_846 h0_29 h0_30 _ u_841 (44 : Int32) (44 : Int32) (44 : Int32) _ _ h) (cwV 3 hts (goodIn_up gB_X7_state) rfl rfl rfl (by decide +kernel) ⟨Nat.le_of_ble_eq_true rfl, Nat.le_of_ble_eq_true rfl⟩) (pbj_V hP hK hD hN hX hFc hS (ci := 7) (q0 := 0) rfl rfl) rfl rfl hl.1 rfl (lv_room (Nat.le_of_ble_eq_true rfl)) dL_bounds_213 ⟨Nat.le_of_ble_eq_true rfl, Nat.le_of_ble_eq_true rfl⟩) hS (fun q _ h => hFc q h) hFc (fun q _ h => hFc q h) (fun E9 ce9 q9 u t H locs ht hvm h hB hz1 hk1 hS hce hcv hcl => (show False from h).elim) (fun r_850 u_849 t H locs ht hvm h hB hz1 hk1 hS => ?_)
            obtain ⟨m_851, m_852, m_853, m_854, hP1, hD1⟩ := hB
            rw [ht] at hP1
            have hP : va_P (dC, dI) vwCl (lwO cI h0 h0_1 h0_2 h0_3 h0_4 h0_5 h0_6 h0_7 h0_8 h0_9 h0_10 h0_11 h0_12 h0_13 h0_14 h0_15 h0_16 h0_17 h0_18 h0_19 h0_20 h0_21 h0_22 m_851 m_852 h0_25 h0_26 m_853 m_854 h0_29 h0_30 u_849) H := hP1
            have hD : va_D A (lwO cI h0 h0_1 h0_2 h0_3 h0_4 h0_5 h0_6 h0_7 h0_8 h0_9 h0_10 h0_11 h0_12 h0_13 h0_14 h0_15 h0_16 h0_17 h0_18 h0_19 h0_20 h0_21 h0_22 m_851 m_852 h0_25 h0_26 m_853 m_854 h0_29 h0_30 u_849) := hD1.weaken (fun _ _ _ h => hFc _ h)
            refine W.widen (k := 358) (n := 21446) (Nat.le_of_ble_eq_true rfl) (Nat.le_of_ble_eq_true rfl) ?_
            obtain ⟨ht_, hf_⟩ := h
            refine lv_if_ne (tgt := 221) hx hb dL_bounds_216 (by decide) (fun c_855 => ?_) (fun c_855 => ?_)
            · have h := ht_ c_855
              refine lv_iinc (v := (23 : Int32)) (lv' := [(2, .int (23 : Int32)), (1, .ref h0)]) hx hb dL_bounds_221 hl (k := 0) rfl (by decide) (by decide) rfl (fun ls hl => ?_)
              refine lv_goto (tgt := 197) hx hb dL_bounds_224 (by decide) ?_
              refine lv_iload_n hx hb dL_bounds_197 rfl (lv_at hl 0 rfl) ?_
              refine lv_bipush (v := (40 : Int32)) hx hb dL_bounds_198 (by decide) ?_
              refine lv_icmp_ge (tgt := 227) hx hb dL_bounds_200 (by decide) (fun c_856 => absurd c_856 (by decide)) (fun c_856 => ?_)
              refine lv_aload_n hx hb dL_bounds_203 rfl (lv_at hl 1 rfl) ?_
              refine lv_iconst (v := (2 : Int32)) hx hb dL_bounds_204 (by decide) ?_
              refine lv_iload_n hx hb dL_bounds_205 rfl (lv_at hl 0 rfl) ?_
              refine lv_imul hx hb dL_bounds_206 ?_
              refine lv_lit (b := (46 : Int32)) (by decide) ?_
              refine lv_iconst (v := (2 : Int32)) hx hb dL_bounds_207 (by decide) ?_
              refine lv_iload_n hx hb dL_bounds_208 rfl (lv_at hl 0 rfl) ?_
              refine lv_imul hx hb dL_bounds_209 ?_
              refine lv_lit (b := (46 : Int32)) (by decide) ?_
              refine lv_iconst (v := (2 : Int32)) hx hb dL_bounds_210 (by decide) ?_
              refine lv_iload_n hx hb dL_bounds_211 rfl (lv_at hl 0 rfl) ?_
              refine lv_imul hx hb dL_bounds_212 ?_
              refine lv_lit (b := (46 : Int32)) (by decide) ?_
              have hFc := frw hD hS hA
              refine vx_calli (vx_runV (As := [.int (46 : Int32), .int (46 : Int32), .int (46 : Int32)]) (rest := []) ⟨hx, hb, hml, hown, hts⟩ (c_X7_state l hst dC dI cI h0 h0_1 h0_2 h0_3 h0_4 h0_5 h0_6 h0_7 h0_8 h0_9 h0_10 h0_11 h0_12 h0_13 h0_14 h0_15 h0_16 h0_17 h0_18 h0_19 h0_20 h0_21 h0_22 m_851 m_852 h0_25 h0_26 m_853 m_854 h0_29 h0_30 _ u_849 (46 : Int32) (46 : Int32) (46 : Int32) _ _ h) (cwV 3 hts (goodIn_up gB_X7_state) rfl rfl rfl (by decide +kernel) ⟨Nat.le_of_ble_eq_true rfl, Nat.le_of_ble_eq_true rfl⟩) (pbj_V hP hK hD hN hX hFc hS (ci := 7) (q0 := 0) rfl rfl) rfl rfl hl.1 rfl (lv_room (Nat.le_of_ble_eq_true rfl)) dL_bounds_213 ⟨Nat.le_of_ble_eq_true rfl, Nat.le_of_ble_eq_true rfl⟩) hS (fun q _ h => hFc q h) hFc (fun q _ h => hFc q h) (fun E9 ce9 q9 u t H locs ht hvm h hB hz1 hk1 hS hce hcv hcl => (show False from h).elim) (fun r_858 u_857 t H locs ht hvm h hB hz1 hk1 hS => ?_)
              obtain ⟨m_859, m_860, m_861, m_862, hP1, hD1⟩ := hB
              rw [ht] at hP1
              have hP : va_P (dC, dI) vwCl (lwO cI h0 h0_1 h0_2 h0_3 h0_4 h0_5 h0_6 h0_7 h0_8 h0_9 h0_10 h0_11 h0_12 h0_13 h0_14 h0_15 h0_16 h0_17 h0_18 h0_19 h0_20 h0_21 h0_22 m_859 m_860 h0_25 h0_26 m_861 m_862 h0_29 h0_30 u_857) H := hP1
              have hD : va_D A (lwO cI h0 h0_1 h0_2 h0_3 h0_4 h0_5 h0_6 h0_7 h0_8 h0_9 h0_10 h0_11 h0_12 h0_13 h0_14 h0_15 h0_16 h0_17 h0_18 h0_19 h0_20 h0_21 h0_22 m_859 m_860 h0_25 h0_26 m_861 m_862 h0_29 h0_30 u_857) := hD1.weaken (fun _ _ _ h => hFc _ h)
              refine W.widen (k := 359) (n := 21452) (Nat.le_of_ble_eq_true rfl) (Nat.le_of_ble_eq_true rfl) ?_
              obtain ⟨ht_, hf_⟩ := h
              refine lv_if_ne (tgt := 221) hx hb dL_bounds_216 (by decide) (fun c_863 => ?_) (fun c_863 => ?_)
              · have h := ht_ c_863
                have hl : lv_has ls 3 [(1, .ref h0), (2, .int (23 : Int32))] := lv_sub hl [1, 0] rfl
                refine W.widen (k := 359) (n := 21452) (Nat.le_of_ble_eq_true rfl) (Nat.le_of_ble_eq_true rfl) ?_
                exact sg_L_bounds_14 l hst C0 hK hN hX hC hA h0 h0_1 h0_2 h0_3 h0_4 h0_5 h0_6 h0_7 h0_8 h0_9 h0_10 h0_11 h0_12 h0_13 h0_14 h0_15 h0_16 h0_17 h0_18 h0_19 h0_20 h0_21 h0_22 h0_25 h0_26 h0_29 h0_30 _ u_857 h m_859 m_860 m_861 m_862 _ _ hP hD hS _ hl
              · have h := hf_ c_863
                exact (show False from h).elim
            · have h := hf_ c_855
              exact (show False from h).elim
          · have h := hf_ c_847
            exact (show False from h).elim
        · have h := hf_ c_839
          exact (show False from h).elim
      · have h := hf_ c_831
        exact (show False from h).elim
    · have h := hf_ c_823
      exact (show False from h).elim
  · have h := hf_ c_815
    exact (show False from h).elim
set_option maxHeartbeats 4000000 in
set_option maxRecDepth 100000 in
theorem sg_L_bounds_12 (l : Launch) (hst : l.stackTraces = false) {p : Program} {e : Env} {s : State} {m : MethodId} {below : List Frame} {meth : Method} {c : Code} (C0 : LC p s m (([] : List Value).toArray) meth c cL_bounds 3 wq_bounds) {dC : Nat → ClassId} {dI : Nat → Nat → Nat} {cI : ClassId} (hK : va_K (dC, dI) vwCl [(cI, .int)] s) (hN : nk s) {A : Nat → Prop} (hX : xj A s) (hC : xnc s) (hA : ∀ q : Nat, s.heap.size ≤ q → A q) (h0 h0_1 h0_2 h0_3 h0_4 h0_5 h0_6 h0_7 h0_8 h0_9 h0_10 h0_11 h0_12 h0_13 h0_14 h0_15 h0_16 h0_17 h0_18 h0_19 h0_20 h0_21 h0_22 h0_25 h0_26 h0_29 h0_30 : Nat) (post : Int32 → Prop) (s0 : TriS) (h : P_L_bounds_12 s0 post) (h0_23 h0_24 h0_27 h0_28 : Nat) (H : Heap) (locs : List Loc) (hP : va_P (dC, dI) vwCl (lwO cI h0 h0_1 h0_2 h0_3 h0_4 h0_5 h0_6 h0_7 h0_8 h0_9 h0_10 h0_11 h0_12 h0_13 h0_14 h0_15 h0_16 h0_17 h0_18 h0_19 h0_20 h0_21 h0_22 h0_23 h0_24 h0_25 h0_26 h0_27 h0_28 h0_29 h0_30 s0) H) (hD : va_D A (lwO cI h0 h0_1 h0_2 h0_3 h0_4 h0_5 h0_6 h0_7 h0_8 h0_9 h0_10 h0_11 h0_12 h0_13 h0_14 h0_15 h0_16 h0_17 h0_18 h0_19 h0_20 h0_21 h0_22 h0_23 h0_24 h0_25 h0_26 h0_27 h0_28 h0_29 h0_30 s0)) (hS : va_S A s.heap H locs) (ls : Array Slot) (hl : lv_has ls 3 [(1, .ref h0), (2, .int (9 : Int32))]) : W p l e rm_L_bounds s m (([] : List Value).toArray) below meth c H locs 345 21368 (MQ below (Q_L_bounds dC dI cI A post) (([] : List Value).toArray) s mc_L_bounds ms_L_bounds A) (F0 m 221 ls []) := by
  obtain ⟨hx, hb, hr, hml, hown, hts, hlocks⟩ := id C0
  refine lv_iinc (v := (10 : Int32)) (lv' := [(2, .int (10 : Int32)), (1, .ref h0)]) hx hb dL_bounds_221 hl (k := 1) rfl (by decide) (by decide) rfl (fun ls hl => ?_)
  refine lv_goto (tgt := 197) hx hb dL_bounds_224 (by decide) ?_
  refine lv_iload_n hx hb dL_bounds_197 rfl (lv_at hl 0 rfl) ?_
  refine lv_bipush (v := (40 : Int32)) hx hb dL_bounds_198 (by decide) ?_
  refine lv_icmp_ge (tgt := 227) hx hb dL_bounds_200 (by decide) (fun c_752 => absurd c_752 (by decide)) (fun c_752 => ?_)
  refine lv_aload_n hx hb dL_bounds_203 rfl (lv_at hl 1 rfl) ?_
  refine lv_iconst (v := (2 : Int32)) hx hb dL_bounds_204 (by decide) ?_
  refine lv_iload_n hx hb dL_bounds_205 rfl (lv_at hl 0 rfl) ?_
  refine lv_imul hx hb dL_bounds_206 ?_
  refine lv_lit (b := (20 : Int32)) (by decide) ?_
  refine lv_iconst (v := (2 : Int32)) hx hb dL_bounds_207 (by decide) ?_
  refine lv_iload_n hx hb dL_bounds_208 rfl (lv_at hl 0 rfl) ?_
  refine lv_imul hx hb dL_bounds_209 ?_
  refine lv_lit (b := (20 : Int32)) (by decide) ?_
  refine lv_iconst (v := (2 : Int32)) hx hb dL_bounds_210 (by decide) ?_
  refine lv_iload_n hx hb dL_bounds_211 rfl (lv_at hl 0 rfl) ?_
  refine lv_imul hx hb dL_bounds_212 ?_
  refine lv_lit (b := (20 : Int32)) (by decide) ?_
  have hFc := frw hD hS hA
  refine vx_calli (vx_runV (As := [.int (20 : Int32), .int (20 : Int32), .int (20 : Int32)]) (rest := []) ⟨hx, hb, hml, hown, hts⟩ (c_X7_state l hst dC dI cI h0 h0_1 h0_2 h0_3 h0_4 h0_5 h0_6 h0_7 h0_8 h0_9 h0_10 h0_11 h0_12 h0_13 h0_14 h0_15 h0_16 h0_17 h0_18 h0_19 h0_20 h0_21 h0_22 h0_23 h0_24 h0_25 h0_26 h0_27 h0_28 h0_29 h0_30 _ s0 (20 : Int32) (20 : Int32) (20 : Int32) _ _ h) (cwV 3 hts (goodIn_up gB_X7_state) rfl rfl rfl (by decide +kernel) ⟨Nat.le_of_ble_eq_true rfl, Nat.le_of_ble_eq_true rfl⟩) (pbj_V hP hK hD hN hX hFc hS (ci := 7) (q0 := 0) rfl rfl) rfl rfl hl.1 rfl (lv_room (Nat.le_of_ble_eq_true rfl)) dL_bounds_213 ⟨Nat.le_of_ble_eq_true rfl, Nat.le_of_ble_eq_true rfl⟩) hS (fun q _ h => hFc q h) hFc (fun q _ h => hFc q h) (fun E9 ce9 q9 u t H locs ht hvm h hB hz1 hk1 hS hce hcv hcl => (show False from h).elim) (fun r_754 u_753 t H locs ht hvm h hB hz1 hk1 hS => ?_)
  obtain ⟨m_755, m_756, m_757, m_758, hP1, hD1⟩ := hB
  rw [ht] at hP1
  have hP : va_P (dC, dI) vwCl (lwO cI h0 h0_1 h0_2 h0_3 h0_4 h0_5 h0_6 h0_7 h0_8 h0_9 h0_10 h0_11 h0_12 h0_13 h0_14 h0_15 h0_16 h0_17 h0_18 h0_19 h0_20 h0_21 h0_22 m_755 m_756 h0_25 h0_26 m_757 m_758 h0_29 h0_30 u_753) H := hP1
  have hD : va_D A (lwO cI h0 h0_1 h0_2 h0_3 h0_4 h0_5 h0_6 h0_7 h0_8 h0_9 h0_10 h0_11 h0_12 h0_13 h0_14 h0_15 h0_16 h0_17 h0_18 h0_19 h0_20 h0_21 h0_22 m_755 m_756 h0_25 h0_26 m_757 m_758 h0_29 h0_30 u_753) := hD1.weaken (fun _ _ _ h => hFc _ h)
  refine W.widen (k := 346) (n := 21374) (Nat.le_of_ble_eq_true rfl) (Nat.le_of_ble_eq_true rfl) ?_
  obtain ⟨ht_, hf_⟩ := h
  refine lv_if_ne (tgt := 221) hx hb dL_bounds_216 (by decide) (fun c_759 => ?_) (fun c_759 => ?_)
  · have h := ht_ c_759
    refine lv_iinc (v := (11 : Int32)) (lv' := [(2, .int (11 : Int32)), (1, .ref h0)]) hx hb dL_bounds_221 hl (k := 0) rfl (by decide) (by decide) rfl (fun ls hl => ?_)
    refine lv_goto (tgt := 197) hx hb dL_bounds_224 (by decide) ?_
    refine lv_iload_n hx hb dL_bounds_197 rfl (lv_at hl 0 rfl) ?_
    refine lv_bipush (v := (40 : Int32)) hx hb dL_bounds_198 (by decide) ?_
    refine lv_icmp_ge (tgt := 227) hx hb dL_bounds_200 (by decide) (fun c_760 => absurd c_760 (by decide)) (fun c_760 => ?_)
    refine lv_aload_n hx hb dL_bounds_203 rfl (lv_at hl 1 rfl) ?_
    refine lv_iconst (v := (2 : Int32)) hx hb dL_bounds_204 (by decide) ?_
    refine lv_iload_n hx hb dL_bounds_205 rfl (lv_at hl 0 rfl) ?_
    refine lv_imul hx hb dL_bounds_206 ?_
    refine lv_lit (b := (22 : Int32)) (by decide) ?_
    refine lv_iconst (v := (2 : Int32)) hx hb dL_bounds_207 (by decide) ?_
    refine lv_iload_n hx hb dL_bounds_208 rfl (lv_at hl 0 rfl) ?_
    refine lv_imul hx hb dL_bounds_209 ?_
    refine lv_lit (b := (22 : Int32)) (by decide) ?_
    refine lv_iconst (v := (2 : Int32)) hx hb dL_bounds_210 (by decide) ?_
    refine lv_iload_n hx hb dL_bounds_211 rfl (lv_at hl 0 rfl) ?_
    refine lv_imul hx hb dL_bounds_212 ?_
    refine lv_lit (b := (22 : Int32)) (by decide) ?_
    have hFc := frw hD hS hA
    refine vx_calli (vx_runV (As := [.int (22 : Int32), .int (22 : Int32), .int (22 : Int32)]) (rest := []) ⟨hx, hb, hml, hown, hts⟩ (c_X7_state l hst dC dI cI h0 h0_1 h0_2 h0_3 h0_4 h0_5 h0_6 h0_7 h0_8 h0_9 h0_10 h0_11 h0_12 h0_13 h0_14 h0_15 h0_16 h0_17 h0_18 h0_19 h0_20 h0_21 h0_22 m_755 m_756 h0_25 h0_26 m_757 m_758 h0_29 h0_30 _ u_753 (22 : Int32) (22 : Int32) (22 : Int32) _ _ h) (cwV 3 hts (goodIn_up gB_X7_state) rfl rfl rfl (by decide +kernel) ⟨Nat.le_of_ble_eq_true rfl, Nat.le_of_ble_eq_true rfl⟩) (pbj_V hP hK hD hN hX hFc hS (ci := 7) (q0 := 0) rfl rfl) rfl rfl hl.1 rfl (lv_room (Nat.le_of_ble_eq_true rfl)) dL_bounds_213 ⟨Nat.le_of_ble_eq_true rfl, Nat.le_of_ble_eq_true rfl⟩) hS (fun q _ h => hFc q h) hFc (fun q _ h => hFc q h) (fun E9 ce9 q9 u t H locs ht hvm h hB hz1 hk1 hS hce hcv hcl => (show False from h).elim) (fun r_762 u_761 t H locs ht hvm h hB hz1 hk1 hS => ?_)
    obtain ⟨m_763, m_764, m_765, m_766, hP1, hD1⟩ := hB
    rw [ht] at hP1
    have hP : va_P (dC, dI) vwCl (lwO cI h0 h0_1 h0_2 h0_3 h0_4 h0_5 h0_6 h0_7 h0_8 h0_9 h0_10 h0_11 h0_12 h0_13 h0_14 h0_15 h0_16 h0_17 h0_18 h0_19 h0_20 h0_21 h0_22 m_763 m_764 h0_25 h0_26 m_765 m_766 h0_29 h0_30 u_761) H := hP1
    have hD : va_D A (lwO cI h0 h0_1 h0_2 h0_3 h0_4 h0_5 h0_6 h0_7 h0_8 h0_9 h0_10 h0_11 h0_12 h0_13 h0_14 h0_15 h0_16 h0_17 h0_18 h0_19 h0_20 h0_21 h0_22 m_763 m_764 h0_25 h0_26 m_765 m_766 h0_29 h0_30 u_761) := hD1.weaken (fun _ _ _ h => hFc _ h)
    refine W.widen (k := 347) (n := 21380) (Nat.le_of_ble_eq_true rfl) (Nat.le_of_ble_eq_true rfl) ?_
    obtain ⟨ht_, hf_⟩ := h
    refine lv_if_ne (tgt := 221) hx hb dL_bounds_216 (by decide) (fun c_767 => ?_) (fun c_767 => ?_)
    · have h := ht_ c_767
      refine lv_iinc (v := (12 : Int32)) (lv' := [(2, .int (12 : Int32)), (1, .ref h0)]) hx hb dL_bounds_221 hl (k := 0) rfl (by decide) (by decide) rfl (fun ls hl => ?_)
      refine lv_goto (tgt := 197) hx hb dL_bounds_224 (by decide) ?_
      refine lv_iload_n hx hb dL_bounds_197 rfl (lv_at hl 0 rfl) ?_
      refine lv_bipush (v := (40 : Int32)) hx hb dL_bounds_198 (by decide) ?_
      refine lv_icmp_ge (tgt := 227) hx hb dL_bounds_200 (by decide) (fun c_768 => absurd c_768 (by decide)) (fun c_768 => ?_)
      refine lv_aload_n hx hb dL_bounds_203 rfl (lv_at hl 1 rfl) ?_
      refine lv_iconst (v := (2 : Int32)) hx hb dL_bounds_204 (by decide) ?_
      refine lv_iload_n hx hb dL_bounds_205 rfl (lv_at hl 0 rfl) ?_
      refine lv_imul hx hb dL_bounds_206 ?_
      refine lv_lit (b := (24 : Int32)) (by decide) ?_
      refine lv_iconst (v := (2 : Int32)) hx hb dL_bounds_207 (by decide) ?_
      refine lv_iload_n hx hb dL_bounds_208 rfl (lv_at hl 0 rfl) ?_
      refine lv_imul hx hb dL_bounds_209 ?_
      refine lv_lit (b := (24 : Int32)) (by decide) ?_
      refine lv_iconst (v := (2 : Int32)) hx hb dL_bounds_210 (by decide) ?_
      refine lv_iload_n hx hb dL_bounds_211 rfl (lv_at hl 0 rfl) ?_
      refine lv_imul hx hb dL_bounds_212 ?_
      refine lv_lit (b := (24 : Int32)) (by decide) ?_
      have hFc := frw hD hS hA
      refine vx_calli (vx_runV (As := [.int (24 : Int32), .int (24 : Int32), .int (24 : Int32)]) (rest := []) ⟨hx, hb, hml, hown, hts⟩ (c_X7_state l hst dC dI cI h0 h0_1 h0_2 h0_3 h0_4 h0_5 h0_6 h0_7 h0_8 h0_9 h0_10 h0_11 h0_12 h0_13 h0_14 h0_15 h0_16 h0_17 h0_18 h0_19 h0_20 h0_21 h0_22 m_763 m_764 h0_25 h0_26 m_765 m_766 h0_29 h0_30 _ u_761 (24 : Int32) (24 : Int32) (24 : Int32) _ _ h) (cwV 3 hts (goodIn_up gB_X7_state) rfl rfl rfl (by decide +kernel) ⟨Nat.le_of_ble_eq_true rfl, Nat.le_of_ble_eq_true rfl⟩) (pbj_V hP hK hD hN hX hFc hS (ci := 7) (q0 := 0) rfl rfl) rfl rfl hl.1 rfl (lv_room (Nat.le_of_ble_eq_true rfl)) dL_bounds_213 ⟨Nat.le_of_ble_eq_true rfl, Nat.le_of_ble_eq_true rfl⟩) hS (fun q _ h => hFc q h) hFc (fun q _ h => hFc q h) (fun E9 ce9 q9 u t H locs ht hvm h hB hz1 hk1 hS hce hcv hcl => (show False from h).elim) (fun r_770 u_769 t H locs ht hvm h hB hz1 hk1 hS => ?_)
      obtain ⟨m_771, m_772, m_773, m_774, hP1, hD1⟩ := hB
      rw [ht] at hP1
      have hP : va_P (dC, dI) vwCl (lwO cI h0 h0_1 h0_2 h0_3 h0_4 h0_5 h0_6 h0_7 h0_8 h0_9 h0_10 h0_11 h0_12 h0_13 h0_14 h0_15 h0_16 h0_17 h0_18 h0_19 h0_20 h0_21 h0_22 m_771 m_772 h0_25 h0_26 m_773 m_774 h0_29 h0_30 u_769) H := hP1
      have hD : va_D A (lwO cI h0 h0_1 h0_2 h0_3 h0_4 h0_5 h0_6 h0_7 h0_8 h0_9 h0_10 h0_11 h0_12 h0_13 h0_14 h0_15 h0_16 h0_17 h0_18 h0_19 h0_20 h0_21 h0_22 m_771 m_772 h0_25 h0_26 m_773 m_774 h0_29 h0_30 u_769) := hD1.weaken (fun _ _ _ h => hFc _ h)
      refine W.widen (k := 348) (n := 21386) (Nat.le_of_ble_eq_true rfl) (Nat.le_of_ble_eq_true rfl) ?_
      obtain ⟨ht_, hf_⟩ := h
      refine lv_if_ne (tgt := 221) hx hb dL_bounds_216 (by decide) (fun c_775 => ?_) (fun c_775 => ?_)
      · have h := ht_ c_775
        refine lv_iinc (v := (13 : Int32)) (lv' := [(2, .int (13 : Int32)), (1, .ref h0)]) hx hb dL_bounds_221 hl (k := 0) rfl (by decide) (by decide) rfl (fun ls hl => ?_)
        refine lv_goto (tgt := 197) hx hb dL_bounds_224 (by decide) ?_
        refine lv_iload_n hx hb dL_bounds_197 rfl (lv_at hl 0 rfl) ?_
        refine lv_bipush (v := (40 : Int32)) hx hb dL_bounds_198 (by decide) ?_
        refine lv_icmp_ge (tgt := 227) hx hb dL_bounds_200 (by decide) (fun c_776 => absurd c_776 (by decide)) (fun c_776 => ?_)
        refine lv_aload_n hx hb dL_bounds_203 rfl (lv_at hl 1 rfl) ?_
        refine lv_iconst (v := (2 : Int32)) hx hb dL_bounds_204 (by decide) ?_
        refine lv_iload_n hx hb dL_bounds_205 rfl (lv_at hl 0 rfl) ?_
        refine lv_imul hx hb dL_bounds_206 ?_
        refine lv_lit (b := (26 : Int32)) (by decide) ?_
        refine lv_iconst (v := (2 : Int32)) hx hb dL_bounds_207 (by decide) ?_
        refine lv_iload_n hx hb dL_bounds_208 rfl (lv_at hl 0 rfl) ?_
        refine lv_imul hx hb dL_bounds_209 ?_
        refine lv_lit (b := (26 : Int32)) (by decide) ?_
        refine lv_iconst (v := (2 : Int32)) hx hb dL_bounds_210 (by decide) ?_
        refine lv_iload_n hx hb dL_bounds_211 rfl (lv_at hl 0 rfl) ?_
        refine lv_imul hx hb dL_bounds_212 ?_
        refine lv_lit (b := (26 : Int32)) (by decide) ?_
        have hFc := frw hD hS hA
        refine vx_calli (vx_runV (As := [.int (26 : Int32), .int (26 : Int32), .int (26 : Int32)]) (rest := []) ⟨hx, hb, hml, hown, hts⟩ (c_X7_state l hst dC dI cI h0 h0_1 h0_2 h0_3 h0_4 h0_5 h0_6 h0_7 h0_8 h0_9 h0_10 h0_11 h0_12 h0_13 h0_14 h0_15 h0_16 h0_17 h0_18 h0_19 h0_20 h0_21 h0_22 m_771 m_772 h0_25 h0_26 m_773 m_774 h0_29 h0_30 _ u_769 (26 : Int32) (26 : Int32) (26 : Int32) _ _ h) (cwV 3 hts (goodIn_up gB_X7_state) rfl rfl rfl (by decide +kernel) ⟨Nat.le_of_ble_eq_true rfl, Nat.le_of_ble_eq_true rfl⟩) (pbj_V hP hK hD hN hX hFc hS (ci := 7) (q0 := 0) rfl rfl) rfl rfl hl.1 rfl (lv_room (Nat.le_of_ble_eq_true rfl)) dL_bounds_213 ⟨Nat.le_of_ble_eq_true rfl, Nat.le_of_ble_eq_true rfl⟩) hS (fun q _ h => hFc q h) hFc (fun q _ h => hFc q h) (fun E9 ce9 q9 u t H locs ht hvm h hB hz1 hk1 hS hce hcv hcl => (show False from h).elim) (fun r_778 u_777 t H locs ht hvm h hB hz1 hk1 hS => ?_)
        obtain ⟨m_779, m_780, m_781, m_782, hP1, hD1⟩ := hB
        rw [ht] at hP1
        have hP : va_P (dC, dI) vwCl (lwO cI h0 h0_1 h0_2 h0_3 h0_4 h0_5 h0_6 h0_7 h0_8 h0_9 h0_10 h0_11 h0_12 h0_13 h0_14 h0_15 h0_16 h0_17 h0_18 h0_19 h0_20 h0_21 h0_22 m_779 m_780 h0_25 h0_26 m_781 m_782 h0_29 h0_30 u_777) H := hP1
        have hD : va_D A (lwO cI h0 h0_1 h0_2 h0_3 h0_4 h0_5 h0_6 h0_7 h0_8 h0_9 h0_10 h0_11 h0_12 h0_13 h0_14 h0_15 h0_16 h0_17 h0_18 h0_19 h0_20 h0_21 h0_22 m_779 m_780 h0_25 h0_26 m_781 m_782 h0_29 h0_30 u_777) := hD1.weaken (fun _ _ _ h => hFc _ h)
        refine W.widen (k := 349) (n := 21392) (Nat.le_of_ble_eq_true rfl) (Nat.le_of_ble_eq_true rfl) ?_
        obtain ⟨ht_, hf_⟩ := h
        refine lv_if_ne (tgt := 221) hx hb dL_bounds_216 (by decide) (fun c_783 => ?_) (fun c_783 => ?_)
        · have h := ht_ c_783
          refine lv_iinc (v := (14 : Int32)) (lv' := [(2, .int (14 : Int32)), (1, .ref h0)]) hx hb dL_bounds_221 hl (k := 0) rfl (by decide) (by decide) rfl (fun ls hl => ?_)
          refine lv_goto (tgt := 197) hx hb dL_bounds_224 (by decide) ?_
          refine lv_iload_n hx hb dL_bounds_197 rfl (lv_at hl 0 rfl) ?_
          refine lv_bipush (v := (40 : Int32)) hx hb dL_bounds_198 (by decide) ?_
          refine lv_icmp_ge (tgt := 227) hx hb dL_bounds_200 (by decide) (fun c_784 => absurd c_784 (by decide)) (fun c_784 => ?_)
          refine lv_aload_n hx hb dL_bounds_203 rfl (lv_at hl 1 rfl) ?_
          refine lv_iconst (v := (2 : Int32)) hx hb dL_bounds_204 (by decide) ?_
          refine lv_iload_n hx hb dL_bounds_205 rfl (lv_at hl 0 rfl) ?_
          refine lv_imul hx hb dL_bounds_206 ?_
          refine lv_lit (b := (28 : Int32)) (by decide) ?_
          refine lv_iconst (v := (2 : Int32)) hx hb dL_bounds_207 (by decide) ?_
          refine lv_iload_n hx hb dL_bounds_208 rfl (lv_at hl 0 rfl) ?_
          refine lv_imul hx hb dL_bounds_209 ?_
          refine lv_lit (b := (28 : Int32)) (by decide) ?_
          refine lv_iconst (v := (2 : Int32)) hx hb dL_bounds_210 (by decide) ?_
          refine lv_iload_n hx hb dL_bounds_211 rfl (lv_at hl 0 rfl) ?_
          refine lv_imul hx hb dL_bounds_212 ?_
          refine lv_lit (b := (28 : Int32)) (by decide) ?_
          have hFc := frw hD hS hA
          refine vx_calli (vx_runV (As := [.int (28 : Int32), .int (28 : Int32), .int (28 : Int32)]) (rest := []) ⟨hx, hb, hml, hown, hts⟩ (c_X7_state l hst dC dI cI h0 h0_1 h0_2 h0_3 h0_4 h0_5 h0_6 h0_7 h0_8 h0_9 h0_10 h0_11 h0_12 h0_13 h0_14 h0_15 h0_16 h0_17 h0_18 h0_19 h0_20 h0_21 h0_22 m_779 m_780 h0_25 h0_26 m_781 m_782 h0_29 h0_30 _ u_777 (28 : Int32) (28 : Int32) (28 : Int32) _ _ h) (cwV 3 hts (goodIn_up gB_X7_state) rfl rfl rfl (by decide +kernel) ⟨Nat.le_of_ble_eq_true rfl, Nat.le_of_ble_eq_true rfl⟩) (pbj_V hP hK hD hN hX hFc hS (ci := 7) (q0 := 0) rfl rfl) rfl rfl hl.1 rfl (lv_room (Nat.le_of_ble_eq_true rfl)) dL_bounds_213 ⟨Nat.le_of_ble_eq_true rfl, Nat.le_of_ble_eq_true rfl⟩) hS (fun q _ h => hFc q h) hFc (fun q _ h => hFc q h) (fun E9 ce9 q9 u t H locs ht hvm h hB hz1 hk1 hS hce hcv hcl => (show False from h).elim) (fun r_786 u_785 t H locs ht hvm h hB hz1 hk1 hS => ?_)
          obtain ⟨m_787, m_788, m_789, m_790, hP1, hD1⟩ := hB
          rw [ht] at hP1
          have hP : va_P (dC, dI) vwCl (lwO cI h0 h0_1 h0_2 h0_3 h0_4 h0_5 h0_6 h0_7 h0_8 h0_9 h0_10 h0_11 h0_12 h0_13 h0_14 h0_15 h0_16 h0_17 h0_18 h0_19 h0_20 h0_21 h0_22 m_787 m_788 h0_25 h0_26 m_789 m_790 h0_29 h0_30 u_785) H := hP1
          have hD : va_D A (lwO cI h0 h0_1 h0_2 h0_3 h0_4 h0_5 h0_6 h0_7 h0_8 h0_9 h0_10 h0_11 h0_12 h0_13 h0_14 h0_15 h0_16 h0_17 h0_18 h0_19 h0_20 h0_21 h0_22 m_787 m_788 h0_25 h0_26 m_789 m_790 h0_29 h0_30 u_785) := hD1.weaken (fun _ _ _ h => hFc _ h)
          refine W.widen (k := 350) (n := 21398) (Nat.le_of_ble_eq_true rfl) (Nat.le_of_ble_eq_true rfl) ?_
          obtain ⟨ht_, hf_⟩ := h
          refine lv_if_ne (tgt := 221) hx hb dL_bounds_216 (by decide) (fun c_791 => ?_) (fun c_791 => ?_)
          · have h := ht_ c_791
            refine lv_iinc (v := (15 : Int32)) (lv' := [(2, .int (15 : Int32)), (1, .ref h0)]) hx hb dL_bounds_221 hl (k := 0) rfl (by decide) (by decide) rfl (fun ls hl => ?_)
            refine lv_goto (tgt := 197) hx hb dL_bounds_224 (by decide) ?_
            refine lv_iload_n hx hb dL_bounds_197 rfl (lv_at hl 0 rfl) ?_
            refine lv_bipush (v := (40 : Int32)) hx hb dL_bounds_198 (by decide) ?_
            refine lv_icmp_ge (tgt := 227) hx hb dL_bounds_200 (by decide) (fun c_792 => absurd c_792 (by decide)) (fun c_792 => ?_)
            refine lv_aload_n hx hb dL_bounds_203 rfl (lv_at hl 1 rfl) ?_
            refine lv_iconst (v := (2 : Int32)) hx hb dL_bounds_204 (by decide) ?_
            refine lv_iload_n hx hb dL_bounds_205 rfl (lv_at hl 0 rfl) ?_
            refine lv_imul hx hb dL_bounds_206 ?_
            refine lv_lit (b := (30 : Int32)) (by decide) ?_
            refine lv_iconst (v := (2 : Int32)) hx hb dL_bounds_207 (by decide) ?_
            refine lv_iload_n hx hb dL_bounds_208 rfl (lv_at hl 0 rfl) ?_
            refine lv_imul hx hb dL_bounds_209 ?_
            refine lv_lit (b := (30 : Int32)) (by decide) ?_
            refine lv_iconst (v := (2 : Int32)) hx hb dL_bounds_210 (by decide) ?_
            refine lv_iload_n hx hb dL_bounds_211 rfl (lv_at hl 0 rfl) ?_
            refine lv_imul hx hb dL_bounds_212 ?_
            refine lv_lit (b := (30 : Int32)) (by decide) ?_
            have hFc := frw hD hS hA
            refine vx_calli (vx_runV (As := [.int (30 : Int32), .int (30 : Int32), .int (30 : Int32)]) (rest := []) ⟨hx, hb, hml, hown, hts⟩ (c_X7_state l hst dC dI cI h0 h0_1 h0_2 h0_3 h0_4 h0_5 h0_6 h0_7 h0_8 h0_9 h0_10 h0_11 h0_12 h0_13 h0_14 h0_15 h0_16 h0_17 h0_18 h0_19 h0_20 h0_21 h0_22 m_787 m_788 h0_25 h0_26 m_789 m_790 h0_29 h0_30 _ u_785 (30 : Int32) (30 : Int32) (30 : Int32) _ _ h) (cwV 3 hts (goodIn_up gB_X7_state) rfl rfl rfl (by decide +kernel) ⟨Nat.le_of_ble_eq_true rfl, Nat.le_of_ble_eq_true rfl⟩) (pbj_V hP hK hD hN hX hFc hS (ci := 7) (q0 := 0) rfl rfl) rfl rfl hl.1 rfl (lv_room (Nat.le_of_ble_eq_true rfl)) dL_bounds_213 ⟨Nat.le_of_ble_eq_true rfl, Nat.le_of_ble_eq_true rfl⟩) hS (fun q _ h => hFc q h) hFc (fun q _ h => hFc q h) (fun E9 ce9 q9 u t H locs ht hvm h hB hz1 hk1 hS hce hcv hcl => (show False from h).elim) (fun r_794 u_793 t H locs ht hvm h hB hz1 hk1 hS => ?_)
            obtain ⟨m_795, m_796, m_797, m_798, hP1, hD1⟩ := hB
            rw [ht] at hP1
            have hP : va_P (dC, dI) vwCl (lwO cI h0 h0_1 h0_2 h0_3 h0_4 h0_5 h0_6 h0_7 h0_8 h0_9 h0_10 h0_11 h0_12 h0_13 h0_14 h0_15 h0_16 h0_17 h0_18 h0_19 h0_20 h0_21 h0_22 m_795 m_796 h0_25 h0_26 m_797 m_798 h0_29 h0_30 u_793) H := hP1
            have hD : va_D A (lwO cI h0 h0_1 h0_2 h0_3 h0_4 h0_5 h0_6 h0_7 h0_8 h0_9 h0_10 h0_11 h0_12 h0_13 h0_14 h0_15 h0_16 h0_17 h0_18 h0_19 h0_20 h0_21 h0_22 m_795 m_796 h0_25 h0_26 m_797 m_798 h0_29 h0_30 u_793) := hD1.weaken (fun _ _ _ h => hFc _ h)
            refine W.widen (k := 351) (n := 21404) (Nat.le_of_ble_eq_true rfl) (Nat.le_of_ble_eq_true rfl) ?_
            obtain ⟨ht_, hf_⟩ := h
            refine lv_if_ne (tgt := 221) hx hb dL_bounds_216 (by decide) (fun c_799 => ?_) (fun c_799 => ?_)
            · have h := ht_ c_799
              refine lv_iinc (v := (16 : Int32)) (lv' := [(2, .int (16 : Int32)), (1, .ref h0)]) hx hb dL_bounds_221 hl (k := 0) rfl (by decide) (by decide) rfl (fun ls hl => ?_)
              refine lv_goto (tgt := 197) hx hb dL_bounds_224 (by decide) ?_
              refine lv_iload_n hx hb dL_bounds_197 rfl (lv_at hl 0 rfl) ?_
              refine lv_bipush (v := (40 : Int32)) hx hb dL_bounds_198 (by decide) ?_
              refine lv_icmp_ge (tgt := 227) hx hb dL_bounds_200 (by decide) (fun c_800 => absurd c_800 (by decide)) (fun c_800 => ?_)
              refine lv_aload_n hx hb dL_bounds_203 rfl (lv_at hl 1 rfl) ?_
              refine lv_iconst (v := (2 : Int32)) hx hb dL_bounds_204 (by decide) ?_
              refine lv_iload_n hx hb dL_bounds_205 rfl (lv_at hl 0 rfl) ?_
              refine lv_imul hx hb dL_bounds_206 ?_
              refine lv_lit (b := (32 : Int32)) (by decide) ?_
              refine lv_iconst (v := (2 : Int32)) hx hb dL_bounds_207 (by decide) ?_
              refine lv_iload_n hx hb dL_bounds_208 rfl (lv_at hl 0 rfl) ?_
              refine lv_imul hx hb dL_bounds_209 ?_
              refine lv_lit (b := (32 : Int32)) (by decide) ?_
              refine lv_iconst (v := (2 : Int32)) hx hb dL_bounds_210 (by decide) ?_
              refine lv_iload_n hx hb dL_bounds_211 rfl (lv_at hl 0 rfl) ?_
              refine lv_imul hx hb dL_bounds_212 ?_
              refine lv_lit (b := (32 : Int32)) (by decide) ?_
              have hFc := frw hD hS hA
              refine vx_calli (vx_runV (As := [.int (32 : Int32), .int (32 : Int32), .int (32 : Int32)]) (rest := []) ⟨hx, hb, hml, hown, hts⟩ (c_X7_state l hst dC dI cI h0 h0_1 h0_2 h0_3 h0_4 h0_5 h0_6 h0_7 h0_8 h0_9 h0_10 h0_11 h0_12 h0_13 h0_14 h0_15 h0_16 h0_17 h0_18 h0_19 h0_20 h0_21 h0_22 m_795 m_796 h0_25 h0_26 m_797 m_798 h0_29 h0_30 _ u_793 (32 : Int32) (32 : Int32) (32 : Int32) _ _ h) (cwV 3 hts (goodIn_up gB_X7_state) rfl rfl rfl (by decide +kernel) ⟨Nat.le_of_ble_eq_true rfl, Nat.le_of_ble_eq_true rfl⟩) (pbj_V hP hK hD hN hX hFc hS (ci := 7) (q0 := 0) rfl rfl) rfl rfl hl.1 rfl (lv_room (Nat.le_of_ble_eq_true rfl)) dL_bounds_213 ⟨Nat.le_of_ble_eq_true rfl, Nat.le_of_ble_eq_true rfl⟩) hS (fun q _ h => hFc q h) hFc (fun q _ h => hFc q h) (fun E9 ce9 q9 u t H locs ht hvm h hB hz1 hk1 hS hce hcv hcl => (show False from h).elim) (fun r_802 u_801 t H locs ht hvm h hB hz1 hk1 hS => ?_)
              obtain ⟨m_803, m_804, m_805, m_806, hP1, hD1⟩ := hB
              rw [ht] at hP1
              have hP : va_P (dC, dI) vwCl (lwO cI h0 h0_1 h0_2 h0_3 h0_4 h0_5 h0_6 h0_7 h0_8 h0_9 h0_10 h0_11 h0_12 h0_13 h0_14 h0_15 h0_16 h0_17 h0_18 h0_19 h0_20 h0_21 h0_22 m_803 m_804 h0_25 h0_26 m_805 m_806 h0_29 h0_30 u_801) H := hP1
              have hD : va_D A (lwO cI h0 h0_1 h0_2 h0_3 h0_4 h0_5 h0_6 h0_7 h0_8 h0_9 h0_10 h0_11 h0_12 h0_13 h0_14 h0_15 h0_16 h0_17 h0_18 h0_19 h0_20 h0_21 h0_22 m_803 m_804 h0_25 h0_26 m_805 m_806 h0_29 h0_30 u_801) := hD1.weaken (fun _ _ _ h => hFc _ h)
              refine W.widen (k := 352) (n := 21410) (Nat.le_of_ble_eq_true rfl) (Nat.le_of_ble_eq_true rfl) ?_
              obtain ⟨ht_, hf_⟩ := h
              refine lv_if_ne (tgt := 221) hx hb dL_bounds_216 (by decide) (fun c_807 => ?_) (fun c_807 => ?_)
              · have h := ht_ c_807
                have hl : lv_has ls 3 [(1, .ref h0), (2, .int (16 : Int32))] := lv_sub hl [1, 0] rfl
                refine W.widen (k := 352) (n := 21410) (Nat.le_of_ble_eq_true rfl) (Nat.le_of_ble_eq_true rfl) ?_
                exact sg_L_bounds_13 l hst C0 hK hN hX hC hA h0 h0_1 h0_2 h0_3 h0_4 h0_5 h0_6 h0_7 h0_8 h0_9 h0_10 h0_11 h0_12 h0_13 h0_14 h0_15 h0_16 h0_17 h0_18 h0_19 h0_20 h0_21 h0_22 h0_25 h0_26 h0_29 h0_30 _ u_801 h m_803 m_804 m_805 m_806 _ _ hP hD hS _ hl
              · have h := hf_ c_807
                exact (show False from h).elim
            · have h := hf_ c_799
              exact (show False from h).elim
          · have h := hf_ c_791
            exact (show False from h).elim
        · have h := hf_ c_783
          exact (show False from h).elim
      · have h := hf_ c_775
        exact (show False from h).elim
    · have h := hf_ c_767
      exact (show False from h).elim
  · have h := hf_ c_759
    exact (show False from h).elim
