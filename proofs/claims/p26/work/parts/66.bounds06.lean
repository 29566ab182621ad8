set_option maxHeartbeats 4000000 in
set_option maxRecDepth 100000 in
theorem sg_L_bounds_2 (l : Launch) (hst : l.stackTraces = false) {p : Program} {e : Env} {s : State} {m : MethodId} {below : List Frame} {meth : Method} {c : Code} (C0 : LC p s m (([] : List Value).toArray) meth c cL_bounds 3 wq_bounds) {dC : Nat → ClassId} {dI : Nat → Nat → Nat} {cI : ClassId} (hK : va_K (dC, dI) vwCl [(cI, .int)] s) (hN : nk s) {A : Nat → Prop} (hX : xj A s) (hC : xnc s) (hA : ∀ q : Nat, s.heap.size ≤ q → A q) (h0 h0_1 h0_2 h0_3 h0_4 h0_5 h0_6 h0_7 h0_8 h0_9 h0_10 h0_11 h0_12 h0_13 h0_14 h0_15 h0_16 h0_17 h0_18 h0_19 h0_20 h0_21 h0_22 h0_25 h0_26 h0_29 h0_30 : Nat) (post : Int32 → Prop) (s0 : TriS) (h : P_L_bounds_2 s0 post) (h0_23 h0_24 h0_27 h0_28 : Nat) (H : Heap) (locs : List Loc) (hP : va_P (dC, dI) vwCl (lwO cI h0 h0_1 h0_2 h0_3 h0_4 h0_5 h0_6 h0_7 h0_8 h0_9 h0_10 h0_11 h0_12 h0_13 h0_14 h0_15 h0_16 h0_17 h0_18 h0_19 h0_20 h0_21 h0_22 h0_23 h0_24 h0_25 h0_26 h0_27 h0_28 h0_29 h0_30 s0) H) (hD : va_D A (lwO cI h0 h0_1 h0_2 h0_3 h0_4 h0_5 h0_6 h0_7 h0_8 h0_9 h0_10 h0_11 h0_12 h0_13 h0_14 h0_15 h0_16 h0_17 h0_18 h0_19 h0_20 h0_21 h0_22 h0_23 h0_24 h0_25 h0_26 h0_27 h0_28 h0_29 h0_30 s0)) (hS : va_S A s.heap H locs) (ls : Array Slot) (hl : lv_has ls 3 [(0, .ref h0), (1, .int (10 : Int32))]) : W p l e rm_L_bounds s m (([] : List Value).toArray) below meth c H locs 44 9913 (MQ below (Q_L_bounds dC dI cI A post) (([] : List Value).toArray) s mc_L_bounds ms_L_bounds A) (F0 m 118 ls []) := by
  obtain ⟨hx, hb, hr, hml, hown, hts, hlocks⟩ := id C0
  refine lv_iinc (v := (11 : Int32)) (lv' := [(1, .int (11 : Int32)), (0, .ref h0)]) hx hb dL_bounds_118 hl (k := 1) rfl (by decide) (by decide) rfl (fun ls hl => ?_)
  refine lv_goto (tgt := 38) hx hb dL_bounds_121 (by decide) ?_
  refine lv_iload_n hx hb dL_bounds_38 rfl (lv_at hl 0 rfl) ?_
  refine lv_bipush (v := (60 : Int32)) hx hb dL_bounds_39 (by decide) ?_
  refine lv_icmp_ge (tgt := 124) hx hb dL_bounds_41 (by decide) (fun c_147 => absurd c_147 (by decide)) (fun c_147 => ?_)
  refine lv_iload_n hx hb dL_bounds_44 rfl (lv_at hl 0 rfl) ?_
  refine lv_bipush (v := (44 : Int32)) hx hb dL_bounds_45 (by decide) ?_
  refine lv_icmp_ne (tgt := 96) hx hb dL_bounds_47 (by decide) (fun c_148 => ?_) (fun c_148 => absurd c_148 (by decide))
  refine lv_aload_n hx hb dL_bounds_96 rfl (lv_at hl 1 rfl) ?_
  refine lv_iload_n hx hb dL_bounds_97 rfl (lv_at hl 0 rfl) ?_
  refine lv_bipush (v := (9 : Int32)) hx hb dL_bounds_98 (by decide) ?_
  refine lv_idiv hx hb dL_bounds_100 (by decide) ?_
  refine lv_lit (b := (1 : Int32)) (by decide) ?_
  refine lv_bipush (v := (10 : Int32)) hx hb dL_bounds_101 (by decide) ?_
  refine lv_bipush (v := (20 : Int32)) hx hb dL_bounds_103 (by decide) ?_
  refine lv_iload_n hx hb dL_bounds_105 rfl (lv_at hl 0 rfl) ?_
  refine lv_bipush (v := (9 : Int32)) hx hb dL_bounds_106 (by decide) ?_
  refine lv_irem hx hb dL_bounds_108 (by decide) ?_
  refine lv_lit (b := (2 : Int32)) (by decide) ?_
  refine lv_iadd hx hb dL_bounds_109 ?_
  refine lv_lit (b := (22 : Int32)) (by decide) ?_
  have hFc := frw hD hS hA
  refine vx_calli (vx_runV (As := [.int (1 : Int32), .int (10 : Int32), .int (22 : Int32)]) (rest := []) ⟨hx, hb, hml, hown, hts⟩ (c_X7_state l hst dC dI cI h0 h0_1 h0_2 h0_3 h0_4 h0_5 h0_6 h0_7 h0_8 h0_9 h0_10 h0_11 h0_12 h0_13 h0_14 h0_15 h0_16 h0_17 h0_18 h0_19 h0_20 h0_21 h0_22 h0_23 h0_24 h0_25 h0_26 h0_27 h0_28 h0_29 h0_30 _ s0 (1 : Int32) (10 : Int32) (22 : Int32) _ _ h) (cwV 3 hts (goodIn_up gB_X7_state) rfl rfl rfl (by decide +kernel) ⟨Nat.le_of_ble_eq_true rfl, Nat.le_of_ble_eq_true rfl⟩) (pbj_V hP hK hD hN hX hFc hS (ci := 7) (q0 := 0) rfl rfl) rfl rfl hl.1 rfl (lv_room (Nat.le_of_ble_eq_true rfl)) dL_bounds_110 ⟨Nat.le_of_ble_eq_true rfl, Nat.le_of_ble_eq_true rfl⟩) hS (fun q _ h => hFc q h) hFc (fun q _ h => hFc q h) (fun E9 ce9 q9 u t H locs ht hvm h hB hz1 hk1 hS hce hcv hcl => (show False from h).elim) (fun r_150 u_149 t H locs ht hvm h hB hz1 hk1 hS => ?_)
  obtain ⟨m_151, m_152, m_153, m_154, hP1, hD1⟩ := hB
  rw [ht] at hP1
  have hP : va_P (dC, dI) vwCl (lwO cI h0 h0_1 h0_2 h0_3 h0_4 h0_5 h0_6 h0_7 h0_8 h0_9 h0_10 h0_11 h0_12 h0_13 h0_14 h0_15 h0_16 h0_17 h0_18 h0_19 h0_20 h0_21 h0_22 m_151 m_152 h0_25 h0_26 m_153 m_154 h0_29 h0_30 u_149) H := hP1
  have hD : va_D A (lwO cI h0 h0_1 h0_2 h0_3 h0_4 h0_5 h0_6 h0_7 h0_8 h0_9 h0_10 h0_11 h0_12 h0_13 h0_14 h0_15 h0_16 h0_17 h0_18 h0_19 h0_20 h0_21 h0_22 m_151 m_152 h0_25 h0_26 m_153 m_154 h0_29 h0_30 u_149) := hD1.weaken (fun _ _ _ h => hFc _ h)
  refine W.widen (k := 45) (n := 9919) (Nat.le_of_ble_eq_true rfl) (Nat.le_of_ble_eq_true rfl) ?_
  obtain ⟨ht_, hf_⟩ := h
  refine lv_if_ne (tgt := 118) hx hb dL_bounds_113 (by decide) (fun c_155 => ?_) (fun c_155 => ?_)
  · have h := ht_ c_155
    refine lv_iinc (v := (12 : Int32)) (lv' := [(1, .int (12 : Int32)), (0, .ref h0)]) hx hb dL_bounds_118 hl (k := 0) rfl (by decide) (by decide) rfl (fun ls hl => ?_)
    refine lv_goto (tgt := 38) hx hb dL_bounds_121 (by decide) ?_
    refine lv_iload_n hx hb dL_bounds_38 rfl (lv_at hl 0 rfl) ?_
    refine lv_bipush (v := (60 : Int32)) hx hb dL_bounds_39 (by decide) ?_
    refine lv_icmp_ge (tgt := 124) hx hb dL_bounds_41 (by decide) (fun c_156 => absurd c_156 (by decide)) (fun c_156 => ?_)
    refine lv_iload_n hx hb dL_bounds_44 rfl (lv_at hl 0 rfl) ?_
    refine lv_bipush (v := (44 : Int32)) hx hb dL_bounds_45 (by decide) ?_
    refine lv_icmp_ne (tgt := 96) hx hb dL_bounds_47 (by decide) (fun c_157 => ?_) (fun c_157 => absurd c_157 (by decide))
    refine lv_aload_n hx hb dL_bounds_96 rfl (lv_at hl 1 rfl) ?_
    refine lv_iload_n hx hb dL_bounds_97 rfl (lv_at hl 0 rfl) ?_
    refine lv_bipush (v := (9 : Int32)) hx hb dL_bounds_98 (by decide) ?_
    refine lv_idiv hx hb dL_bounds_100 (by decide) ?_
    refine lv_lit (b := (1 : Int32)) (by decide) ?_
    refine lv_bipush (v := (10 : Int32)) hx hb dL_bounds_101 (by decide) ?_
    refine lv_bipush (v := (20 : Int32)) hx hb dL_bounds_103 (by decide) ?_
    refine lv_iload_n hx hb dL_bounds_105 rfl (lv_at hl 0 rfl) ?_
    refine lv_bipush (v := (9 : Int32)) hx hb dL_bounds_106 (by decide) ?_
    refine lv_irem hx hb dL_bounds_108 (by decide) ?_
    refine lv_lit (b := (3 : Int32)) (by decide) ?_
    refine lv_iadd hx hb dL_bounds_109 ?_
    refine lv_lit (b := (23 : Int32)) (by decide) ?_
    have hFc := frw hD hS hA
    refine vx_calli (vx_runV (As := [.int (1 : Int32), .int (10 : Int32), .int (23 : Int32)]) (rest := []) ⟨hx, hb, hml, hown, hts⟩ (c_X7_state l hst dC dI cI h0 h0_1 h0_2 h0_3 h0_4 h0_5 h0_6 h0_7 h0_8 h0_9 h0_10 h0_11 h0_12 h0_13 h0_14 h0_15 h0_16 h0_17 h0_18 h0_19 h0_20 h0_21 h0_22 m_151 m_152 h0_25 h0_26 m_153 m_154 h0_29 h0_30 _ u_149 (1 : Int32) (10 : Int32) (23 : Int32) _ _ h) (cwV 3 hts (goodIn_up gB_X7_state) rfl rfl rfl (by decide +kernel) ⟨Nat.le_of_ble_eq_true rfl, Nat.le_of_ble_eq_true rfl⟩) (pbj_V hP hK hD hN hX hFc hS (ci := 7) (q0 := 0) rfl rfl) rfl rfl hl.1 rfl (lv_room (Nat.le_of_ble_eq_true rfl)) dL_bounds_110 ⟨Nat.le_of_ble_eq_true rfl, Nat.le_of_ble_eq_true rfl⟩) hS (fun q _ h => hFc q h) hFc (fun q _ h => hFc q h) (fun E9 ce9 q9 u t H locs ht hvm h hB hz1 hk1 hS hce hcv hcl => (show False from h).elim) (fun r_159 u_158 t H locs ht hvm h hB hz1 hk1 hS => ?_)
    obtain ⟨m_160, m_161, m_162, m_163, hP1, hD1⟩ := hB
    rw [ht] at hP1
    have hP : va_P (dC, dI) vwCl (lwO cI h0 h0_1 h0_2 h0_3 h0_4 h0_5 h0_6 h0_7 h0_8 h0_9 h0_10 h0_11 h0_12 h0_13 h0_14 h0_15 h0_16 h0_17 h0_18 h0_19 h0_20 h0_21 h0_22 m_160 m_161 h0_25 h0_26 m_162 m_163 h0_29 h0_30 u_158) H := hP1
    have hD : va_D A (lwO cI h0 h0_1 h0_2 h0_3 h0_4 h0_5 h0_6 h0_7 h0_8 h0_9 h0_10 h0_11 h0_12 h0_13 h0_14 h0_15 h0_16 h0_17 h0_18 h0_19 h0_20 h0_21 h0_22 m_160 m_161 h0_25 h0_26 m_162 m_163 h0_29 h0_30 u_158) := hD1.weaken (fun _ _ _ h => hFc _ h)
    refine W.widen (k := 46) (n := 9925) (Nat.le_of_ble_eq_true rfl) (Nat.le_of_ble_eq_true rfl) ?_
    obtain ⟨ht_, hf_⟩ := h
    refine lv_if_ne (tgt := 118) hx hb dL_bounds_113 (by decide) (fun c_164 => ?_) (fun c_164 => ?_)
    · have h := ht_ c_164
      refine lv_iinc (v := (13 : Int32)) (lv' := [(1, .int (13 : Int32)), (0, .ref h0)]) hx hb dL_bounds_118 hl (k := 0) rfl (by decide) (by decide) rfl (fun ls hl => ?_)
      refine lv_goto (tgt := 38) hx hb dL_bounds_121 (by decide) ?_
      refine lv_iload_n hx hb dL_bounds_38 rfl (lv_at hl 0 rfl) ?_
      refine lv_bipush (v := (60 : Int32)) hx hb dL_bounds_39 (by decide) ?_
      refine lv_icmp_ge (tgt := 124) hx hb dL_bounds_41 (by decide) (fun c_165 => absurd c_165 (by decide)) (fun c_165 => ?_)
      refine lv_iload_n hx hb dL_bounds_44 rfl (lv_at hl 0 rfl) ?_
      refine lv_bipush (v := (44 : Int32)) hx hb dL_bounds_45 (by decide) ?_
      refine lv_icmp_ne (tgt := 96) hx hb dL_bounds_47 (by decide) (fun c_166 => ?_) (fun c_166 => absurd c_166 (by decide))
      refine lv_aload_n hx hb dL_bounds_96 rfl (lv_at hl 1 rfl) ?_
      refine lv_iload_n hx hb dL_bounds_97 rfl (lv_at hl 0 rfl) ?_
      refine lv_bipush (v := (9 : Int32)) hx hb dL_bounds_98 (by decide) ?_
      refine lv_idiv hx hb dL_bounds_100 (by decide) ?_
      refine lv_lit (b := (1 : Int32)) (by decide) ?_
      refine lv_bipush (v := (10 : Int32)) hx hb dL_bounds_101 (by decide) ?_
      refine lv_bipush (v := (20 : Int32)) hx hb dL_bounds_103 (by decide) ?_
      refine lv_iload_n hx hb dL_bounds_105 rfl (lv_at hl 0 rfl) ?_
      refine lv_bipush (v := (9 : Int32)) hx hb dL_bounds_106 (by decide) ?_
      refine lv_irem hx hb dL_bounds_108 (by decide) ?_
      refine lv_lit (b := (4 : Int32)) (by decide) ?_
      refine lv_iadd hx hb dL_bounds_109 ?_
      refine lv_lit (b := (24 : Int32)) (by decide) ?_
      have hFc := frw hD hS hA
      refine vx_calli (vx_runV (As := [.int (1 : Int32), .int (10 : Int32), .int (24 : Int32)]) (rest := []) ⟨hx, hb, hml, hown, hts⟩ (c_X7_state l hst dC dI cI h0 h0_1 h0_2 h0_3 h0_4 h0_5 h0_6 h0_7 h0_8 h0_9 h0_10 h0_11 h0_12 h0_13 h0_14 h0_15 h0_16 h0_17 h0_18 h0_19 h0_20 h0_21 h0_22 m_160 m_161 h0_25 h0_26 m_162 m_163 h0_29 h0_30 _ u_158 (1 : Int32) (10 : Int32) (24 : Int32) _ _ h) (cwV 3 hts (goodIn_up gB_X7_state) rfl rfl rfl (by decide +kernel) ⟨Nat.le_of_ble_eq_true rfl, Nat.le_of_ble_eq_true rfl⟩) (pbj_V hP hK hD hN hX hFc hS (ci := 7) (q0 := 0) rfl rfl) rfl rfl hl.1 rfl (lv_room (Nat.le_of_ble_eq_true rfl)) dL_bounds_110 ⟨Nat.le_of_ble_eq_true rfl, Nat.le_of_ble_eq_true rfl⟩) hS (fun q _ h => hFc q h) hFc (fun q _ h => hFc q h) (fun E9 ce9 q9 u t H locs ht hvm h hB hz1 hk1 hS hce hcv hcl => (show False from h).elim) (fun r_168 u_167 t H locs ht hvm h hB hz1 hk1 hS => ?_)
      obtain ⟨m_169, m_170, m_171, m_172, hP1, hD1⟩ := hB
      rw [ht] at hP1
      have hP : va_P (dC, dI) vwCl (lwO cI h0 h0_1 h0_2 h0_3 h0_4 h0_5 h0_6 h0_7 h0_8 h0_9 h0_10 h0_11 h0_12 h0_13 h0_14 h0_15 h0_16 h0_17 h0_18 h0_19 h0_20 h0_21 h0_22 m_169 m_170 h0_25 h0_26 m_171 m_172 h0_29 h0_30 u_167) H := hP1
      have hD : va_D A (lwO cI h0 h0_1 h0_2 h0_3 h0_4 h0_5 h0_6 h0_7 h0_8 h0_9 h0_10 h0_11 h0_12 h0_13 h0_14 h0_15 h0_16 h0_17 h0_18 h0_19 h0_20 h0_21 h0_22 m_169 m_170 h0_25 h0_26 m_171 m_172 h0_29 h0_30 u_167) := hD1.weaken (fun _ _ _ h => hFc _ h)
      refine W.widen (k := 47) (n := 9931) (Nat.le_of_ble_eq_true rfl) (Nat.le_of_ble_eq_true rfl) ?_
      obtain ⟨ht_, hf_⟩ := h
      refine lv_if_ne (tgt := 118) hx hb dL_bounds_113 (by decide) (fun c_173 => ?_) (fun c_173 => ?_)
      · have h := ht_ c_173
        refine lv_iinc (v := (14 : Int32)) (lv' := [(1, .int (14 : Int32)), (0, .ref h0)]) hx hb dL_bounds_118 hl (k := 0) rfl (by decide) (by decide) rfl (fun ls hl => ?_)
        refine lv_goto (tgt := 38) hx hb dL_bounds_121 (by decide) ?_
        refine lv_iload_n hx hb dL_bounds_38 rfl (lv_at hl 0 rfl) ?_
        refine lv_bipush (v := (60 : Int32)) hx hb dL_bounds_39 (by decide) ?_
        refine lv_icmp_ge (tgt := 124) hx hb dL_bounds_41 (by decide) (fun c_174 => absurd c_174 (by decide)) (fun c_174 => ?_)
        refine lv_iload_n hx hb dL_bounds_44 rfl (lv_at hl 0 rfl) ?_
        refine lv_bipush (v := (44 : Int32)) hx hb dL_bounds_45 (by decide) ?_
        refine lv_icmp_ne (tgt := 96) hx hb dL_bounds_47 (by decide) (fun c_175 => ?_) (fun c_175 => absurd c_175 (by decide))
        refine lv_aload_n hx hb dL_bounds_96 rfl (lv_at hl 1 rfl) ?_
        refine lv_iload_n hx hb dL_bounds_97 rfl (lv_at hl 0 rfl) ?_
        refine lv_bipush (v := (9 : Int32)) hx hb dL_bounds_98 (by decide) ?_
        refine lv_idiv hx hb dL_bounds_100 (by decide) ?_
        refine lv_lit (b := (1 : Int32)) (by decide) ?_
        refine lv_bipush (v := (10 : Int32)) hx hb dL_bounds_101 (by decide) ?_
        refine lv_bipush (v := (20 : Int32)) hx hb dL_bounds_103 (by decide) ?_
        refine lv_iload_n hx hb dL_bounds_105 rfl (lv_at hl 0 rfl) ?_
        refine lv_bipush (v := (9 : Int32)) hx hb dL_bounds_106 (by decide) ?_
        refine lv_irem hx hb dL_bounds_108 (by decide) ?_
        refine lv_lit (b := (5 : Int32)) (by decide) ?_
        refine lv_iadd hx hb dL_bounds_109 ?_
        refine lv_lit (b := (25 : Int32)) (by decide) ?_
        have hFc := frw hD hS hA
        refine vx_calli (vx_runV (As := [.int (1 : Int32), .int (10 : Int32), .int (25 : Int32)]) (rest := []) ⟨hx, hb, hml, hown, hts⟩ (c_X7_state l hst dC dI cI h0 h0_1 h0_2 h0_3 h0_4 h0_5 h0_6 h0_7 h0_8 h0_9 h0_10 h0_11 h0_12 h0_13 h0_14 h0_15 h0_16 h0_17 h0_18 h0_19 h0_20 h0_21 h0_22 m_169 m_170 h0_25 h0_26 m_171 m_172 h0_29 h0_30 _ u_167 (1 : Int32) (10 : Int32) (25 : Int32) _ _ h) (cwV 3 hts (goodIn_up gB_X7_state) rfl rfl rfl (by decide +kernel) ⟨Nat.le_of_ble_eq_true rfl, Nat.le_of_ble_eq_true rfl⟩) (pbj_V hP hK hD hN hX hFc hS (ci := 7) (q0 := 0) rfl rfl) rfl rfl hl.1 rfl (lv_room (Nat.le_of_ble_eq_true rfl)) dL_bounds_110 ⟨Nat.le_of_ble_eq_true rfl, Nat.le_of_ble_eq_true rfl⟩) hS (fun q _ h => hFc q h) hFc (fun q _ h => hFc q h) (fun E9 ce9 q9 u t H locs ht hvm h hB hz1 hk1 hS hce hcv hcl => (show False from h).elim) (fun r_177 u_176 t H locs ht hvm h hB hz1 hk1 hS => ?_)
        obtain ⟨m_178, m_179, m_180, m_181, hP1, hD1⟩ := hB
        rw [ht] at hP1
        have hP : va_P (dC, dI) vwCl (lwO cI h0 h0_1 h0_2 h0_3 h0_4 h0_5 h0_6 h0_7 h0_8 h0_9 h0_10 h0_11 h0_12 h0_13 h0_14 h0_15 h0_16 h0_17 h0_18 h0_19 h0_20 h0_21 h0_22 m_178 m_179 h0_25 h0_26 m_180 m_181 h0_29 h0_30 u_176) H := hP1
        have hD : va_D A (lwO cI h0 h0_1 h0_2 h0_3 h0_4 h0_5 h0_6 h0_7 h0_8 h0_9 h0_10 h0_11 h0_12 h0_13 h0_14 h0_15 h0_16 h0_17 h0_18 h0_19 h0_20 h0_21 h0_22 m_178 m_179 h0_25 h0_26 m_180 m_181 h0_29 h0_30 u_176) := hD1.weaken (fun _ _ _ h => hFc _ h)
        refine W.widen (k := 48) (n := 9937) (Nat.le_of_ble_eq_true rfl) (Nat.le_of_ble_eq_true rfl) ?_
        obtain ⟨ht_, hf_⟩ := h
        refine lv_if_ne (tgt := 118) hx hb dL_bounds_113 (by decide) (fun c_182 => ?_) (fun c_182 => ?_)
        · have h := ht_ c_182
          refine lv_iinc (v := (15 : Int32)) (lv' := [(1, .int (15 : Int32)), (0, .ref h0)]) hx hb dL_bounds_118 hl (k := 0) rfl (by decide) (by decide) rfl (fun ls hl => ?_)
          refine lv_goto (tgt := 38) hx hb dL_bounds_121 (by decide) ?_
          refine lv_iload_n hx hb dL_bounds_38 rfl (lv_at hl 0 rfl) ?_
          refine lv_bipush (v := (60 : Int32)) hx hb dL_bounds_39 (by decide) ?_
          refine lv_icmp_ge (tgt := 124) hx hb dL_bounds_41 (by decide) (fun c_183 => absurd c_183 (by decide)) (fun c_183 => ?_)
          refine lv_iload_n hx hb dL_bounds_44 rfl (lv_at hl 0 rfl) ?_
          refine lv_bipush (v := (44 : Int32)) hx hb dL_bounds_45 (by decide) ?_
          refine lv_icmp_ne (tgt := 96) hx hb dL_bounds_47 (by decide) (fun c_184 => ?_) (fun c_184 => absurd c_184 (by decide))
          refine lv_aload_n hx hb dL_bounds_96 rfl (lv_at hl 1 rfl) ?_
          refine lv_iload_n hx hb dL_bounds_97 rfl (lv_at hl 0 rfl) ?_
          refine lv_bipush (v := (9 : Int32)) hx hb dL_bounds_98 (by decide) ?_
          refine lv_idiv hx hb dL_bounds_100 (by decide) ?_
          refine lv_lit (b := (1 : Int32)) (by decide) ?_
          refine lv_bipush (v := (10 : Int32)) hx hb dL_bounds_101 (by decide) ?_
          refine lv_bipush (v := (20 : Int32)) hx hb dL_bounds_103 (by decide) ?_
          refine lv_iload_n hx hb dL_bounds_105 rfl (lv_at hl 0 rfl) ?_
          refine lv_bipush (v := (9 : Int32)) hx hb dL_bounds_106 (by decide) ?_
          refine lv_irem hx hb dL_bounds_108 (by decide) ?_
          refine lv_lit (b := (6 : Int32)) (by decide) ?_
          refine lv_iadd hx hb dL_bounds_109 ?_
          refine lv_lit (b := (26 : Int32)) (by decide) ?_
          have hFc := frw hD hS hA
          refine vx_calli (vx_runV (As := [.int (1 : Int32), .int (10 : Int32), .int (26 : Int32)]) (rest := []) ⟨hx, hb, hml, hown, hts⟩ (c_X7_state l hst dC dI cI h0 h0_1 h0_2 h0_3 h0_4 h0_5 h0_6 h0_7 h0_8 h0_9 h0_10 h0_11 h0_12 h0_13 h0_14 h0_15 h0_16 h0_17 h0_18 h0_19 h0_20 h0_21 h0_22 m_178 m_179 h0_25 h0_26 m_180 m_181 h0_29 h0_30 _ u_176 (1 : Int32) (10 : Int32) (26 : Int32) _ _ h) (cwV 3 hts (goodIn_up gB_X7_state) rfl rfl rfl (by decide +kernel) ⟨Nat.le_of_ble_eq_true rfl, Nat.le_of_ble_eq_true rfl⟩) (pbj_V hP hK hD hN hX hFc hS (ci := 7) (q0 := 0) rfl rfl) rfl rfl hl.1 rfl (lv_room (Nat.le_of_ble_eq_true rfl)) dL_bounds_110 ⟨Nat.le_of_ble_eq_true rfl, Nat.le_of_ble_eq_true rfl⟩) hS (fun q _ h => hFc q h) hFc (fun q _ h => hFc q h) (fun E9 ce9 q9 u t H locs ht hvm h hB hz1 hk1 hS hce hcv hcl => (show False from h).elim) (fun r_186 u_185 t H locs ht hvm h hB hz1 hk1 hS => ?_)
          obtain ⟨m_187, m_188, m_189, m_190, hP1, hD1⟩ := hB
          rw [ht] at hP1
          have hP : va_P (dC, dI) vwCl (lwO cI h0 h0_1 h0_2 h0_3 h0_4 h0_5 h0_6 h0_7 h0_8 h0_9 h0_10 h0_11 h0_12 h0_13 h0_14 h0_15 h0_16 h0_17 h0_18 h0_19 h0_20 h0_21 h0_22 m_187 m_188 h0_25 h0_26 m_189 m_190 h0_29 h0_30 u_185) H := hP1
          have hD : va_D A (lwO cI h0 h0_1 h0_2 h0_3 h0_4 h0_5 h0_6 h0_7 h0_8 h0_9 h0_10 h0_11 h0_12 h0_13 h0_14 h0_15 h0_16 h0_17 h0_18 h0_19 h0_20 h0_21 h0_22 m_187 m_188 h0_25 h0_26 m_189 m_190 h0_29 h0_30 u_185) := hD1.weaken (fun _ _ _ h => hFc _ h)
          refine W.widen (k := 49) (n := 9943) (Nat.le_of_ble_eq_true rfl) (Nat.le_of_ble_eq_true rfl) ?_
          obtain ⟨ht_, hf_⟩ := h
          refine lv_if_ne (tgt := 118) hx hb dL_bounds_113 (by decide) (fun c_191 => ?_) (fun c_191 => ?_)
          · have h := ht_ c_191
            refine lv_iinc (v := (16 : Int32)) (lv' := [(1, .int (16 : Int32)), (0, .ref h0)]) hx hb dL_bounds_118 hl (k := 0) rfl (by decide) (by decide) rfl (fun ls hl => ?_)
            refine lv_goto (tgt := 38) hx hb dL_bounds_121 (by decide) ?_
            refine lv_iload_n hx hb dL_bounds_38 rfl (lv_at hl 0 rfl) ?_
            refine lv_bipush (v := (60 : Int32)) hx hb dL_bounds_39 (by decide) ?_
            refine lv_icmp_ge (tgt := 124) hx hb dL_bounds_41 (by decide) (fun c_192 => absurd c_192 (by decide)) (fun c_192 => ?_)
            refine lv_iload_n hx hb dL_bounds_44 rfl (lv_at hl 0 rfl) ?_
            refine lv_bipush (v := (44 : Int32)) hx hb dL_bounds_45 (by decide) ?_
            refine lv_icmp_ne (tgt := 96) hx hb dL_bounds_47 (by decide) (fun c_193 => ?_) (fun c_193 => absurd c_193 (by decide))
            refine lv_aload_n hx hb dL_bounds_96 rfl (lv_at hl 1 rfl) ?_
            refine lv_iload_n hx hb dL_bounds_97 rfl (lv_at hl 0 rfl) ?_
            refine lv_bipush (v := (9 : Int32)) hx hb dL_bounds_98 (by decide) ?_
            refine lv_idiv hx hb dL_bounds_100 (by decide) ?_
            refine lv_lit (b := (1 : Int32)) (by decide) ?_
            refine lv_bipush (v := (10 : Int32)) hx hb dL_bounds_101 (by decide) ?_
            refine lv_bipush (v := (20 : Int32)) hx hb dL_bounds_103 (by decide) ?_
            refine lv_iload_n hx hb dL_bounds_105 rfl (lv_at hl 0 rfl) ?_
            refine lv_bipush (v := (9 : Int32)) hx hb dL_bounds_106 (by decide) ?_
            refine lv_irem hx hb dL_bounds_108 (by decide) ?_
            refine lv_lit (b := (7 : Int32)) (by decide) ?_
            refine lv_iadd hx hb dL_bounds_109 ?_
            refine lv_lit (b := (27 : Int32)) (by decide) ?_
            have hFc := frw hD hS hA
            refine vx_calli (vx_runV (As := [.int (1 : Int32), .int (10 : Int32), .int (27 : Int32)]) (rest := []) ⟨hx, hb, hml, hown, hts⟩ (c_X7_state l hst dC dI cI h0 h0_1 h0_2 h0_3 h0_4 h0_5 h0_6 h0_7 h0_8 h0_9 h0_10 h0_11 h0_12 h0_13 h0_14 h0_15 h0_16 h0_17 h0_18 h0_19 h0_20 h0_21 h0_22 m_187 m_188 h0_25 h0_26 m_189 m_190 h0_29 h0_30 _ u_185 (1 : Int32) (10 : Int32) (27 : Int32) _ _ h) (cwV 3 hts (goodIn_up gB_X7_state) rfl rfl rfl (by decide +kernel) ⟨Nat.le_of_ble_eq_true rfl, Nat.le_of_ble_eq_true rfl⟩) (pbj_V hP hK hD hN hX hFc hS (ci := 7) (q0 := 0) rfl rfl) rfl rfl hl.1 rfl (lv_room (Nat.le_of_ble_eq_true rfl)) dL_bounds_110 ⟨Nat.le_of_ble_eq_true rfl, Nat.le_of_ble_eq_true rfl⟩) hS (fun q _ h => hFc q h) hFc (fun q _ h => hFc q h) (fun E9 ce9 q9 u t H locs ht hvm h hB hz1 hk1 hS hce hcv hcl => (show False from h).elim) (fun r_195 u_194 t H locs ht hvm h hB hz1 hk1 hS => ?_)
            obtain ⟨m_196, m_197, m_198, m_199, hP1, hD1⟩ := hB
            rw [ht] at hP1
            have hP : va_P (dC, dI) vwCl (lwO cI h0 h0_1 h0_2 h0_3 h0_4 h0_5 h0_6 h0_7 h0_8 h0_9 h0_10 h0_11 h0_12 h0_13 h0_14 h0_15 h0_16 h0_17 h0_18 h0_19 h0_20 h0_21 h0_22 m_196 m_197 h0_25 h0_26 m_198 m_199 h0_29 h0_30 u_194) H := hP1
            have hD : va_D A (lwO cI h0 h0_1 h0_2 h0_3 h0_4 h0_5 h0_6 h0_7 h0_8 h0_9 h0_10 h0_11 h0_12 h0_13 h0_14 h0_15 h0_16 h0_17 h0_18 h0_19 h0_20 h0_21 h0_22 m_196 m_197 h0_25 h0_26 m_198 m_199 h0_29 h0_30 u_194) := hD1.weaken (fun _ _ _ h => hFc _ h)
            refine W.widen (k := 50) (n := 9949) (Nat.le_of_ble_eq_true rfl) (Nat.le_of_ble_eq_true rfl) ?_
            obtain ⟨ht_, hf_⟩ := h
            refine lv_if_ne (tgt := 118) hx hb dL_bounds_113 (by decide) (fun c_200 => ?_) (fun c_200 => ?_)
            · have h := ht_ c_200
              refine lv_iinc (v := (17 : Int32)) (lv' := [(1, .int (17 : Int32)), (0, .ref h0)]) hx hb dL_bounds_118 hl (k := 0) rfl (by decide) (by decide) rfl (fun ls hl => ?_)
              refine lv_goto (tgt := 38) hx hb dL_bounds_121 (by decide) ?_
              refine lv_iload_n hx hb dL_bounds_38 rfl (lv_at hl 0 rfl) ?_
              refine lv_bipush (v := (60 : Int32)) hx hb dL_bounds_39 (by decide) ?_
              refine lv_icmp_ge (tgt := 124) hx hb dL_bounds_41 (by decide) (fun c_201 => absurd c_201 (by decide)) (fun c_201 => ?_)
              refine lv_iload_n hx hb dL_bounds_44 rfl (lv_at hl 0 rfl) ?_
              refine lv_bipush (v := (44 : Int32)) hx hb dL_bounds_45 (by decide) ?_
              refine lv_icmp_ne (tgt := 96) hx hb dL_bounds_47 (by decide) (fun c_202 => ?_) (fun c_202 => absurd c_202 (by decide))
              refine lv_aload_n hx hb dL_bounds_96 rfl (lv_at hl 1 rfl) ?_
              refine lv_iload_n hx hb dL_bounds_97 rfl (lv_at hl 0 rfl) ?_
              refine lv_bipush (v := (9 : Int32)) hx hb dL_bounds_98 (by decide) ?_
              refine lv_idiv hx hb dL_bounds_100 (by decide) ?_
              refine lv_lit (b := (1 : Int32)) (by decide) ?_
              refine lv_bipush (v := (10 : Int32)) hx hb dL_bounds_101 (by decide) ?_
              refine lv_bipush (v := (20 : Int32)) hx hb dL_bounds_103 (by decide) ?_
              refine lv_iload_n hx hb dL_bounds_105 rfl (lv_at hl 0 rfl) ?_
              refine lv_bipush (v := (9 : Int32)) hx hb dL_bounds_106 (by decide) ?_
              refine lv_irem hx hb dL_bounds_108 (by decide) ?_
              refine lv_lit (b := (8 : Int32)) (by decide) ?_
              refine lv_iadd hx hb dL_bounds_109 ?_
              refine lv_lit (b := (28 : Int32)) (by decide) ?_
              have hFc := frw hD hS hA
              refine vx_calli (vx_runV (As := [.int (1 : Int32), .int (10 : Int32), .int (28 : Int32)]) (rest := []) ⟨hx, hb, hml, hown, hts⟩ (c_X7_state l hst dC dI cI h0 h0_1 h0_2 h0_3 h0_4 h0_5 h0_6 h0_7 h0_8 h0_9 h0_10 h0_11 h0_12 h0_13 h0_14 h0_15 h0_16 h0_17 h0_18 h0_19 h0_20 h0_21 h0_22 m_196 m_197 h0_25 h0_26 m_198 m_199 h0_29 h0_30 _ u_194 (1 : Int32) (10 : Int32) (28 : Int32) _ _ h) (cwV 3 hts (goodIn_up gB_X7_state) rfl rfl rfl (by decide +kernel) ⟨Nat.le_of_ble_eq_true rfl, Nat.le_of_ble_eq_true rfl⟩) (pbj_V hP hK hD hN hX hFc hS (ci := 7) (q0 := 0) rfl rfl) rfl rfl hl.1 rfl (lv_room (Nat.le_of_ble_eq_true rfl)) dL_bounds_110 ⟨Nat.le_of_ble_eq_true rfl, Nat.le_of_ble_eq_true rfl⟩) hS (fun q _ h => hFc q h) hFc (fun q _ h => hFc q h) (fun E9 ce9 q9 u t H locs ht hvm h hB hz1 hk1 hS hce hcv hcl => (show False from h).elim) (fun r_204 u_203 t H locs ht hvm h hB hz1 hk1 hS => ?_)
              obtain ⟨m_205, m_206, m_207, m_208, hP1, hD1⟩ := hB
              rw [ht] at hP1
              have hP : va_P (dC, dI) vwCl (lwO cI h0 h0_1 h0_2 h0_3 h0_4 h0_5 h0_6 h0_7 h0_8 h0_9 h0_10 h0_11 h0_12 h0_13 h0_14 h0_15 h0_16 h0_17 h0_18 h0_19 h0_20 h0_21 h0_22 m_205 m_206 h0_25 h0_26 m_207 m_208 h0_29 h0_30 u_203) H := hP1
              have hD : va_D A (lwO cI h0 h0_1 h0_2 h0_3 h0_4 h0_5 h0_6 h0_7 h0_8 h0_9 h0_10 h0_11 h0_12 h0_13 h0_14 h0_15 h0_16 h0_17 h0_18 h0_19 h0_20 h0_21 h0_22 m_205 m_206 h0_25 h0_26 m_207 m_208 h0_29 h0_30 u_203) := hD1.weaken (fun _ _ _ h => hFc _ h)
              refine W.widen (k := 51) (n := 9955) (Nat.le_of_ble_eq_true rfl) (Nat.le_of_ble_eq_true rfl) ?_
              obtain ⟨ht_, hf_⟩ := h
              refine lv_if_ne (tgt := 118) hx hb dL_bounds_113 (by decide) (fun c_209 => ?_) (fun c_209 => ?_)
              · have h := ht_ c_209
                have hl : lv_has ls 3 [(0, .ref h0), (1, .int (17 : Int32))] := lv_sub hl [1, 0] rfl
                refine W.widen (k := 51) (n := 9955) (Nat.le_of_ble_eq_true rfl) (Nat.le_of_ble_eq_true rfl) ?_
                exact sg_L_bounds_3 l hst C0 hK hN hX hC hA h0 h0_1 h0_2 h0_3 h0_4 h0_5 h0_6 h0_7 h0_8 h0_9 h0_10 h0_11 h0_12 h0_13 h0_14 h0_15 h0_16 h0_17 h0_18 h0_19 h0_20 h0_21 h0_22 h0_25 h0_26 h0_29 h0_30 _ u_203 h m_205 m_206 m_207 m_208 _ _ hP hD hS _ hl
              · have h := hf_ c_209
                exact (show False from h).elim
            · have h := hf_ c_200
              exact (show False from h).elim
          · have h := hf_ c_191
            exact (show False from h).elim
        · have h := hf_ c_182
          exact (show False from h).elim
      · have h := hf_ c_173
        exact (show False from h).elim
    · have h := hf_ c_164
      exact (show False from h).elim
  · have h := hf_ c_155
    exact (show False from h).elim
set_option maxHeartbeats 4000000 in
set_option maxRecDepth 100000 in
theorem sg_L_bounds_1 (l : Launch) (hst : l.stackTraces = false) {p : Program} {e : Env} {s : State} {m : MethodId} {below : List Frame} {meth : Method} {c : Code} (C0 : LC p s m (([] : List Value).toArray) meth c cL_bounds 3 wq_bounds) {dC : Nat → ClassId} {dI : Nat → Nat → Nat} {cI : ClassId} (hK : va_K (dC, dI) vwCl [(cI, .int)] s) (hN : nk s) {A : Nat → Prop} (hX : xj A s) (hC : xnc s) (hA : ∀ q : Nat, s.heap.size ≤ q → A q) (h0 h0_1 h0_2 h0_3 h0_4 h0_5 h0_6 h0_7 h0_8 h0_9 h0_10 h0_11 h0_12 h0_13 h0_14 h0_15 h0_16 h0_17 h0_18 h0_19 h0_20 h0_21 h0_22 h0_25 h0_26 h0_29 h0_30 : Nat) (post : Int32 → Prop) (s0 : TriS) (h : P_L_bounds_1 s0 post) (h0_23 h0_24 h0_27 h0_28 : Nat) (H : Heap) (locs : List Loc) (hP : va_P (dC, dI) vwCl (lwO cI h0 h0_1 h0_2 h0_3 h0_4 h0_5 h0_6 h0_7 h0_8 h0_9 h0_10 h0_11 h0_12 h0_13 h0_14 h0_15 h0_16 h0_17 h0_18 h0_19 h0_20 h0_21 h0_22 h0_23 h0_24 h0_25 h0_26 h0_27 h0_28 h0_29 h0_30 s0) H) (hD : va_D A (lwO cI h0 h0_1 h0_2 h0_3 h0_4 h0_5 h0_6 h0_7 h0_8 h0_9 h0_10 h0_11 h0_12 h0_13 h0_14 h0_15 h0_16 h0_17 h0_18 h0_19 h0_20 h0_21 h0_22 h0_23 h0_24 h0_25 h0_26 h0_27 h0_28 h0_29 h0_30 s0)) (hS : va_S A s.heap H locs) (ls : Array Slot) (hl : lv_has ls 3 [(0, .ref h0), (1, .int (3 : Int32))]) : W p l e rm_L_bounds s m (([] : List Value).toArray) below meth c H locs 37 9871 (MQ below (Q_L_bounds dC dI cI A post) (([] : List Value).toArray) s mc_L_bounds ms_L_bounds A) (F0 m 118 ls []) := by
  obtain ⟨hx, hb, hr, hml, hown, hts, hlocks⟩ := id C0
  refine lv_iinc (v := (4 : Int32)) (lv' := [(1, .int (4 : Int32)), (0, .ref h0)]) hx hb dL_bounds_118 hl (k := 1) rfl (by decide) (by decide) rfl (fun ls hl => ?_)
  refine lv_goto (tgt := 38) hx hb dL_bounds_121 (by decide) ?_
  refine lv_iload_n hx hb dL_bounds_38 rfl (lv_at hl 0 rfl) ?_
  refine lv_bipush (v := (60 : Int32)) hx hb dL_bounds_39 (by decide) ?_
  refine lv_icmp_ge (tgt := 124) hx hb dL_bounds_41 (by decide) (fun c_84 => absurd c_84 (by decide)) (fun c_84 => ?_)
  refine lv_iload_n hx hb dL_bounds_44 rfl (lv_at hl 0 rfl) ?_
  refine lv_bipush (v := (44 : Int32)) hx hb dL_bounds_45 (by decide) ?_
  refine lv_icmp_ne (tgt := 96) hx hb dL_bounds_47 (by decide) (fun c_85 => ?_) (fun c_85 => absurd c_85 (by decide))
  refine lv_aload_n hx hb dL_bounds_96 rfl (lv_at hl 1 rfl) ?_
  refine lv_iload_n hx hb dL_bounds_97 rfl (lv_at hl 0 rfl) ?_
  refine lv_bipush (v := (9 : Int32)) hx hb dL_bounds_98 (by decide) ?_
  refine lv_idiv hx hb dL_bounds_100 (by decide) ?_
  refine lv_lit (b := (0 : Int32)) (by decide) ?_
  refine lv_bipush (v := (10 : Int32)) hx hb dL_bounds_101 (by decide) ?_
  refine lv_bipush (v := (20 : Int32)) hx hb dL_bounds_103 (by decide) ?_
  refine lv_iload_n hx hb dL_bounds_105 rfl (lv_at hl 0 rfl) ?_
  refine lv_bipush (v := (9 : Int32)) hx hb dL_bounds_106 (by decide) ?_
  refine lv_irem hx hb dL_bounds_108 (by decide) ?_
  refine lv_lit (b := (4 : Int32)) (by decide) ?_
  refine lv_iadd hx hb dL_bounds_109 ?_
  refine lv_lit (b := (24 : Int32)) (by decide) ?_
  have hFc := frw hD hS hA
  refine vx_calli (vx_runV (As := [.int (0 : Int32), .int (10 : Int32), .int (24 : Int32)]) (rest := []) ⟨hx, hb, hml, hown, hts⟩ (c_X7_state l hst dC dI cI h0 h0_1 h0_2 h0_3 h0_4 h0_5 h0_6 h0_7 h0_8 h0_9 h0_10 h0_11 h0_12 h0_13 h0_14 h0_15 h0_16 h0_17 h0_18 h0_19 h0_20 h0_21 h0_22 h0_23 h0_24 h0_25 h0_26 h0_27 h0_28 h0_29 h0_30 _ s0 (0 : Int32) (10 : Int32) (24 : Int32) _ _ h) (cwV 3 hts (goodIn_up gB_X7_state) rfl rfl rfl (by decide +kernel) ⟨Nat.le_of_ble_eq_true rfl, Nat.le_of_ble_eq_true rfl⟩) (pbj_V hP hK hD hN hX hFc hS (ci := 7) (q0 := 0) rfl rfl) rfl rfl hl.1 rfl (lv_room (Nat.le_of_ble_eq_true rfl)) dL_bounds_110 ⟨Nat.le_of_ble_eq_true rfl, Nat.le_of_ble_eq_true rfl⟩) hS (fun q _ h => hFc q h) hFc (fun q _ h => hFc q h) (fun E9 ce9 q9 u t H locs ht hvm h hB hz1 hk1 hS hce hcv hcl => (show False from h).elim) (fun r_87 u_86 t H locs ht hvm h hB hz1 hk1 hS => ?_)
  obtain ⟨m_88, m_89, m_90, m_91, hP1, hD1⟩ := hB
  rw [ht] at hP1
  have hP : va_P (dC, dI) vwCl (lwO cI h0 h0_1 h0_2 h0_3 h0_4 h0_5 h0_6 h0_7 h0_8 h0_9 h0_10 h0_11 h0_12 h0_13 h0_14 h0_15 h0_16 h0_17 h0_18 h0_19 h0_20 h0_21 h0_22 m_88 m_89 h0_25 h0_26 m_90 m_91 h0_29 h0_30 u_86) H := hP1
  have hD : va_D A (lwO cI h0 h0_1 h0_2 h0_3 h0_4 h0_5 h0_6 h0_7 h0_8 h0_9 h0_10 h0_11 h0_12 h0_13 h0_14 h0_15 h0_16 h0_17 h0_18 h0_19 h0_20 h0_21 h0_22 m_88 m_89 h0_25 h0_26 m_90 m_91 h0_29 h0_30 u_86) := hD1.weaken (fun _ _ _ h => hFc _ h)
  refine W.widen (k := 38) (n := 9877) (Nat.le_of_ble_eq_true rfl) (Nat.le_of_ble_eq_true rfl) ?_
  obtain ⟨ht_, hf_⟩ := h
  refine lv_if_ne (tgt := 118) hx hb dL_bounds_113 (by decide) (fun c_92 => ?_) (fun c_92 => ?_)
  · have h := ht_ c_92
    refine lv_iinc (v := (5 : Int32)) (lv' := [(1, .int (5 : Int32)), (0, .ref h0)]) hx hb dL_bounds_118 hl (k := 0) rfl (by decide) (by decide) rfl (fun ls hl => ?_)
    refine lv_goto (tgt := 38) hx hb dL_bounds_121 (by decide) ?_
    refine lv_iload_n hx hb dL_bounds_38 rfl (lv_at hl 0 rfl) ?_
    refine lv_bipush (v := (60 : Int32)) hx hb dL_bounds_39 (by decide) ?_
    refine lv_icmp_ge (tgt := 124) hx hb dL_bounds_41 (by decide) (fun c_93 => absurd c_93 (by decide)) (fun c_93 => ?_)
    refine lv_iload_n hx hb dL_bounds_44 rfl (lv_at hl 0 rfl) ?_
    refine lv_bipush (v := (44 : Int32)) hx hb dL_bounds_45 (by decide) ?_
    refine lv_icmp_ne (tgt := 96) hx hb dL_bounds_47 (by decide) (fun c_94 => ?_) (fun c_94 => absurd c_94 (by decide))
    refine lv_aload_n hx hb dL_bounds_96 rfl (lv_at hl 1 rfl) ?_
    refine lv_iload_n hx hb dL_bounds_97 rfl (lv_at hl 0 rfl) ?_
    refine lv_bipush (v := (9 : Int32)) hx hb dL_bounds_98 (by decide) ?_
    refine lv_idiv hx hb dL_bounds_100 (by decide) ?_
    refine lv_lit (b := (0 : Int32)) (by decide) ?_
    refine lv_bipush (v := (10 : Int32)) hx hb dL_bounds_101 (by decide) ?_
    refine lv_bipush (v := (20 : Int32)) hx hb dL_bounds_103 (by decide) ?_
    refine lv_iload_n hx hb dL_bounds_105 rfl (lv_at hl 0 rfl) ?_
    refine lv_bipush (v := (9 : Int32)) hx hb dL_bounds_106 (by decide) ?_
    refine lv_irem hx hb dL_bounds_108 (by decide) ?_
    refine lv_lit (b := (5 : Int32)) (by decide) ?_
    refine lv_iadd hx hb dL_bounds_109 ?_
    refine lv_lit (b := (25 : Int32)) (by decide) ?_
    have hFc := frw hD hS hA
    refine vx_calli (vx_runV (As := [.int (0 : Int32), .int (10 : Int32), .int (25 : Int32)]) (rest := []) ⟨hx, hb, hml, hown, hts⟩ (c_X7_state l hst dC dI cI h0 h0_1 h0_2 h0_3 h0_4 h0_5 h0_6 h0_7 h0_8 h0_9 h0_10 h0_11 h0_12 h0_13 h0_14 h0_15 h0_16 h0_17 h0_18 h0_19 h0_20 h0_21 h0_22 m_88 m_89 h0_25 h0_26 m_90 m_91 h0_29 h0_30 _ u_86 (0 : Int32) (10 : Int32) (25 : Int32) _ _ h) (cwV 3 hts (goodIn_up gB_X7_state) rfl rfl rfl (by decide +kernel) ⟨Nat.le_of_ble_eq_true rfl, Nat.le_of_ble_eq_true rfl⟩) (pbj_V hP hK hD hN hX hFc hS (ci := 7) (q0 := 0) rfl rfl) rfl rfl hl.1 rfl (lv_room (Nat.le_of_ble_eq_true rfl)) dL_bounds_110 ⟨Nat.le_of_ble_eq_true rfl, Nat.le_of_ble_eq_true rfl⟩) hS (fun q _ h => hFc q h) hFc (fun q _ h => hFc q h) (fun E9 ce9 q9 u t H locs ht hvm h hB hz1 hk1 hS hce hcv hcl => (show False from h).elim) (fun r_96 u_95 t H locs ht hvm h hB hz1 hk1 hS => ?_)
    obtain ⟨m_97, m_98, m_99, m_100, hP1, hD1⟩ := hB
    rw [ht] at hP1
    have hP : va_P (dC, dI) vwCl (lwO cI h0 h0_1 h0_2 h0_3 h0_4 h0_5 h0_6 h0_7 h0_8 h0_9 h0_10 h0_11 h0_12 h0_13 h0_14 h0_15 h0_16 h0_17 h0_18 h0_19 h0_20 h0_21 h0_22 m_97 m_98 h0_25 h0_26 m_99 m_100 h0_29 h0_30 u_95) H := hP1
    have hD : va_D A (lwO cI h0 h0_1 h0_2 h0_3 h0_4 h0_5 h0_6 h0_7 h0_8 h0_9 h0_10 h0_11 h0_12 h0_13 h0_14 h0_15 h0_16 h0_17 h0_18 h0_19 h0_20 h0_21 h0_22 m_97 m_98 h0_25 h0_26 m_99 m_100 h0_29 h0_30 u_95) := hD1.weaken (fun _ _ _ h => hFc _ h)
    refine W.widen (k := 39) (n := 9883) (Nat.le_of_ble_eq_true rfl) (Nat.le_of_ble_eq_true rfl) ?_
    obtain ⟨ht_, hf_⟩ := h
    refine lv_if_ne (tgt := 118) hx hb dL_bounds_113 (by decide) (fun c_101 => ?_) (fun c_101 => ?_)
    · have h := ht_ c_101
      refine lv_iinc (v := (6 : Int32)) (lv' := [(1, .int (6 : Int32)), (0, .ref h0)]) hx hb dL_bounds_118 hl (k := 0) rfl (by decide) (by decide) rfl (fun ls hl => ?_)
      refine lv_goto (tgt := 38) hx hb dL_bounds_121 (by decide) ?_
      refine lv_iload_n hx hb dL_bounds_38 rfl (lv_at hl 0 rfl) ?_
      refine lv_bipush (v := (60 : Int32)) hx hb dL_bounds_39 (by decide) ?_
      refine lv_icmp_ge (tgt := 124) hx hb dL_bounds_41 (by decide) (fun c_102 => absurd c_102 (by decide)) (fun c_102 => ?_)
      refine lv_iload_n hx hb dL_bounds_44 rfl (lv_at hl 0 rfl) ?_
      refine lv_bipush (v := (44 : Int32)) hx hb dL_bounds_45 (by decide) ?_
      refine lv_icmp_ne (tgt := 96) hx hb dL_bounds_47 (by decide) (fun c_103 => ?_) (fun c_103 => absurd c_103 (by decide))
      refine lv_aload_n hx hb dL_bounds_96 rfl (lv_at hl 1 rfl) ?_
      refine lv_iload_n hx hb dL_bounds_97 rfl (lv_at hl 0 rfl) ?_
      refine lv_bipush (v := (9 : Int32)) hx hb dL_bounds_98 (by decide) ?_
      refine lv_idiv hx hb dL_bounds_100 (by decide) ?_
      refine lv_lit (b := (0 : Int32)) (by decide) ?_
      refine lv_bipush (v := (10 : Int32)) hx hb dL_bounds_101 (by decide) ?_
      refine lv_bipush (v := (20 : Int32)) hx hb dL_bounds_103 (by decide) ?_
      refine lv_iload_n hx hb dL_bounds_105 rfl (lv_at hl 0 rfl) ?_
      refine lv_bipush (v := (9 : Int32)) hx hb dL_bounds_106 (by decide) ?_
      refine lv_irem hx hb dL_bounds_108 (by decide) ?_
      refine lv_lit (b := (6 : Int32)) (by decide) ?_
      refine lv_iadd hx hb dL_bounds_109 ?_
      refine lv_lit (b := (26 : Int32)) (by decide) ?_
      have hFc := frw hD hS hA
      refine vx_calli (vx_runV (As := [.int (0 : Int32), .int (10 : Int32), .int (26 : Int32)]) (rest := []) ⟨hx, hb, hml, hown, hts⟩ (c_X7_state l hst dC dI cI h0 h0_1 h0_2 h0_3 h0_4 h0_5 h0_6 h0_7 h0_8 h0_9 h0_10 h0_11 h0_12 h0_13 h0_14 h0_15 h0_16 h0_17 h0_18 h0_19 h0_20 h0_21 h0_22 m_97 m_98 h0_25 h0_26 m_99 m_100 h0_29 h0_30 _ u_95 (0 : Int32) (10 : Int32) (26 : Int32) _ _ h) (cwV 3 hts (goodIn_up gB_X7_state) rfl rfl rfl (by decide +kernel) ⟨Nat.le_of_ble_eq_true rfl, Nat.le_of_ble_eq_true rfl⟩) (pbj_V hP hK hD hN hX hFc hS (ci := 7) (q0 := 0) rfl rfl) rfl rfl hl.1 rfl (lv_room (Nat.le_of_ble_eq_true rfl)) dL_bounds_110 ⟨Nat.le_of_ble_eq_true rfl, Nat.le_of_ble_eq_true rfl⟩) hS (fun q _ h => hFc q h) hFc (fun q _ h => hFc q h) (fun E9 ce9 q9 u t H locs ht hvm h hB hz1 hk1 hS hce hcv hcl => (show False from h).elim) (fun r_105 u_104 t H locs ht hvm h hB hz1 hk1 hS => ?_)
      obtain ⟨m_106, m_107, m_108, m_109, hP1, hD1⟩ := hB
      rw [ht] at hP1
      have hP : va_P (dC, dI) vwCl (lwO cI h0 h0_1 h0_2 h0_3 h0_4 h0_5 h0_6 h0_7 h0_8 h0_9 h0_10 h0_11 h0_12 h0_13 h0_14 h0_15 h0_16 h0_17 h0_18 h0_19 h0_20 h0_21 h0_22 m_106 m_107 h0_25 h0_26 m_108 m_109 h0_29 h0_30 u_104) H := hP1
      have hD : va_D A (lwO cI h0 h0_1 h0_2 h0_3 h0_4 h0_5 h0_6 h0_7 h0_8 h0_9 h0_10 h0_11 h0_12 h0_13 h0_14 h0_15 h0_16 h0_17 h0_18 h0_19 h0_20 h0_21 h0_22 m_106 m_107 h0_25 h0_26 m_108 m_109 h0_29 h0_30 u_104) := hD1.weaken (fun _ _ _ h => hFc _ h)
      refine W.widen (k := 40) (n := 9889) (Nat.le_of_ble_eq_true rfl) (Nat.le_of_ble_eq_true rfl) ?_
      obtain ⟨ht_, hf_⟩ := h
      refine lv_if_ne (tgt := 118) hx hb dL_bounds_113 (by decide) (fun c_110 => ?_) (fun c_110 => ?_)
      · have h := ht_ c_110
        refine lv_iinc (v := (7 : Int32)) (lv' := [(1, .int (7 : Int32)), (0, .ref h0)]) hx hb dL_bounds_118 hl (k := 0) rfl (by decide) (by decide) rfl (fun ls hl => ?_)
        refine lv_goto (tgt := 38) hx hb dL_bounds_121 (by decide) ?_
        refine lv_iload_n hx hb dL_bounds_38 rfl (lv_at hl 0 rfl) ?_
        refine lv_bipush (v := (60 : Int32)) hx hb dL_bounds_39 (by decide) ?_
        refine lv_icmp_ge (tgt := 124) hx hb dL_bounds_41 (by decide) (fun c_111 => absurd c_111 (by decide)) (fun c_111 => ?_)
        refine lv_iload_n hx hb dL_bounds_44 rfl (lv_at hl 0 rfl) ?_
        refine lv_bipush (v := (44 : Int32)) hx hb dL_bounds_45 (by decide) ?_
        refine lv_icmp_ne (tgt := 96) hx hb dL_bounds_47 (by decide) (fun c_112 => ?_) (fun c_112 => absurd c_112 (by decide))
        refine lv_aload_n hx hb dL_bounds_96 rfl (lv_at hl 1 rfl) ?_
        refine lv_iload_n hx hb dL_bounds_97 rfl (lv_at hl 0 rfl) ?_
        refine lv_bipush (v := (9 : Int32)) hx hb dL_bounds_98 (by decide) ?_
        refine lv_idiv hx hb dL_bounds_100 (by decide) ?_
        refine lv_lit (b := (0 : Int32)) (by decide) ?_
        refine lv_bipush (v := (10 : Int32)) hx hb dL_bounds_101 (by decide) ?_
        refine lv_bipush (v := (20 : Int32)) hx hb dL_bounds_103 (by decide) ?_
        refine lv_iload_n hx hb dL_bounds_105 rfl (lv_at hl 0 rfl) ?_
        refine lv_bipush (v := (9 : Int32)) hx hb dL_bounds_106 (by decide) ?_
        refine lv_irem hx hb dL_bounds_108 (by decide) ?_
        refine lv_lit (b := (7 : Int32)) (by decide) ?_
        refine lv_iadd hx hb dL_bounds_109 ?_
        refine lv_lit (b := (27 : Int32)) (by decide) ?_
        have hFc := frw hD hS hA
        refine vx_calli (vx_runV (As := [.int (0 : Int32), .int (10 : Int32), .int (27 : Int32)]) (rest := []) ⟨hx, hb, hml, hown, hts⟩ (c_X7_state l hst dC dI cI h0 h0_1 h0_2 h0_3 h0_4 h0_5 h0_6 h0_7 h0_8 h0_9 h0_10 h0_11 h0_12 h0_13 h0_14 h0_15 h0_16 h0_17 h0_18 h0_19 h0_20 h0_21 h0_22 m_106 m_107 h0_25 h0_26 m_108 m_109 h0_29 h0_30 _ u_104 (0 : Int32) (10 : Int32) (27 : Int32) _ _ h) (cwV 3 hts (goodIn_up gB_X7_state) rfl rfl rfl (by decide +kernel) ⟨Nat.le_of_ble_eq_true rfl, Nat.le_of_ble_eq_true rfl⟩) (pbj_V hP hK hD hN hX hFc hS (ci := 7) (q0 := 0) rfl rfl) rfl rfl hl.1 rfl (lv_room (Nat.le_of_ble_eq_true rfl)) dL_bounds_110 ⟨Nat.le_of_ble_eq_true rfl, Nat.le_of_ble_eq_true rfl⟩) hS (fun q _ h => hFc q h) hFc (fun q _ h => hFc q h) (fun E9 ce9 q9 u t H locs ht hvm h hB hz1 hk1 hS hce hcv hcl => (show False from h).elim) (fun r_114 u_113 t H locs ht hvm h hB hz1 hk1 hS => ?_)
        obtain ⟨m_115, m_116, m_117, m_118, hP1, hD1⟩ := hB
        rw [ht] at hP1
        have hP : va_P (dC, dI) vwCl (lwO cI h0 h0_1 h0_2 h0_3 h0_4 h0_5 h0_6 h0_7 h0_8 h0_9 h0_10 h0_11 h0_12 h0_13 h0_14 h0_15 h0_16 h0_17 h0_18 h0_19 h0_20 h0_21 h0_22 m_115 m_116 h0_25 h0_26 m_117 m_118 h0_29 h0_30 u_113) H := hP1
        have hD : va_D A (lwO cI h0 h0_1 h0_2 h0_3 h0_4 h0_5 h0_6 h0_7 h0_8 h0_9 h0_10 h0_11 h0_12 h0_13 h0_14 h0_15 h0_16 h0_17 h0_18 h0_19 h0_20 h0_21 h0_22 m_115 m_116 h0_25 h0_26 m_117 m_118 h0_29 h0_30 u_113) := hD1.weaken (fun _ _ _ h => hFc _ h)
        refine W.widen (k := 41) (n := 9895) (Nat.le_of_ble_eq_true rfl) (Nat.le_of_ble_eq_true rfl) ?_
        obtain ⟨ht_, hf_⟩ := h
        refine lv_if_ne (tgt := 118) hx hb dL_bounds_113 (by decide) (fun c_119 => ?_) (fun c_119 => ?_)
        · have h := ht_ c_119
          refine lv_iinc (v := (8 : Int32)) (lv' := [(1, .int (8 : Int32)), (0, .ref h0)]) hx hb dL_bounds_118 hl (k := 0) rfl (by decide) (by decide) rfl (fun ls hl => ?_)
          refine lv_goto (tgt := 38) hx hb dL_bounds_121 (by decide) ?_
          refine lv_iload_n hx hb dL_bounds_38 rfl (lv_at hl 0 rfl) ?_
          refine lv_bipush (v := (60 : Int32)) hx hb dL_bounds_39 (by decide) ?_
          refine lv_icmp_ge (tgt := 124) hx hb dL_bounds_41 (by decide) (fun c_120 => absurd c_120 (by decide)) (fun c_120 => ?_)
          refine lv_iload_n hx hb dL_bounds_44 rfl (lv_at hl 0 rfl) ?_
          refine lv_bipush (v := (44 : Int32)) hx hb dL_bounds_45 (by decide) ?_
          refine lv_icmp_ne (tgt := 96) hx hb dL_bounds_47 (by decide) (fun c_121 => ?_) (fun c_121 => absurd c_121 (by decide))
          refine lv_aload_n hx hb dL_bounds_96 rfl (lv_at hl 1 rfl) ?_
          refine lv_iload_n hx hb dL_bounds_97 rfl (lv_at hl 0 rfl) ?_
          refine lv_bipush (v := (9 : Int32)) hx hb dL_bounds_98 (by decide) ?_
          refine lv_idiv hx hb dL_bounds_100 (by decide) ?_
          refine lv_lit (b := (0 : Int32)) (by decide) ?_
          refine lv_bipush (v := (10 : Int32)) hx hb dL_bounds_101 (by decide) ?_
          refine lv_bipush (v := (20 : Int32)) hx hb dL_bounds_103 (by decide) ?_
          refine lv_iload_n hx hb dL_bounds_105 rfl (lv_at hl 0 rfl) ?_
          refine lv_bipush (v := (9 : Int32)) hx hb dL_bounds_106 (by decide) ?_
          refine lv_irem hx hb dL_bounds_108 (by decide) ?_
          refine lv_lit (b := (8 : Int32)) (by decide) ?_
          refine lv_iadd hx hb dL_bounds_109 ?_
          refine lv_lit (b := (28 : Int32)) (by decide) ?_
          have hFc := frw hD hS hA
          refine vx_calli (vx_runV (As := [.int (0 : Int32), .int (10 : Int32), .int (28 : Int32)]) (rest := []) ⟨hx, hb, hml, hown, hts⟩ (c_X7_state l hst dC dI cI h0 h0_1 h0_2 h0_3 h0_4 h0_5 h0_6 h0_7 h0_8 h0_9 h0_10 h0_11 h0_12 h0_13 h0_14 h0_15 h0_16 h0_17 h0_18 h0_19 h0_20 h0_21 h0_22 m_115 m_116 h0_25 h0_26 m_117 m_118 h0_29 h0_30 _ u_113 (0 : Int32) (10 : Int32) (28 : Int32) _ _ h) (cwV 3 hts (goodIn_up gB_X7_state) rfl rfl rfl (by decide +kernel) ⟨Nat.le_of_ble_eq_true rfl, Nat.le_of_ble_eq_true rfl⟩) (pbj_V hP hK hD hN hX hFc hS (ci := 7) (q0 := 0) rfl rfl) rfl rfl hl.1 rfl (lv_room (Nat.le_of_ble_eq_true rfl)) dL_bounds_110 ⟨Nat.le_of_ble_eq_true rfl, Nat.le_of_ble_eq_true rfl⟩) hS (fun q _ h => hFc q h) hFc (fun q _ h => hFc q h) (fun E9 ce9 q9 u t H locs ht hvm h hB hz1 hk1 hS hce hcv hcl => (show False from h).elim) (fun r_123 u_122 t H locs ht hvm h hB hz1 hk1 hS => ?_)
          obtain ⟨m_124, m_125, m_126, m_127, hP1, hD1⟩ := hB
          rw [ht] at hP1
          have hP : va_P (dC, dI) vwCl (lwO cI h0 h0_1 h0_2 h0_3 h0_4 h0_5 h0_6 h0_7 h0_8 h0_9 h0_10 h0_11 h0_12 h0_13 h0_14 h0_15 h0_16 h0_17 h0_18 h0_19 h0_20 h0_21 h0_22 m_124 m_125 h0_25 h0_26 m_126 m_127 h0_29 h0_30 u_122) H := hP1
          have hD : va_D A (lwO cI h0 h0_1 h0_2 h0_3 h0_4 h0_5 h0_6 h0_7 h0_8 h0_9 h0_10 h0_11 h0_12 h0_13 h0_14 h0_15 h0_16 h0_17 h0_18 h0_19 h0_20 h0_21 h0_22 m_124 m_125 h0_25 h0_26 m_126 m_127 h0_29 h0_30 u_122) := hD1.weaken (fun _ _ _ h => hFc _ h)
          refine W.widen (k := 42) (n := 9901) (Nat.le_of_ble_eq_true rfl) (Nat.le_of_ble_eq_true rfl) ?_
          obtain ⟨ht_, hf_⟩ := h
          refine lv_if_ne (tgt := 118) hx hb dL_bounds_113 (by decide) (fun c_128 => ?_) (fun c_128 => ?_)
          · have h := ht_ c_128
            refine lv_iinc (v := (9 : Int32)) (lv' := [(1, .int (9 : Int32)), (0, .ref h0)]) hx hb dL_bounds_118 hl (k := 0) rfl (by decide) (by decide) rfl (fun ls hl => ?_)
            refine lv_goto (tgt := 38) hx hb dL_bounds_121 (by decide) ?_
            refine lv_iload_n hx hb dL_bounds_38 rfl (lv_at hl 0 rfl) ?_
            refine lv_bipush (v := (60 : Int32)) hx hb dL_bounds_39 (by decide) ?_
            refine lv_icmp_ge (tgt := 124) hx hb dL_bounds_41 (by decide) (fun c_129 => absurd c_129 (by decide)) (fun c_129 => ?_)
            refine lv_iload_n hx hb dL_bounds_44 rfl (lv_at hl 0 rfl) ?_
            refine lv_bipush (v := (44 : Int32)) hx hb dL_bounds_45 (by decide) ?_
            refine lv_icmp_ne (tgt := 96) hx hb dL_bounds_47 (by decide) (fun c_130 => ?_) (fun c_130 => absurd c_130 (by decide))
            refine lv_aload_n hx hb dL_bounds_96 rfl (lv_at hl 1 rfl) ?_
            refine lv_iload_n hx hb dL_bounds_97 rfl (lv_at hl 0 rfl) ?_
            refine lv_bipush (v := (9 : Int32)) hx hb dL_bounds_98 (by decide) ?_
            refine lv_idiv hx hb dL_bounds_100 (by decide) ?_
            refine lv_lit (b := (1 : Int32)) (by decide) ?_
            refine lv_bipush (v := (10 : Int32)) hx hb dL_bounds_101 (by decide) ?_
            refine lv_bipush (v := (20 : Int32)) hx hb dL_bounds_103 (by decide) ?_
            refine lv_iload_n hx hb dL_bounds_105 rfl (lv_at hl 0 rfl) ?_
            refine lv_bipush (v := (9 : Int32)) hx hb dL_bounds_106 (by decide) ?_
            refine lv_irem hx hb dL_bounds_108 (by decide) ?_
            refine lv_lit (b := (0 : Int32)) (by decide) ?_
            refine lv_iadd hx hb dL_bounds_109 ?_
            refine lv_lit (b := (20 : Int32)) (by decide) ?_
            have hFc := frw hD hS hA
            refine vx_calli (vx_runV (As := [.int (1 : Int32), .int (10 : Int32), .int (20 : Int32)]) (rest := []) ⟨hx, hb, hml, hown, hts⟩ (c_X7_state l hst dC dI cI h0 h0_1 h0_2 h0_3 h0_4 h0_5 h0_6 h0_7 h0_8 h0_9 h0_10 h0_11 h0_12 h0_13 h0_14 h0_15 h0_16 h0_17 h0_18 h0_19 h0_20 h0_21 h0_22 m_124 m_125 h0_25 h0_26 m_126 m_127 h0_29 h0_30 _ u_122 (1 : Int32) (10 : Int32) (20 : Int32) _ _ h) (cwV 3 hts (goodIn_up gB_X7_state) rfl rfl rfl (by decide +kernel) ⟨Nat.le_of_ble_eq_true rfl, Nat.le_of_ble_eq_true rfl⟩) (pbj_V hP hK hD hN hX hFc hS (ci := 7) (q0 := 0) rfl rfl) rfl rfl hl.1 rfl (lv_room (Nat.le_of_ble_eq_true rfl)) dL_bounds_110 ⟨Nat.le_of_ble_eq_true rfl, Nat.le_of_ble_eq_true rfl⟩) hS (fun q _ h => hFc q h) hFc (fun q _ h => hFc q h) (fun E9 ce9 q9 u t H locs ht hvm h hB hz1 hk1 hS hce hcv hcl => (show False from h).elim) (fun r_132 u_131 t H locs ht hvm h hB hz1 hk1 hS => ?_)
            obtain ⟨m_133, m_134, m_135, m_136, hP1, hD1⟩ := hB
            rw [ht] at hP1
            have hP : va_P (dC, dI) vwCl (lwO cI h0 h0_1 h0_2 h0_3 h0_4 h0_5 h0_6 h0_7 h0_8 h0_9 h0_10 h0_11 h0_12 h0_13 h0_14 h0_15 h0_16 h0_17 h0_18 h0_19 h0_20 h0_21 h0_22 m_133 m_134 h0_25 h0_26 m_135 m_136 h0_29 h0_30 u_131) H := hP1
            have hD : va_D A (lwO cI h0 h0_1 h0_2 h0_3 h0_4 h0_5 h0_6 h0_7 h0_8 h0_9 h0_10 h0_11 h0_12 h0_13 h0_14 h0_15 h0_16 h0_17 h0_18 h0_19 h0_20 h0_21 h0_22 m_133 m_134 h0_25 h0_26 m_135 m_136 h0_29 h0_30 u_131) := hD1.weaken (fun _ _ _ h => hFc _ h)
            refine W.widen (k := 43) (n := 9907) (Nat.le_of_ble_eq_true rfl) (Nat.le_of_ble_eq_true rfl) ?_
            obtain ⟨ht_, hf_⟩ := h
            refine lv_if_ne (tgt := 118) hx hb dL_bounds_113 (by decide) (fun c_137 => ?_) (fun c_137 => ?_)
            · have h := ht_ c_137
              refine lv_iinc (v := (10 : Int32)) (lv' := [(1, .int (10 : Int32)), (0, .ref h0)]) hx hb dL_bounds_118 hl (k := 0) rfl (by decide) (by decide) rfl (fun ls hl => ?_)
              refine lv_goto (tgt := 38) hx hb dL_bounds_121 (by decide) ?_
              refine lv_iload_n hx hb dL_bounds_38 rfl (lv_at hl 0 rfl) ?_
              refine lv_bipush (v := (60 : Int32)) hx hb dL_bounds_39 (by decide) ?_
              refine lv_icmp_ge (tgt := 124) hx hb dL_bounds_41 (by decide) (fun c_138 => absurd c_138 (by decide)) (fun c_138 => ?_)
              refine lv_iload_n hx hb dL_bounds_44 rfl (lv_at hl 0 rfl) ?_
              refine lv_bipush (v := (44 : Int32)) hx hb dL_bounds_45 (by decide) ?_
              refine lv_icmp_ne (tgt := 96) hx hb dL_bounds_47 (by decide) (fun c_139 => ?_) (fun c_139 => absurd c_139 (by decide))
              refine lv_aload_n hx hb dL_bounds_96 rfl (lv_at hl 1 rfl) ?_
              refine lv_iload_n hx hb dL_bounds_97 rfl (lv_at hl 0 rfl) ?_
              refine lv_bipush (v := (9 : Int32)) hx hb dL_bounds_98 (by decide) ?_
              refine lv_idiv hx hb dL_bounds_100 (by decide) ?_
              refine lv_lit (b := (1 : Int32)) (by decide) ?_
              refine lv_bipush (v := (10 : Int32)) hx hb dL_bounds_101 (by decide) ?_
              refine lv_bipush (v := (20 : Int32)) hx hb dL_bounds_103 (by decide) ?_
              refine lv_iload_n hx hb dL_bounds_105 rfl (lv_at hl 0 rfl) ?_
              refine lv_bipush (v := (9 : Int32)) hx hb dL_bounds_106 (by decide) ?_
              refine lv_irem hx hb dL_bounds_108 (by decide) ?_
              refine lv_lit (b := (1 : Int32)) (by decide) ?_
              refine lv_iadd hx hb dL_bounds_109 ?_
              refine lv_lit (b := (21 : Int32)) (by decide) ?_
              have hFc := frw hD hS hA
              refine vx_calli (vx_runV (As := [.int (1 : Int32), .int (10 : Int32), .int (21 : Int32)]) (rest := []) ⟨hx, hb, hml, hown, hts⟩ (c_X7_state l hst dC dI cI h0 h0_1 h0_2 h0_3 h0_4 h0_5 h0_6 h0_7 h0_8 h0_9 h0_10 h0_11 h0_12 h0_13 h0_14 h0_15 h0_16 h0_17 h0_18 h0_19 h0_20 h0_21 h0_22 m_133 m_134 h0_25 h0_26 m_135 m_136 h0_29 h0_30 _ u_131 (1 : Int32) (10 : Int32) (21 : Int32) _ _ h) (cwV 3 hts (goodIn_up gB_X7_state) rfl rfl rfl (by decide +kernel) ⟨Nat.le_of_ble_eq_true rfl, Nat.le_of_ble_eq_true rfl⟩) (pbj_V hP hK hD hN hX hFc hS (ci := 7) (q0 := 0) rfl rfl) rfl rfl hl.1 rfl (lv_room (Nat.le_of_ble_eq_true rfl)) dL_bounds_110 ⟨Nat.le_of_ble_eq_true rfl, Nat.le_of_ble_eq_true rfl⟩) hS (fun q _ h => hFc q h) hFc (fun q _ h => hFc q h) (fun E9 ce9 q9 u t H locs ht hvm h hB hz1 hk1 hS hce hcv hcl => (show False from h).elim) (fun r_141 u_140 t H locs ht hvm h hB hz1 hk1 hS => ?_)
              obtain ⟨m_142, m_143, m_144, m_145, hP1, hD1⟩ := hB
              rw [ht] at hP1
              have hP : va_P (dC, dI) vwCl (lwO cI h0 h0_1 h0_2 h0_3 h0_4 h0_5 h0_6 h0_7 h0_8 h0_9 h0_10 h0_11 h0_12 h0_13 h0_14 h0_15 h0_16 h0_17 h0_18 h0_19 h0_20 h0_21 h0_22 m_142 m_143 h0_25 h0_26 m_144 m_145 h0_29 h0_30 u_140) H := hP1
              have hD : va_D A (lwO cI h0 h0_1 h0_2 h0_3 h0_4 h0_5 h0_6 h0_7 h0_8 h0_9 h0_10 h0_11 h0_12 h0_13 h0_14 h0_15 h0_16 h0_17 h0_18 h0_19 h0_20 h0_21 h0_22 m_142 m_143 h0_25 h0_26 m_144 m_145 h0_29 h0_30 u_140) := hD1.weaken (fun _ _ _ h => hFc _ h)
              refine W.widen (k := 44) (n := 9913) (Nat.le_of_ble_eq_true rfl) (Nat.le_of_ble_eq_true rfl) ?_
              obtain ⟨ht_, hf_⟩ := h
              refine lv_if_ne (tgt := 118) hx hb dL_bounds_113 (by decide) (fun c_146 => ?_) (fun c_146 => ?_)
              · have h := ht_ c_146
                have hl : lv_has ls 3 [(0, .ref h0), (1, .int (10 : Int32))] := lv_sub hl [1, 0] rfl
                refine W.widen (k := 44) (n := 9913) (Nat.le_of_ble_eq_true rfl) (Nat.le_of_ble_eq_true rfl) ?_
                exact sg_L_bounds_2 l hst C0 hK hN hX hC hA h0 h0_1 h0_2 h0_3 h0_4 h0_5 h0_6 h0_7 h0_8 h0_9 h0_10 h0_11 h0_12 h0_13 h0_14 h0_15 h0_16 h0_17 h0_18 h0_19 h0_20 h0_21 h0_22 h0_25 h0_26 h0_29 h0_30 _ u_140 h m_142 m_143 m_144 m_145 _ _ hP hD hS _ hl
              · have h := hf_ c_146
                exact (show False from h).elim
            · have h := hf_ c_137
              exact (show False from h).elim
          · have h := hf_ c_128
            exact (show False from h).elim
        · have h := hf_ c_119
          exact (show False from h).elim
      · have h := hf_ c_110
        exact (show False from h).elim
    · have h := hf_ c_101
      exact (show False from h).elim
  · have h := hf_ c_92
    exact (show False from h).elim
set_option maxHeartbeats 4000000 in
set_option maxRecDepth 100000 in
theorem c_L_bounds (l : Launch) (hst : l.stackTraces = false) (dC : Nat → ClassId) (dI : Nat → Nat → Nat) (cI : ClassId) (sz : Nat)  (post : Int32 → Prop) (h : P_L_bounds  post) : Met l yL_bounds wq_bounds rm_L_bounds (va_Pc [] (cprel (dC, dI) [(cI, .int)] [] sz (va_A [] sz))) (Q_L_bounds dC dI cI (va_A [] sz) post) mc_L_bounds ms_L_bounds (va_A [] sz) := by
  refine Met.ofW (cc := cL_bounds) (maxL := 3) (ret := (some .boolean)) (by decide) rfl ?_
  intro p e s m args below meth c s₁ B hml hv
  obtain ⟨rfl, ⟨⟨hsz, hP, hK, hD0, hN⟩, hX⟩, hC⟩ := hv
  have hx := B.exec
  have hb := B.bytes
  have hr := B.returns
  have hts := atoms_spec (ws := wq_bounds) B.pre
  have hown : s.vm.findClass RL = some m.cls := findClass_of_methodNamed B.named
  have hlocks := B.notSynchronized
  have C0 : LC p s m ([] : List Value).toArray meth c cL_bounds 3 wq_bounds := ⟨hx, hb, hr, hml, hown, hts, hlocks⟩
  subst hsz
  generalize hAe : va_A [] s.heap.size = A at hX ⊢
  have hA : ∀ q : Nat, s.heap.size ≤ q → A q := fun q h => by rw [← hAe]; exact Or.inr h
  clear hAe hD0
  have hS : va_S A s.heap s.heap [] := va_S.rf
  have hl := lv_entry ([]) (n := 3) (Nat.le_of_ble_eq_true rfl)
  rw [lg_entry_eq]
  generalize (lg_sl ([]) ++ List.replicate (3 - (lg_sl ([])).length) Slot.unset).toArray = ls at hl ⊢
  have hl : lv_has ls 3 [] := hl
  have hinX7 : ∀ w ∈ u_ws RX7 TX7 7, w ∈ wq_bounds := fun w h => List.mem_cons_of_mem _ (inlX7 w h)
  have hP := vaP0 (dC, dI) (H := s.heap)
  have hD := vaD0 (A := A)
  refine va_new (ci := 7) (fs := [.null, .null, .null, .null, .null, .int (0 : Int32), .int (0 : Int32)]) (C := RX7) (T := TX7) (N := 7) hx hb hts (hinX7) tyX7 tyX7_ok hown (hts (.classLink RL 8 RX7) (by decide +kernel)) (hts (.instantiable RX7 7) (by decide +kernel)) (hts (.initialized RX7) (by decide +kernel)) hK hP hD hS hA rfl (fun j hj => by rcases (show j = 0 ∨ j = 1 ∨ j = 2 ∨ j = 3 ∨ j = 4 ∨ j = 5 ∨ j = 6 by omega) with rfl | rfl | rfl | rfl | rfl | rfl | rfl <;> rfl) (by decide +kernel) (by decide +kernel) dL_bounds_0 (fun q_1 H hP hD hS => ?_)
  refine W.widen (k := 1) (n := 7) (by omega) (by omega) ?_
  have hP : va_P (dC, dI) vwCl [(q_1, .inr (7, [.null, .null, .null, .null, .null, .int (0 : Int32), .int (0 : Int32)]))] _ := hP
  have hD : va_D A [(q_1, .inr (7, [.null, .null, .null, .null, .null, .int (0 : Int32), .int (0 : Int32)]))] := hD
  refine lv_dup hx hb dL_bounds_3 rfl ?_
  have hFc := frw hD hS hA
  have hkc : 1 + 30 ≤ 383 := by decide +kernel
  have hks : 7 + 9828 ≤ 21596 := by decide +kernel
  refine va_callv (va_runI (As := []) (rest := [.ref q_1]) ⟨hx, hb, hml, hown, hts⟩ (c_X7_init l dC dI cI q_1 _ _ h) (cwI 0 hts (goodIn_up gB_X7_init) rfl rfl rfl (hts (.initialized RX7) (by decide +kernel)) (hts (.methodLink RL 84 yX7_init) (by decide +kernel)) (hts (.instanceMethod yX7_init) (by decide +kernel)) rfl (by decide +kernel) ⟨Nat.le_of_ble_eq_true rfl, Nat.le_of_ble_eq_true rfl⟩) (pb_I hP hK hD hN) rfl rfl hl.1 rfl (lv_room (Nat.le_of_ble_eq_true rfl)) dL_bounds_4 ⟨hkc, hks⟩) hS (fun q _ h => hFc q h) hFc (fun u_2 t H locs ht hvm h hB hz1 hk1 hS => ?_)
  obtain ⟨q_4, q_5, q_6, q_7, q_8, q_9, q_10, q_11, q_12, q_13, q_14, q_15, q_16, q_17, q_18, q_19, q_20, q_21, q_22, q_23, q_24, q_25, q_26, q_27, q_28, q_29, q_30, q_31, q_32, q_33, hP1, hD1⟩ := hB
  rw [ht] at hP1
  have hP : va_P (dC, dI) vwCl (lwO cI q_1 q_4 q_5 q_6 q_7 q_8 q_9 q_10 q_11 q_12 q_13 q_14 q_15 q_16 q_17 q_18 q_19 q_20 q_21 q_22 q_23 q_24 q_25 q_26 q_27 q_28 q_29 q_30 q_31 q_32 q_33 u_2) H := hP1
  have hD : va_D A (lwO cI q_1 q_4 q_5 q_6 q_7 q_8 q_9 q_10 q_11 q_12 q_13 q_14 q_15 q_16 q_17 q_18 q_19 q_20 q_21 q_22 q_23 q_24 q_25 q_26 q_27 q_28 q_29 q_30 q_31 q_32 q_33 u_2) := hD1.weaken (fun _ _ _ h => hFc _ h)
  refine W.widen (k := 31) (n := 9835) (by omega) (by omega) ?_
  refine lv_astore_n (lv' := [(0, .ref q_1)]) hx hb dL_bounds_7 rfl hl (by decide) rfl (fun ls hl => ?_)
  refine lv_aload_n hx hb dL_bounds_8 rfl (lv_at hl 0 rfl) ?_
  refine lv_iconst (v := (-1 : Int32)) hx hb dL_bounds_9 (by decide) ?_
  refine lv_bipush (v := (10 : Int32)) hx hb dL_bounds_10 (by decide) ?_
  refine lv_bipush (v := (-2 : Int32)) hx hb dL_bounds_12 (by decide) ?_
  have hFc := frw hD hS hA
  refine vx_calli (vx_runV (As := [.int (-1 : Int32), .int (10 : Int32), .int (-2 : Int32)]) (rest := []) ⟨hx, hb, hml, hown, hts⟩ (c_X7_addPattern l hst dC dI cI q_1 q_4 q_5 q_6 q_7 q_8 q_9 q_10 q_11 q_12 q_13 q_14 q_15 q_16 q_17 q_18 q_19 q_20 q_21 q_22 q_23 q_24 q_25 q_26 q_27 q_28 q_29 q_30 q_31 q_32 q_33 _ u_2 (-1 : Int32) (10 : Int32) (-2 : Int32) _ _ h) (cwV 3 hts (goodIn_up gB_X7_addPattern) rfl rfl rfl (by decide +kernel) ⟨Nat.le_of_ble_eq_true rfl, Nat.le_of_ble_eq_true rfl⟩) (pbj_V hP hK hD hN hX hFc hS (ci := 7) (q0 := 0) rfl rfl) rfl rfl hl.1 rfl (lv_room (Nat.le_of_ble_eq_true rfl)) dL_bounds_14 ⟨Nat.le_of_ble_eq_true rfl, Nat.le_of_ble_eq_true rfl⟩) hS (fun q _ h => hFc q h) hFc (fun q _ h => hFc q h) (fun E9 ce9 q9 u t H locs ht hvm h hB hz1 hk1 hS hce hcv hcl => (show False from h).elim) (fun r_35 u_34 t H locs ht hvm h hB hz1 hk1 hS => ?_)
  obtain ⟨m_36, m_37, m_38, m_39, hP1, hD1⟩ := hB
  rw [ht] at hP1
  have hP : va_P (dC, dI) vwCl (lwO cI q_1 q_4 q_5 q_6 q_7 q_8 q_9 q_10 q_11 q_12 q_13 q_14 q_15 q_16 q_17 q_18 q_19 q_20 q_21 q_22 q_23 q_24 q_25 m_36 m_37 q_28 q_29 m_38 m_39 q_32 q_33 u_34) H := hP1
  have hD : va_D A (lwO cI q_1 q_4 q_5 q_6 q_7 q_8 q_9 q_10 q_11 q_12 q_13 q_14 q_15 q_16 q_17 q_18 q_19 q_20 q_21 q_22 q_23 q_24 q_25 m_36 m_37 q_28 q_29 m_38 m_39 q_32 q_33 u_34) := hD1.weaken (fun _ _ _ h => hFc _ h)
  refine W.widen (k := 32) (n := 9841) (Nat.le_of_ble_eq_true rfl) (Nat.le_of_ble_eq_true rfl) ?_
  obtain ⟨ht_, hf_⟩ := h
  refine lv_if_ne (tgt := 34) hx hb dL_bounds_17 (by decide) (fun c_40 => ?_) (fun c_40 => ?_)
  · have h := ht_ c_40
    exact (show False from h).elim
  · have h := hf_ c_40
    refine lv_aload_n hx hb dL_bounds_20 rfl (lv_at hl 0 rfl) ?_
    refine lv_bipush (v := (-3 : Int32)) hx hb dL_bounds_21 (by decide) ?_
    refine lv_bipush (v := (10 : Int32)) hx hb dL_bounds_23 (by decide) ?_
    refine lv_bipush (v := (-4 : Int32)) hx hb dL_bounds_25 (by decide) ?_
    have hFc := frw hD hS hA
    refine vx_calli (vx_runV (As := [.int (-3 : Int32), .int (10 : Int32), .int (-4 : Int32)]) (rest := []) ⟨hx, hb, hml, hown, hts⟩ (c_X7_addPattern l hst dC dI cI q_1 q_4 q_5 q_6 q_7 q_8 q_9 q_10 q_11 q_12 q_13 q_14 q_15 q_16 q_17 q_18 q_19 q_20 q_21 q_22 q_23 q_24 q_25 m_36 m_37 q_28 q_29 m_38 m_39 q_32 q_33 _ u_34 (-3 : Int32) (10 : Int32) (-4 : Int32) _ _ h) (cwV 3 hts (goodIn_up gB_X7_addPattern) rfl rfl rfl (by decide +kernel) ⟨Nat.le_of_ble_eq_true rfl, Nat.le_of_ble_eq_true rfl⟩) (pbj_V hP hK hD hN hX hFc hS (ci := 7) (q0 := 0) rfl rfl) rfl rfl hl.1 rfl (lv_room (Nat.le_of_ble_eq_true rfl)) dL_bounds_27 ⟨Nat.le_of_ble_eq_true rfl, Nat.le_of_ble_eq_true rfl⟩) hS (fun q _ h => hFc q h) hFc (fun q _ h => hFc q h) (fun E9 ce9 q9 u t H locs ht hvm h hB hz1 hk1 hS hce hcv hcl => (show False from h).elim) (fun r_42 u_41 t H locs ht hvm h hB hz1 hk1 hS => ?_)
    obtain ⟨m_43, m_44, m_45, m_46, hP1, hD1⟩ := hB
    rw [ht] at hP1
    have hP : va_P (dC, dI) vwCl (lwO cI q_1 q_4 q_5 q_6 q_7 q_8 q_9 q_10 q_11 q_12 q_13 q_14 q_15 q_16 q_17 q_18 q_19 q_20 q_21 q_22 q_23 q_24 q_25 m_43 m_44 q_28 q_29 m_45 m_46 q_32 q_33 u_41) H := hP1
    have hD : va_D A (lwO cI q_1 q_4 q_5 q_6 q_7 q_8 q_9 q_10 q_11 q_12 q_13 q_14 q_15 q_16 q_17 q_18 q_19 q_20 q_21 q_22 q_23 q_24 q_25 m_43 m_44 q_28 q_29 m_45 m_46 q_32 q_33 u_41) := hD1.weaken (fun _ _ _ h => hFc _ h)
    refine W.widen (k := 33) (n := 9847) (Nat.le_of_ble_eq_true rfl) (Nat.le_of_ble_eq_true rfl) ?_
    refine lv_iconst (v := (1 : Int32)) hx hb dL_bounds_30 (by decide) ?_
    obtain ⟨ht_, hf_⟩ := h
    refine lv_icmp_eq (tgt := 36) hx hb dL_bounds_31 (by decide) (fun c_47 => ?_) (fun c_47 => ?_)
    · have h := ht_ c_47
      refine lv_iconst (v := (0 : Int32)) hx hb dL_bounds_36 (by decide) ?_
      refine lv_istore_n (lv' := [(1, .int (0 : Int32)), (0, .ref q_1)]) hx hb dL_bounds_37 rfl hl (by decide) rfl (fun ls hl => ?_)
      refine lv_iload_n hx hb dL_bounds_38 rfl (lv_at hl 0 rfl) ?_
      refine lv_bipush (v := (60 : Int32)) hx hb dL_bounds_39 (by decide) ?_
      refine lv_icmp_ge (tgt := 124) hx hb dL_bounds_41 (by decide) (fun c_48 => absurd c_48 (by decide)) (fun c_48 => ?_)
      refine lv_iload_n hx hb dL_bounds_44 rfl (lv_at hl 0 rfl) ?_
      refine lv_bipush (v := (44 : Int32)) hx hb dL_bounds_45 (by decide) ?_
      refine lv_icmp_ne (tgt := 96) hx hb dL_bounds_47 (by decide) (fun c_49 => ?_) (fun c_49 => absurd c_49 (by decide))
      refine lv_aload_n hx hb dL_bounds_96 rfl (lv_at hl 1 rfl) ?_
      refine lv_iload_n hx hb dL_bounds_97 rfl (lv_at hl 0 rfl) ?_
      refine lv_bipush (v := (9 : Int32)) hx hb dL_bounds_98 (by decide) ?_
      refine lv_idiv hx hb dL_bounds_100 (by decide) ?_
      refine lv_lit (b := (0 : Int32)) (by decide) ?_
      refine lv_bipush (v := (10 : Int32)) hx hb dL_bounds_101 (by decide) ?_
      refine lv_bipush (v := (20 : Int32)) hx hb dL_bounds_103 (by decide) ?_
      refine lv_iload_n hx hb dL_bounds_105 rfl (lv_at hl 0 rfl) ?_
      refine lv_bipush (v := (9 : Int32)) hx hb dL_bounds_106 (by decide) ?_
      refine lv_irem hx hb dL_bounds_108 (by decide) ?_
      refine lv_lit (b := (0 : Int32)) (by decide) ?_
      refine lv_iadd hx hb dL_bounds_109 ?_
      refine lv_lit (b := (20 : Int32)) (by decide) ?_
      have hFc := frw hD hS hA
      refine vx_calli (vx_runV (As := [.int (0 : Int32), .int (10 : Int32), .int (20 : Int32)]) (rest := []) ⟨hx, hb, hml, hown, hts⟩ (c_X7_state l hst dC dI cI q_1 q_4 q_5 q_6 q_7 q_8 q_9 q_10 q_11 q_12 q_13 q_14 q_15 q_16 q_17 q_18 q_19 q_20 q_21 q_22 q_23 q_24 q_25 m_43 m_44 q_28 q_29 m_45 m_46 q_32 q_33 _ u_41 (0 : Int32) (10 : Int32) (20 : Int32) _ _ h) (cwV 3 hts (goodIn_up gB_X7_state) rfl rfl rfl (by decide +kernel) ⟨Nat.le_of_ble_eq_true rfl, Nat.le_of_ble_eq_true rfl⟩) (pbj_V hP hK hD hN hX hFc hS (ci := 7) (q0 := 0) rfl rfl) rfl rfl hl.1 rfl (lv_room (Nat.le_of_ble_eq_true rfl)) dL_bounds_110 ⟨Nat.le_of_ble_eq_true rfl, Nat.le_of_ble_eq_true rfl⟩) hS (fun q _ h => hFc q h) hFc (fun q _ h => hFc q h) (fun E9 ce9 q9 u t H locs ht hvm h hB hz1 hk1 hS hce hcv hcl => (show False from h).elim) (fun r_51 u_50 t H locs ht hvm h hB hz1 hk1 hS => ?_)
      obtain ⟨m_52, m_53, m_54, m_55, hP1, hD1⟩ := hB
      rw [ht] at hP1
      have hP : va_P (dC, dI) vwCl (lwO cI q_1 q_4 q_5 q_6 q_7 q_8 q_9 q_10 q_11 q_12 q_13 q_14 q_15 q_16 q_17 q_18 q_19 q_20 q_21 q_22 q_23 q_24 q_25 m_52 m_53 q_28 q_29 m_54 m_55 q_32 q_33 u_50) H := hP1
      have hD : va_D A (lwO cI q_1 q_4 q_5 q_6 q_7 q_8 q_9 q_10 q_11 q_12 q_13 q_14 q_15 q_16 q_17 q_18 q_19 q_20 q_21 q_22 q_23 q_24 q_25 m_52 m_53 q_28 q_29 m_54 m_55 q_32 q_33 u_50) := hD1.weaken (fun _ _ _ h => hFc _ h)
      refine W.widen (k := 34) (n := 9853) (Nat.le_of_ble_eq_true rfl) (Nat.le_of_ble_eq_true rfl) ?_
      obtain ⟨ht_, hf_⟩ := h
      refine lv_if_ne (tgt := 118) hx hb dL_bounds_113 (by decide) (fun c_56 => ?_) (fun c_56 => ?_)
      · have h := ht_ c_56
        refine lv_iinc (v := (1 : Int32)) (lv' := [(1, .int (1 : Int32)), (0, .ref q_1)]) hx hb dL_bounds_118 hl (k := 0) rfl (by decide) (by decide) rfl (fun ls hl => ?_)
        refine lv_goto (tgt := 38) hx hb dL_bounds_121 (by decide) ?_
        refine lv_iload_n hx hb dL_bounds_38 rfl (lv_at hl 0 rfl) ?_
        refine lv_bipush (v := (60 : Int32)) hx hb dL_bounds_39 (by decide) ?_
        refine lv_icmp_ge (tgt := 124) hx hb dL_bounds_41 (by decide) (fun c_57 => absurd c_57 (by decide)) (fun c_57 => ?_)
        refine lv_iload_n hx hb dL_bounds_44 rfl (lv_at hl 0 rfl) ?_
        refine lv_bipush (v := (44 : Int32)) hx hb dL_bounds_45 (by decide) ?_
        refine lv_icmp_ne (tgt := 96) hx hb dL_bounds_47 (by decide) (fun c_58 => ?_) (fun c_58 => absurd c_58 (by decide))
        refine lv_aload_n hx hb dL_bounds_96 rfl (lv_at hl 1 rfl) ?_
        refine lv_iload_n hx hb dL_bounds_97 rfl (lv_at hl 0 rfl) ?_
        refine lv_bipush (v := (9 : Int32)) hx hb dL_bounds_98 (by decide) ?_
        refine lv_idiv hx hb dL_bounds_100 (by decide) ?_
        refine lv_lit (b := (0 : Int32)) (by decide) ?_
        refine lv_bipush (v := (10 : Int32)) hx hb dL_bounds_101 (by decide) ?_
        refine lv_bipush (v := (20 : Int32)) hx hb dL_bounds_103 (by decide) ?_
        refine lv_iload_n hx hb dL_bounds_105 rfl (lv_at hl 0 rfl) ?_
        refine lv_bipush (v := (9 : Int32)) hx hb dL_bounds_106 (by decide) ?_
        refine lv_irem hx hb dL_bounds_108 (by decide) ?_
        refine lv_lit (b := (1 : Int32)) (by decide) ?_
        refine lv_iadd hx hb dL_bounds_109 ?_
        refine lv_lit (b := (21 : Int32)) (by decide) ?_
        have hFc := frw hD hS hA
        refine vx_calli (vx_runV (As := [.int (0 : Int32), .int (10 : Int32), .int (21 : Int32)]) (rest := []) ⟨hx, hb, hml, hown, hts⟩ (c_X7_state l hst dC dI cI q_1 q_4 q_5 q_6 q_7 q_8 q_9 q_10 q_11 q_12 q_13 q_14 q_15 q_16 q_17 q_18 q_19 q_20 q_21 q_22 q_23 q_24 q_25 m_52 m_53 q_28 q_29 m_54 m_55 q_32 q_33 _ u_50 (0 : Int32) (10 : Int32) (21 : Int32) _ _ h) (cwV 3 hts (goodIn_up gB_X7_state) rfl rfl rfl (by decide +kernel) ⟨Nat.le_of_ble_eq_true rfl, Nat.le_of_ble_eq_true rfl⟩) (pbj_V hP hK hD hN hX hFc hS (ci := 7) (q0 := 0) rfl rfl) rfl rfl hl.1 rfl (lv_room (Nat.le_of_ble_eq_true rfl)) dL_bounds_110 ⟨Nat.le_of_ble_eq_true rfl, Nat.le_of_ble_eq_true rfl⟩) hS (fun q _ h => hFc q h) hFc (fun q _ h => hFc q h) (fun E9 ce9 q9 u t H locs ht hvm h hB hz1 hk1 hS hce hcv hcl => (show False from h).elim) (fun r_60 u_59 t H locs ht hvm h hB hz1 hk1 hS => ?_)
        obtain ⟨m_61, m_62, m_63, m_64, hP1, hD1⟩ := hB
        rw [ht] at hP1
        have hP : va_P (dC, dI) vwCl (lwO cI q_1 q_4 q_5 q_6 q_7 q_8 q_9 q_10 q_11 q_12 q_13 q_14 q_15 q_16 q_17 q_18 q_19 q_20 q_21 q_22 q_23 q_24 q_25 m_61 m_62 q_28 q_29 m_63 m_64 q_32 q_33 u_59) H := hP1
        have hD : va_D A (lwO cI q_1 q_4 q_5 q_6 q_7 q_8 q_9 q_10 q_11 q_12 q_13 q_14 q_15 q_16 q_17 q_18 q_19 q_20 q_21 q_22 q_23 q_24 q_25 m_61 m_62 q_28 q_29 m_63 m_64 q_32 q_33 u_59) := hD1.weaken (fun _ _ _ h => hFc _ h)
        refine W.widen (k := 35) (n := 9859) (Nat.le_of_ble_eq_true rfl) (Nat.le_of_ble_eq_true rfl) ?_
        obtain ⟨ht_, hf_⟩ := h
        refine lv_if_ne (tgt := 118) hx hb dL_bounds_113 (by decide) (fun c_65 => ?_) (fun c_65 => ?_)
        · have h := ht_ c_65
          refine lv_iinc (v := (2 : Int32)) (lv' := [(1, .int (2 : Int32)), (0, .ref q_1)]) hx hb dL_bounds_118 hl (k := 0) rfl (by decide) (by decide) rfl (fun ls hl => ?_)
          refine lv_goto (tgt := 38) hx hb dL_bounds_121 (by decide) ?_
          refine lv_iload_n hx hb dL_bounds_38 rfl (lv_at hl 0 rfl) ?_
          refine lv_bipush (v := (60 : Int32)) hx hb dL_bounds_39 (by decide) ?_
          refine lv_icmp_ge (tgt := 124) hx hb dL_bounds_41 (by decide) (fun c_66 => absurd c_66 (by decide)) (fun c_66 => ?_)
          refine lv_iload_n hx hb dL_bounds_44 rfl (lv_at hl 0 rfl) ?_
          refine lv_bipush (v := (44 : Int32)) hx hb dL_bounds_45 (by decide) ?_
          refine lv_icmp_ne (tgt := 96) hx hb dL_bounds_47 (by decide) (fun c_67 => ?_) (fun c_67 => absurd c_67 (by decide))
          refine lv_aload_n hx hb dL_bounds_96 rfl (lv_at hl 1 rfl) ?_
          refine lv_iload_n hx hb dL_bounds_97 rfl (lv_at hl 0 rfl) ?_
          refine lv_bipush (v := (9 : Int32)) hx hb dL_bounds_98 (by decide) ?_
          refine lv_idiv hx hb dL_bounds_100 (by decide) ?_
          refine lv_lit (b := (0 : Int32)) (by decide) ?_
          refine lv_bipush (v := (10 : Int32)) hx hb dL_bounds_101 (by decide) ?_
          refine lv_bipush (v := (20 : Int32)) hx hb dL_bounds_103 (by decide) ?_
          refine lv_iload_n hx hb dL_bounds_105 rfl (lv_at hl 0 rfl) ?_
          refine lv_bipush (v := (9 : Int32)) hx hb dL_bounds_106 (by decide) ?_
          refine lv_irem hx hb dL_bounds_108 (by decide) ?_
          refine lv_lit (b := (2 : Int32)) (by decide) ?_
          refine lv_iadd hx hb dL_bounds_109 ?_
          refine lv_lit (b := (22 : Int32)) (by decide) ?_
          have hFc := frw hD hS hA
          refine vx_calli (vx_runV (As := [.int (0 : Int32), .int (10 : Int32), .int (22 : Int32)]) (rest := []) ⟨hx, hb, hml, hown, hts⟩ (c_X7_state l hst dC dI cI q_1 q_4 q_5 q_6 q_7 q_8 q_9 q_10 q_11 q_12 q_13 q_14 q_15 q_16 q_17 q_18 q_19 q_20 q_21 q_22 q_23 q_24 q_25 m_61 m_62 q_28 q_29 m_63 m_64 q_32 q_33 _ u_59 (0 : Int32) (10 : Int32) (22 : Int32) _ _ h) (cwV 3 hts (goodIn_up gB_X7_state) rfl rfl rfl (by decide +kernel) ⟨Nat.le_of_ble_eq_true rfl, Nat.le_of_ble_eq_true rfl⟩) (pbj_V hP hK hD hN hX hFc hS (ci := 7) (q0 := 0) rfl rfl) rfl rfl hl.1 rfl (lv_room (Nat.le_of_ble_eq_true rfl)) dL_bounds_110 ⟨Nat.le_of_ble_eq_true rfl, Nat.le_of_ble_eq_true rfl⟩) hS (fun q _ h => hFc q h) hFc (fun q _ h => hFc q h) (fun E9 ce9 q9 u t H locs ht hvm h hB hz1 hk1 hS hce hcv hcl => (show False from h).elim) (fun r_69 u_68 t H locs ht hvm h hB hz1 hk1 hS => ?_)
          obtain ⟨m_70, m_71, m_72, m_73, hP1, hD1⟩ := hB
          rw [ht] at hP1
          have hP : va_P (dC, dI) vwCl (lwO cI q_1 q_4 q_5 q_6 q_7 q_8 q_9 q_10 q_11 q_12 q_13 q_14 q_15 q_16 q_17 q_18 q_19 q_20 q_21 q_22 q_23 q_24 q_25 m_70 m_71 q_28 q_29 m_72 m_73 q_32 q_33 u_68) H := hP1
          have hD : va_D A (lwO cI q_1 q_4 q_5 q_6 q_7 q_8 q_9 q_10 q_11 q_12 q_13 q_14 q_15 q_16 q_17 q_18 q_19 q_20 q_21 q_22 q_23 q_24 q_25 m_70 m_71 q_28 q_29 m_72 m_73 q_32 q_33 u_68) := hD1.weaken (fun _ _ _ h => hFc _ h)
          refine W.widen (k := 36) (n := 9865) (Nat.le_of_ble_eq_true rfl) (Nat.le_of_ble_eq_true rfl) ?_
          obtain ⟨ht_, hf_⟩ := h
          refine lv_if_ne (tgt := 118) hx hb dL_bounds_113 (by decide) (fun c_74 => ?_) (fun c_74 => ?_)
          · have h := ht_ c_74
            refine lv_iinc (v := (3 : Int32)) (lv' := [(1, .int (3 : Int32)), (0, .ref q_1)]) hx hb dL_bounds_118 hl (k := 0) rfl (by decide) (by decide) rfl (fun ls hl => ?_)
            refine lv_goto (tgt := 38) hx hb dL_bounds_121 (by decide) ?_
            refine lv_iload_n hx hb dL_bounds_38 rfl (lv_at hl 0 rfl) ?_
            refine lv_bipush (v := (60 : Int32)) hx hb dL_bounds_39 (by decide) ?_
            refine lv_icmp_ge (tgt := 124) hx hb dL_bounds_41 (by decide) (fun c_75 => absurd c_75 (by decide)) (fun c_75 => ?_)
            refine lv_iload_n hx hb dL_bounds_44 rfl (lv_at hl 0 rfl) ?_
            refine lv_bipush (v := (44 : Int32)) hx hb dL_bounds_45 (by decide) ?_
            refine lv_icmp_ne (tgt := 96) hx hb dL_bounds_47 (by decide) (fun c_76 => ?_) (fun c_76 => absurd c_76 (by decide))
            refine lv_aload_n hx hb dL_bounds_96 rfl (lv_at hl 1 rfl) ?_
            refine lv_iload_n hx hb dL_bounds_97 rfl (lv_at hl 0 rfl) ?_
            refine lv_bipush (v := (9 : Int32)) hx hb dL_bounds_98 (by decide) ?_
            refine lv_idiv hx hb dL_bounds_100 (by decide) ?_
            refine lv_lit (b := (0 : Int32)) (by decide) ?_
            refine lv_bipush (v := (10 : Int32)) hx hb dL_bounds_101 (by decide) ?_
            refine lv_bipush (v := (20 : Int32)) hx hb dL_bounds_103 (by decide) ?_
            refine lv_iload_n hx hb dL_bounds_105 rfl (lv_at hl 0 rfl) ?_
            refine lv_bipush (v := (9 : Int32)) hx hb dL_bounds_106 (by decide) ?_
            refine lv_irem hx hb dL_bounds_108 (by decide) ?_
            refine lv_lit (b := (3 : Int32)) (by decide) ?_
            refine lv_iadd hx hb dL_bounds_109 ?_
            refine lv_lit (b := (23 : Int32)) (by decide) ?_
            have hFc := frw hD hS hA
            refine vx_calli (vx_runV (As := [.int (0 : Int32), .int (10 : Int32), .int (23 : Int32)]) (rest := []) ⟨hx, hb, hml, hown, hts⟩ (c_X7_state l hst dC dI cI q_1 q_4 q_5 q_6 q_7 q_8 q_9 q_10 q_11 q_12 q_13 q_14 q_15 q_16 q_17 q_18 q_19 q_20 q_21 q_22 q_23 q_24 q_25 m_70 m_71 q_28 q_29 m_72 m_73 q_32 q_33 _ u_68 (0 : Int32) (10 : Int32) (23 : Int32) _ _ h) (cwV 3 hts (goodIn_up gB_X7_state) rfl rfl rfl (by decide +kernel) ⟨Nat.le_of_ble_eq_true rfl, Nat.le_of_ble_eq_true rfl⟩) (pbj_V hP hK hD hN hX hFc hS (ci := 7) (q0 := 0) rfl rfl) rfl rfl hl.1 rfl (lv_room (Nat.le_of_ble_eq_true rfl)) dL_bounds_110 ⟨Nat.le_of_ble_eq_true rfl, Nat.le_of_ble_eq_true rfl⟩) hS (fun q _ h => hFc q h) hFc (fun q _ h => hFc q h) (fun E9 ce9 q9 u t H locs ht hvm h hB hz1 hk1 hS hce hcv hcl => (show False from h).elim) (fun r_78 u_77 t H locs ht hvm h hB hz1 hk1 hS => ?_)
            obtain ⟨m_79, m_80, m_81, m_82, hP1, hD1⟩ := hB
            rw [ht] at hP1
            have hP : va_P (dC, dI) vwCl (lwO cI q_1 q_4 q_5 q_6 q_7 q_8 q_9 q_10 q_11 q_12 q_13 q_14 q_15 q_16 q_17 q_18 q_19 q_20 q_21 q_22 q_23 q_24 q_25 m_79 m_80 q_28 q_29 m_81 m_82 q_32 q_33 u_77) H := hP1
            have hD : va_D A (lwO cI q_1 q_4 q_5 q_6 q_7 q_8 q_9 q_10 q_11 q_12 q_13 q_14 q_15 q_16 q_17 q_18 q_19 q_20 q_21 q_22 q_23 q_24 q_25 m_79 m_80 q_28 q_29 m_81 m_82 q_32 q_33 u_77) := hD1.weaken (fun _ _ _ h => hFc _ h)
            refine W.widen (k := 37) (n := 9871) (Nat.le_of_ble_eq_true rfl) (Nat.le_of_ble_eq_true rfl) ?_
            obtain ⟨ht_, hf_⟩ := h
            refine lv_if_ne (tgt := 118) hx hb dL_bounds_113 (by decide) (fun c_83 => ?_) (fun c_83 => ?_)
            · have h := ht_ c_83
              have hl : lv_has ls 3 [(0, .ref q_1), (1, .int (3 : Int32))] := lv_sub hl [1, 0] rfl
              refine W.widen (k := 37) (n := 9871) (Nat.le_of_ble_eq_true rfl) (Nat.le_of_ble_eq_true rfl) ?_
              exact sg_L_bounds_1 l hst C0 hK hN hX hC hA q_1 q_4 q_5 q_6 q_7 q_8 q_9 q_10 q_11 q_12 q_13 q_14 q_15 q_16 q_17 q_18 q_19 q_20 q_21 q_22 q_23 q_24 q_25 q_28 q_29 q_32 q_33 _ u_77 h m_79 m_80 m_81 m_82 _ _ hP hD hS _ hl
            · have h := hf_ c_83
              exact (show False from h).elim
          · have h := hf_ c_74
            exact (show False from h).elim
        · have h := hf_ c_65
          exact (show False from h).elim
      · have h := hf_ c_56
        exact (show False from h).elim
    · have h := hf_ c_47
      exact (show False from h).elim
