set_option maxHeartbeats 4000000 in
set_option maxRecDepth 100000 in
theorem sg_L_refuses_1 (l : Launch) (hst : l.stackTraces = false) {p : Program} {e : Env} {s : State} {m : MethodId} {below : List Frame} {meth : Method} {c : Code} {h0 : Nat} (C0 : LC p s m (([.ref h0] : List Value).toArray) meth c cL_refuses 15 wq_refuses) {dC : Nat → ClassId} {dI : Nat → Nat → Nat} {cI : ClassId} (hK : va_K (dC, dI) vwCl [(cI, .int)] s) (hN : nk s) {A : Nat → Prop} (hX : xj A s) (hC : xnc s) (hA : ∀ q : Nat, s.heap.size ≤ q → A q) (h0_1 h0_2 h0_3 h0_4 h0_5 h0_6 h0_7 h0_8 h0_9 h0_10 h0_11 h0_12 h0_13 h0_14 h0_15 h0_16 h0_17 h0_18 h0_19 h0_20 h0_21 h0_22 h0_25 h0_26 h0_29 h0_30 : Nat) (post : Int32 → TriS → Prop) (s0 : TriS) (v1 : Int32) (v2 : Int32) (v3 : Int32) (v4 : Int32) (h : P_L_refuses_1 s0 v1 v2 v3 v4 post) (h0_23 h0_24 h0_27 h0_28 : Nat) (H : Heap) (locs : List Loc) (hP : va_P (dC, dI) vwCl (lwO cI h0 h0_1 h0_2 h0_3 h0_4 h0_5 h0_6 h0_7 h0_8 h0_9 h0_10 h0_11 h0_12 h0_13 h0_14 h0_15 h0_16 h0_17 h0_18 h0_19 h0_20 h0_21 h0_22 h0_23 h0_24 h0_25 h0_26 h0_27 h0_28 h0_29 h0_30 s0) H) (hD : va_D A (lwO cI h0 h0_1 h0_2 h0_3 h0_4 h0_5 h0_6 h0_7 h0_8 h0_9 h0_10 h0_11 h0_12 h0_13 h0_14 h0_15 h0_16 h0_17 h0_18 h0_19 h0_20 h0_21 h0_22 h0_23 h0_24 h0_25 h0_26 h0_27 h0_28 h0_29 h0_30 s0)) (hS : va_S A s.heap H locs) (ls : Array Slot) (hl : lv_has ls 15 [(0, .ref h0), (1, .int v1), (2, .int v2), (3, .int v3), (4, .int v4), (5, .int (2147483647 : Int32)), (6, .int (0 : Int32)), (7, .int (-1 : Int32)), (8, .int (-1 : Int32)), (9, .int (-2 : Int32)), (10, .int (-5 : Int32)), (11, .int (-1 : Int32)), (12, .int (-1 : Int32)), (14, .int (0 : Int32))]) : W p l e rm_L_refuses s m (([.ref h0] : List Value).toArray) below meth c H locs 6 36 (MQ below (Q_L_refuses dC dI cI h0 h0_1 h0_2 h0_3 h0_4 h0_5 h0_6 h0_7 h0_8 h0_9 h0_10 h0_11 h0_12 h0_13 h0_14 h0_15 h0_16 h0_17 h0_18 h0_19 h0_20 h0_21 h0_22 h0_23 h0_24 h0_25 h0_26 h0_27 h0_28 h0_29 h0_30 A post) (([.ref h0] : List Value).toArray) s mc_L_refuses ms_L_refuses A) (F0 m 194 ls []) := by
  obtain ⟨hx, hb, hr, hml, hown, hts, hlocks⟩ := id C0
  refine lv_iconst (v := (1 : Int32)) hx hb dL_refuses_194 (by decide) ?_
  refine lv_goto (tgt := 199) hx hb dL_refuses_195 (by decide) ?_
  refine lv_istore (lv' := [(13, .int (1 : Int32)), (0, .ref h0), (1, .int v1), (2, .int v2), (3, .int v3), (4, .int v4), (5, .int (2147483647 : Int32)), (6, .int (0 : Int32)), (7, .int (-1 : Int32)), (8, .int (-1 : Int32)), (9, .int (-2 : Int32)), (10, .int (-5 : Int32)), (11, .int (-1 : Int32)), (12, .int (-1 : Int32)), (14, .int (0 : Int32))]) hx hb dL_refuses_199 hl (by decide) rfl (fun ls hl => ?_)
  refine lv_iinc (v := (1 : Int32)) (lv' := [(14, .int (1 : Int32)), (13, .int (1 : Int32)), (0, .ref h0), (1, .int v1), (2, .int v2), (3, .int v3), (4, .int v4), (5, .int (2147483647 : Int32)), (6, .int (0 : Int32)), (7, .int (-1 : Int32)), (8, .int (-1 : Int32)), (9, .int (-2 : Int32)), (10, .int (-5 : Int32)), (11, .int (-1 : Int32)), (12, .int (-1 : Int32))]) hx hb dL_refuses_201 hl (k := 14) rfl (by decide) (by decide) rfl (fun ls hl => ?_)
  refine lv_goto (tgt := 138) hx hb dL_refuses_204 (by decide) ?_
  refine lv_iload hx hb dL_refuses_138 (lv_at hl 0 rfl) ?_
  refine lv_iconst (v := (2 : Int32)) hx hb dL_refuses_140 (by decide) ?_
  refine lv_icmp_ge (tgt := 207) hx hb dL_refuses_141 (by decide) (fun c_39 => absurd c_39 (by decide)) (fun c_39 => ?_)
  refine lv_iload hx hb dL_refuses_144 (lv_at hl 1 rfl) ?_
  refine lv_if_eq (tgt := 198) hx hb dL_refuses_146 (by decide) (fun c_40 => absurd c_40 (by decide)) (fun c_40 => ?_)
  refine lv_aload_n hx hb dL_refuses_149 rfl (lv_at hl 2 rfl) ?_
  refine lv_iload hx hb dL_refuses_150 (lv_at hl 0 rfl) ?_
  refine lv_iload hx hb dL_refuses_152 (lv_at hl 10 rfl) ?_
  refine lv_iconst (v := (0 : Int32)) hx hb dL_refuses_154 (by decide) ?_
  refine lv_iconst (v := (0 : Int32)) hx hb dL_refuses_155 (by decide) ?_
  have hFc := frw hD hS hA
  refine vx_calli (SX := Unit) (px := fun _ => False) (BX := fun _ _ _ => True) (AX := A) (vx_runSX0 (vx_runSX (As := [.ref h0, .int (1 : Int32), .int (-1 : Int32), .int (0 : Int32), .int (0 : Int32)]) (rest := []) ⟨hx, hb, hml, hown, hts⟩ (c_L_act l hst dC dI cI h0 h0_1 h0_2 h0_3 h0_4 h0_5 h0_6 h0_7 h0_8 h0_9 h0_10 h0_11 h0_12 h0_13 h0_14 h0_15 h0_16 h0_17 h0_18 h0_19 h0_20 h0_21 h0_22 h0_23 h0_24 h0_25 h0_26 h0_27 h0_28 h0_29 h0_30 _ s0 (1 : Int32) (-1 : Int32) (0 : Int32) (0 : Int32) _ h) (vx_cwSW 5 hts (goodIn_up gB_L_act) rfl rfl rfl (by decide +kernel) ⟨Nat.le_of_ble_eq_true rfl, Nat.le_of_ble_eq_true rfl⟩) (pbl_S hP hK hD hN hX hC hFc hS) rfl rfl hl.1 rfl (lv_room (Nat.le_of_ble_eq_true rfl)) dL_refuses_156 ⟨Nat.le_of_ble_eq_true rfl, Nat.le_of_ble_eq_true rfl⟩)) hS (fun q _ h => hFc q h) hFc (fun q _ h => h) (fun E9 ce9 q9 u t H locs ht hvm h hB hz1 hk1 hS hce hcv hcl => h.elim) (fun r_42 u_41 t H locs ht hvm h hB hz1 hk1 hS => ?_)
  obtain ⟨m_43, m_44, m_45, m_46, hP1, hD1⟩ := hB
  rw [ht] at hP1
  have hP : va_P (dC, dI) vwCl (lwO cI h0 h0_1 h0_2 h0_3 h0_4 h0_5 h0_6 h0_7 h0_8 h0_9 h0_10 h0_11 h0_12 h0_13 h0_14 h0_15 h0_16 h0_17 h0_18 h0_19 h0_20 h0_21 h0_22 m_43 m_44 h0_25 h0_26 m_45 m_46 h0_29 h0_30 u_41) H := hP1
  have hD : va_D A (lwO cI h0 h0_1 h0_2 h0_3 h0_4 h0_5 h0_6 h0_7 h0_8 h0_9 h0_10 h0_11 h0_12 h0_13 h0_14 h0_15 h0_16 h0_17 h0_18 h0_19 h0_20 h0_21 h0_22 m_43 m_44 h0_25 h0_26 m_45 m_46 h0_29 h0_30 u_41) := hD1.weaken (fun _ _ _ h => hFc _ h)
  refine W.widen (k := 8) (n := 48) (Nat.le_of_ble_eq_true rfl) (Nat.le_of_ble_eq_true rfl) ?_
  refine lv_bipush (v := (-92 : Int32)) hx hb dL_refuses_159 (by decide) ?_
  obtain ⟨ht_, hf_⟩ := h
  refine lv_icmp_ne (tgt := 198) hx hb dL_refuses_161 (by decide) (fun c_47 => ?_) (fun c_47 => ?_)
  · have h := ht_ c_47
    exact (show False from h).elim
  · have h := hf_ c_47
    refine lv_aload_n hx hb dL_refuses_164 rfl (lv_at hl 2 rfl) ?_
    refine lv_iload hx hb dL_refuses_165 (lv_at hl 0 rfl) ?_
    refine lv_iconst (v := (0 : Int32)) hx hb dL_refuses_167 (by decide) ?_
    refine lv_iload hx hb dL_refuses_168 (lv_at hl 10 rfl) ?_
    refine lv_iconst (v := (0 : Int32)) hx hb dL_refuses_170 (by decide) ?_
    have hFc := frw hD hS hA
    refine vx_calli (SX := Unit) (px := fun _ => False) (BX := fun _ _ _ => True) (AX := A) (vx_runSX0 (vx_runSX (As := [.ref h0, .int (1 : Int32), .int (0 : Int32), .int (-1 : Int32), .int (0 : Int32)]) (rest := []) ⟨hx, hb, hml, hown, hts⟩ (c_L_act l hst dC dI cI h0 h0_1 h0_2 h0_3 h0_4 h0_5 h0_6 h0_7 h0_8 h0_9 h0_10 h0_11 h0_12 h0_13 h0_14 h0_15 h0_16 h0_17 h0_18 h0_19 h0_20 h0_21 h0_22 m_43 m_44 h0_25 h0_26 m_45 m_46 h0_29 h0_30 _ u_41 (1 : Int32) (0 : Int32) (-1 : Int32) (0 : Int32) _ h) (vx_cwSW 5 hts (goodIn_up gB_L_act) rfl rfl rfl (by decide +kernel) ⟨Nat.le_of_ble_eq_true rfl, Nat.le_of_ble_eq_true rfl⟩) (pbl_S hP hK hD hN hX hC hFc hS) rfl rfl hl.1 rfl (lv_room (Nat.le_of_ble_eq_true rfl)) dL_refuses_171 ⟨Nat.le_of_ble_eq_true rfl, Nat.le_of_ble_eq_true rfl⟩)) hS (fun q _ h => hFc q h) hFc (fun q _ h => h) (fun E9 ce9 q9 u t H locs ht hvm h hB hz1 hk1 hS hce hcv hcl => h.elim) (fun r_49 u_48 t H locs ht hvm h hB hz1 hk1 hS => ?_)
    obtain ⟨m_50, m_51, m_52, m_53, hP1, hD1⟩ := hB
    rw [ht] at hP1
    have hP : va_P (dC, dI) vwCl (lwO cI h0 h0_1 h0_2 h0_3 h0_4 h0_5 h0_6 h0_7 h0_8 h0_9 h0_10 h0_11 h0_12 h0_13 h0_14 h0_15 h0_16 h0_17 h0_18 h0_19 h0_20 h0_21 h0_22 m_50 m_51 h0_25 h0_26 m_52 m_53 h0_29 h0_30 u_48) H := hP1
    have hD : va_D A (lwO cI h0 h0_1 h0_2 h0_3 h0_4 h0_5 h0_6 h0_7 h0_8 h0_9 h0_10 h0_11 h0_12 h0_13 h0_14 h0_15 h0_16 h0_17 h0_18 h0_19 h0_20 h0_21 h0_22 m_50 m_51 h0_25 h0_26 m_52 m_53 h0_29 h0_30 u_48) := hD1.weaken (fun _ _ _ h => hFc _ h)
    refine W.widen (k := 10) (n := 60) (Nat.le_of_ble_eq_true rfl) (Nat.le_of_ble_eq_true rfl) ?_
    refine lv_bipush (v := (-92 : Int32)) hx hb dL_refuses_174 (by decide) ?_
    obtain ⟨ht_, hf_⟩ := h
    refine lv_icmp_ne (tgt := 198) hx hb dL_refuses_176 (by decide) (fun c_54 => ?_) (fun c_54 => ?_)
    · have h := ht_ c_54
      exact (show False from h).elim
    · have h := hf_ c_54
      refine lv_aload_n hx hb dL_refuses_179 rfl (lv_at hl 2 rfl) ?_
      refine lv_iload hx hb dL_refuses_180 (lv_at hl 0 rfl) ?_
      refine lv_iconst (v := (0 : Int32)) hx hb dL_refuses_182 (by decide) ?_
      refine lv_iconst (v := (0 : Int32)) hx hb dL_refuses_183 (by decide) ?_
      refine lv_iload hx hb dL_refuses_184 (lv_at hl 10 rfl) ?_
      have hFc := frw hD hS hA
      refine vx_calli (SX := Unit) (px := fun _ => False) (BX := fun _ _ _ => True) (AX := A) (vx_runSX0 (vx_runSX (As := [.ref h0, .int (1 : Int32), .int (0 : Int32), .int (0 : Int32), .int (-1 : Int32)]) (rest := []) ⟨hx, hb, hml, hown, hts⟩ (c_L_act l hst dC dI cI h0 h0_1 h0_2 h0_3 h0_4 h0_5 h0_6 h0_7 h0_8 h0_9 h0_10 h0_11 h0_12 h0_13 h0_14 h0_15 h0_16 h0_17 h0_18 h0_19 h0_20 h0_21 h0_22 m_50 m_51 h0_25 h0_26 m_52 m_53 h0_29 h0_30 _ u_48 (1 : Int32) (0 : Int32) (0 : Int32) (-1 : Int32) _ h) (vx_cwSW 5 hts (goodIn_up gB_L_act) rfl rfl rfl (by decide +kernel) ⟨Nat.le_of_ble_eq_true rfl, Nat.le_of_ble_eq_true rfl⟩) (pbl_S hP hK hD hN hX hC hFc hS) rfl rfl hl.1 rfl (lv_room (Nat.le_of_ble_eq_true rfl)) dL_refuses_186 ⟨Nat.le_of_ble_eq_true rfl, Nat.le_of_ble_eq_true rfl⟩)) hS (fun q _ h => hFc q h) hFc (fun q _ h => h) (fun E9 ce9 q9 u t H locs ht hvm h hB hz1 hk1 hS hce hcv hcl => h.elim) (fun r_56 u_55 t H locs ht hvm h hB hz1 hk1 hS => ?_)
      obtain ⟨m_57, m_58, m_59, m_60, hP1, hD1⟩ := hB
      rw [ht] at hP1
      have hP : va_P (dC, dI) vwCl (lwO cI h0 h0_1 h0_2 h0_3 h0_4 h0_5 h0_6 h0_7 h0_8 h0_9 h0_10 h0_11 h0_12 h0_13 h0_14 h0_15 h0_16 h0_17 h0_18 h0_19 h0_20 h0_21 h0_22 m_57 m_58 h0_25 h0_26 m_59 m_60 h0_29 h0_30 u_55) H := hP1
      have hD : va_D A (lwO cI h0 h0_1 h0_2 h0_3 h0_4 h0_5 h0_6 h0_7 h0_8 h0_9 h0_10 h0_11 h0_12 h0_13 h0_14 h0_15 h0_16 h0_17 h0_18 h0_19 h0_20 h0_21 h0_22 m_57 m_58 h0_25 h0_26 m_59 m_60 h0_29 h0_30 u_55) := hD1.weaken (fun _ _ _ h => hFc _ h)
      refine W.widen (k := 12) (n := 72) (Nat.le_of_ble_eq_true rfl) (Nat.le_of_ble_eq_true rfl) ?_
      refine lv_bipush (v := (-92 : Int32)) hx hb dL_refuses_189 (by decide) ?_
      obtain ⟨ht_, hf_⟩ := h
      refine lv_icmp_ne (tgt := 198) hx hb dL_refuses_191 (by decide) (fun c_61 => ?_) (fun c_61 => ?_)
      · have h := ht_ c_61
        exact (show False from h).elim
      · have h := hf_ c_61
        refine lv_iconst (v := (1 : Int32)) hx hb dL_refuses_194 (by decide) ?_
        refine lv_goto (tgt := 199) hx hb dL_refuses_195 (by decide) ?_
        refine lv_istore (lv' := [(13, .int (1 : Int32)), (14, .int (1 : Int32)), (0, .ref h0), (1, .int v1), (2, .int v2), (3, .int v3), (4, .int v4), (5, .int (2147483647 : Int32)), (6, .int (0 : Int32)), (7, .int (-1 : Int32)), (8, .int (-1 : Int32)), (9, .int (-2 : Int32)), (10, .int (-5 : Int32)), (11, .int (-1 : Int32)), (12, .int (-1 : Int32))]) hx hb dL_refuses_199 hl (by decide) rfl (fun ls hl => ?_)
        refine lv_iinc (v := (2 : Int32)) (lv' := [(14, .int (2 : Int32)), (13, .int (1 : Int32)), (0, .ref h0), (1, .int v1), (2, .int v2), (3, .int v3), (4, .int v4), (5, .int (2147483647 : Int32)), (6, .int (0 : Int32)), (7, .int (-1 : Int32)), (8, .int (-1 : Int32)), (9, .int (-2 : Int32)), (10, .int (-5 : Int32)), (11, .int (-1 : Int32)), (12, .int (-1 : Int32))]) hx hb dL_refuses_201 hl (k := 1) rfl (by decide) (by decide) rfl (fun ls hl => ?_)
        refine lv_goto (tgt := 138) hx hb dL_refuses_204 (by decide) ?_
        refine lv_iload hx hb dL_refuses_138 (lv_at hl 0 rfl) ?_
        refine lv_iconst (v := (2 : Int32)) hx hb dL_refuses_140 (by decide) ?_
        refine lv_icmp_ge (tgt := 207) hx hb dL_refuses_141 (by decide) (fun c_62 => ?_) (fun c_62 => absurd c_62 (by decide))
        refine lv_iload hx hb dL_refuses_207 (lv_at hl 1 rfl) ?_
        refine lv_if_eq (tgt := 378) hx hb dL_refuses_209 (by decide) (fun c_63 => absurd c_63 (by decide)) (fun c_63 => ?_)
        refine lv_aload_n hx hb dL_refuses_212 rfl (lv_at hl 2 rfl) ?_
        refine lv_iconst (v := (2 : Int32)) hx hb dL_refuses_213 (by decide) ?_
        refine lv_iload hx hb dL_refuses_214 (lv_at hl 13 rfl) ?_
        refine lv_iconst (v := (-1 : Int32)) hx hb dL_refuses_216 (by decide) ?_
        refine lv_iconst (v := (0 : Int32)) hx hb dL_refuses_217 (by decide) ?_
        have hFc := frw hD hS hA
        refine vx_calli (SX := Unit) (px := fun _ => False) (BX := fun _ _ _ => True) (AX := A) (vx_runSX0 (vx_runSX (As := [.ref h0, .int (2 : Int32), .int (-1 : Int32), .int (-1 : Int32), .int (0 : Int32)]) (rest := []) ⟨hx, hb, hml, hown, hts⟩ (c_L_act l hst dC dI cI h0 h0_1 h0_2 h0_3 h0_4 h0_5 h0_6 h0_7 h0_8 h0_9 h0_10 h0_11 h0_12 h0_13 h0_14 h0_15 h0_16 h0_17 h0_18 h0_19 h0_20 h0_21 h0_22 m_57 m_58 h0_25 h0_26 m_59 m_60 h0_29 h0_30 _ u_55 (2 : Int32) (-1 : Int32) (-1 : Int32) (0 : Int32) _ h) (vx_cwSW 5 hts (goodIn_up gB_L_act) rfl rfl rfl (by decide +kernel) ⟨Nat.le_of_ble_eq_true rfl, Nat.le_of_ble_eq_true rfl⟩) (pbl_S hP hK hD hN hX hC hFc hS) rfl rfl hl.1 rfl (lv_room (Nat.le_of_ble_eq_true rfl)) dL_refuses_218 ⟨Nat.le_of_ble_eq_true rfl, Nat.le_of_ble_eq_true rfl⟩)) hS (fun q _ h => hFc q h) hFc (fun q _ h => h) (fun E9 ce9 q9 u t H locs ht hvm h hB hz1 hk1 hS hce hcv hcl => h.elim) (fun r_65 u_64 t H locs ht hvm h hB hz1 hk1 hS => ?_)
        obtain ⟨m_66, m_67, m_68, m_69, hP1, hD1⟩ := hB
        rw [ht] at hP1
        have hP : va_P (dC, dI) vwCl (lwO cI h0 h0_1 h0_2 h0_3 h0_4 h0_5 h0_6 h0_7 h0_8 h0_9 h0_10 h0_11 h0_12 h0_13 h0_14 h0_15 h0_16 h0_17 h0_18 h0_19 h0_20 h0_21 h0_22 m_66 m_67 h0_25 h0_26 m_68 m_69 h0_29 h0_30 u_64) H := hP1
        have hD : va_D A (lwO cI h0 h0_1 h0_2 h0_3 h0_4 h0_5 h0_6 h0_7 h0_8 h0_9 h0_10 h0_11 h0_12 h0_13 h0_14 h0_15 h0_16 h0_17 h0_18 h0_19 h0_20 h0_21 h0_22 m_66 m_67 h0_25 h0_26 m_68 m_69 h0_29 h0_30 u_64) := hD1.weaken (fun _ _ _ h => hFc _ h)
        refine W.widen (k := 14) (n := 84) (Nat.le_of_ble_eq_true rfl) (Nat.le_of_ble_eq_true rfl) ?_
        refine lv_bipush (v := (-92 : Int32)) hx hb dL_refuses_221 (by decide) ?_
        obtain ⟨ht_, hf_⟩ := h
        refine lv_icmp_ne (tgt := 378) hx hb dL_refuses_223 (by decide) (fun c_70 => ?_) (fun c_70 => ?_)
        · have h := ht_ c_70
          exact (show False from h).elim
        · have h := hf_ c_70
          refine lv_aload_n hx hb dL_refuses_226 rfl (lv_at hl 2 rfl) ?_
          refine lv_iconst (v := (2 : Int32)) hx hb dL_refuses_227 (by decide) ?_
          refine lv_iconst (v := (0 : Int32)) hx hb dL_refuses_228 (by decide) ?_
          refine lv_iconst (v := (-1 : Int32)) hx hb dL_refuses_229 (by decide) ?_
          refine lv_iload hx hb dL_refuses_230 (lv_at hl 13 rfl) ?_
          have hFc := frw hD hS hA
          refine vx_calli (SX := Unit) (px := fun _ => False) (BX := fun _ _ _ => True) (AX := A) (vx_runSX0 (vx_runSX (As := [.ref h0, .int (2 : Int32), .int (0 : Int32), .int (-1 : Int32), .int (-1 : Int32)]) (rest := []) ⟨hx, hb, hml, hown, hts⟩ (c_L_act l hst dC dI cI h0 h0_1 h0_2 h0_3 h0_4 h0_5 h0_6 h0_7 h0_8 h0_9 h0_10 h0_11 h0_12 h0_13 h0_14 h0_15 h0_16 h0_17 h0_18 h0_19 h0_20 h0_21 h0_22 m_66 m_67 h0_25 h0_26 m_68 m_69 h0_29 h0_30 _ u_64 (2 : Int32) (0 : Int32) (-1 : Int32) (-1 : Int32) _ h) (vx_cwSW 5 hts (goodIn_up gB_L_act) rfl rfl rfl (by decide +kernel) ⟨Nat.le_of_ble_eq_true rfl, Nat.le_of_ble_eq_true rfl⟩) (pbl_S hP hK hD hN hX hC hFc hS) rfl rfl hl.1 rfl (lv_room (Nat.le_of_ble_eq_true rfl)) dL_refuses_232 ⟨Nat.le_of_ble_eq_true rfl, Nat.le_of_ble_eq_true rfl⟩)) hS (fun q _ h => hFc q h) hFc (fun q _ h => h) (fun E9 ce9 q9 u t H locs ht hvm h hB hz1 hk1 hS hce hcv hcl => h.elim) (fun r_72 u_71 t H locs ht hvm h hB hz1 hk1 hS => ?_)
          obtain ⟨m_73, m_74, m_75, m_76, hP1, hD1⟩ := hB
          rw [ht] at hP1
          have hP : va_P (dC, dI) vwCl (lwO cI h0 h0_1 h0_2 h0_3 h0_4 h0_5 h0_6 h0_7 h0_8 h0_9 h0_10 h0_11 h0_12 h0_13 h0_14 h0_15 h0_16 h0_17 h0_18 h0_19 h0_20 h0_21 h0_22 m_73 m_74 h0_25 h0_26 m_75 m_76 h0_29 h0_30 u_71) H := hP1
          have hD : va_D A (lwO cI h0 h0_1 h0_2 h0_3 h0_4 h0_5 h0_6 h0_7 h0_8 h0_9 h0_10 h0_11 h0_12 h0_13 h0_14 h0_15 h0_16 h0_17 h0_18 h0_19 h0_20 h0_21 h0_22 m_73 m_74 h0_25 h0_26 m_75 m_76 h0_29 h0_30 u_71) := hD1.weaken (fun _ _ _ h => hFc _ h)
          refine W.widen (k := 16) (n := 96) (Nat.le_of_ble_eq_true rfl) (Nat.le_of_ble_eq_true rfl) ?_
          refine lv_bipush (v := (-92 : Int32)) hx hb dL_refuses_235 (by decide) ?_
          obtain ⟨ht_, hf_⟩ := h
          refine lv_icmp_ne (tgt := 378) hx hb dL_refuses_237 (by decide) (fun c_77 => ?_) (fun c_77 => ?_)
          · have h := ht_ c_77
            exact (show False from h).elim
          · have h := hf_ c_77
            refine lv_aload_n hx hb dL_refuses_240 rfl (lv_at hl 2 rfl) ?_
            refine lv_iconst (v := (2 : Int32)) hx hb dL_refuses_241 (by decide) ?_
            refine lv_iconst (v := (2 : Int32)) hx hb dL_refuses_242 (by decide) ?_
            refine lv_iload hx hb dL_refuses_243 (lv_at hl 8 rfl) ?_
            refine lv_iconst (v := (1 : Int32)) hx hb dL_refuses_245 (by decide) ?_
            refine lv_icmp_ne (tgt := 253) hx hb dL_refuses_246 (by decide) (fun c_78 => ?_) (fun c_78 => absurd c_78 (by decide))
            refine lv_iload hx hb dL_refuses_253 (lv_at hl 9 rfl) ?_
            refine lv_iconst (v := (2 : Int32)) hx hb dL_refuses_255 (by decide) ?_
            have hFc := frw hD hS hA
            refine vx_calli (SX := Unit) (px := fun _ => False) (BX := fun _ _ _ => True) (AX := A) (vx_runSX0 (vx_runSX (As := [.ref h0, .int (2 : Int32), .int (2 : Int32), .int (-1 : Int32), .int (2 : Int32)]) (rest := []) ⟨hx, hb, hml, hown, hts⟩ (c_L_act l hst dC dI cI h0 h0_1 h0_2 h0_3 h0_4 h0_5 h0_6 h0_7 h0_8 h0_9 h0_10 h0_11 h0_12 h0_13 h0_14 h0_15 h0_16 h0_17 h0_18 h0_19 h0_20 h0_21 h0_22 m_73 m_74 h0_25 h0_26 m_75 m_76 h0_29 h0_30 _ u_71 (2 : Int32) (2 : Int32) (-1 : Int32) (2 : Int32) _ h) (vx_cwSW 5 hts (goodIn_up gB_L_act) rfl rfl rfl (by decide +kernel) ⟨Nat.le_of_ble_eq_true rfl, Nat.le_of_ble_eq_true rfl⟩) (pbl_S hP hK hD hN hX hC hFc hS) rfl rfl hl.1 rfl (lv_room (Nat.le_of_ble_eq_true rfl)) dL_refuses_256 ⟨Nat.le_of_ble_eq_true rfl, Nat.le_of_ble_eq_true rfl⟩)) hS (fun q _ h => hFc q h) hFc (fun q _ h => h) (fun E9 ce9 q9 u t H locs ht hvm h hB hz1 hk1 hS hce hcv hcl => h.elim) (fun r_80 u_79 t H locs ht hvm h hB hz1 hk1 hS => ?_)
            obtain ⟨m_81, m_82, m_83, m_84, hP1, hD1⟩ := hB
            rw [ht] at hP1
            have hP : va_P (dC, dI) vwCl (lwO cI h0 h0_1 h0_2 h0_3 h0_4 h0_5 h0_6 h0_7 h0_8 h0_9 h0_10 h0_11 h0_12 h0_13 h0_14 h0_15 h0_16 h0_17 h0_18 h0_19 h0_20 h0_21 h0_22 m_81 m_82 h0_25 h0_26 m_83 m_84 h0_29 h0_30 u_79) H := hP1
            have hD : va_D A (lwO cI h0 h0_1 h0_2 h0_3 h0_4 h0_5 h0_6 h0_7 h0_8 h0_9 h0_10 h0_11 h0_12 h0_13 h0_14 h0_15 h0_16 h0_17 h0_18 h0_19 h0_20 h0_21 h0_22 m_81 m_82 h0_25 h0_26 m_83 m_84 h0_29 h0_30 u_79) := hD1.weaken (fun _ _ _ h => hFc _ h)
            refine W.widen (k := 18) (n := 108) (Nat.le_of_ble_eq_true rfl) (Nat.le_of_ble_eq_true rfl) ?_
            refine lv_bipush (v := (-91 : Int32)) hx hb dL_refuses_259 (by decide) ?_
            obtain ⟨ht_, hf_⟩ := h
            refine lv_icmp_ne (tgt := 378) hx hb dL_refuses_261 (by decide) (fun c_85 => ?_) (fun c_85 => ?_)
            · have h := ht_ c_85
              exact (show False from h).elim
            · have h := hf_ c_85
              refine lv_aload_n hx hb dL_refuses_264 rfl (lv_at hl 2 rfl) ?_
              refine lv_iconst (v := (3 : Int32)) hx hb dL_refuses_265 (by decide) ?_
              refine lv_iload hx hb dL_refuses_266 (lv_at hl 10 rfl) ?_
              refine lv_iconst (v := (0 : Int32)) hx hb dL_refuses_268 (by decide) ?_
              refine lv_iconst (v := (0 : Int32)) hx hb dL_refuses_269 (by decide) ?_
              have hFc := frw hD hS hA
              refine vx_calli (SX := Unit) (px := fun _ => False) (BX := fun _ _ _ => True) (AX := A) (vx_runSX0 (vx_runSX (As := [.ref h0, .int (3 : Int32), .int (-1 : Int32), .int (0 : Int32), .int (0 : Int32)]) (rest := []) ⟨hx, hb, hml, hown, hts⟩ (c_L_act l hst dC dI cI h0 h0_1 h0_2 h0_3 h0_4 h0_5 h0_6 h0_7 h0_8 h0_9 h0_10 h0_11 h0_12 h0_13 h0_14 h0_15 h0_16 h0_17 h0_18 h0_19 h0_20 h0_21 h0_22 m_81 m_82 h0_25 h0_26 m_83 m_84 h0_29 h0_30 _ u_79 (3 : Int32) (-1 : Int32) (0 : Int32) (0 : Int32) _ h) (vx_cwSW 5 hts (goodIn_up gB_L_act) rfl rfl rfl (by decide +kernel) ⟨Nat.le_of_ble_eq_true rfl, Nat.le_of_ble_eq_true rfl⟩) (pbl_S hP hK hD hN hX hC hFc hS) rfl rfl hl.1 rfl (lv_room (Nat.le_of_ble_eq_true rfl)) dL_refuses_270 ⟨Nat.le_of_ble_eq_true rfl, Nat.le_of_ble_eq_true rfl⟩)) hS (fun q _ h => hFc q h) hFc (fun q _ h => h) (fun E9 ce9 q9 u t H locs ht hvm h hB hz1 hk1 hS hce hcv hcl => h.elim) (fun r_87 u_86 t H locs ht hvm h hB hz1 hk1 hS => ?_)
              obtain ⟨m_88, m_89, m_90, m_91, hP1, hD1⟩ := hB
              rw [ht] at hP1
              have hP : va_P (dC, dI) vwCl (lwO cI h0 h0_1 h0_2 h0_3 h0_4 h0_5 h0_6 h0_7 h0_8 h0_9 h0_10 h0_11 h0_12 h0_13 h0_14 h0_15 h0_16 h0_17 h0_18 h0_19 h0_20 h0_21 h0_22 m_88 m_89 h0_25 h0_26 m_90 m_91 h0_29 h0_30 u_86) H := hP1
              have hD : va_D A (lwO cI h0 h0_1 h0_2 h0_3 h0_4 h0_5 h0_6 h0_7 h0_8 h0_9 h0_10 h0_11 h0_12 h0_13 h0_14 h0_15 h0_16 h0_17 h0_18 h0_19 h0_20 h0_21 h0_22 m_88 m_89 h0_25 h0_26 m_90 m_91 h0_29 h0_30 u_86) := hD1.weaken (fun _ _ _ h => hFc _ h)
              refine W.widen (k := 20) (n := 120) (Nat.le_of_ble_eq_true rfl) (Nat.le_of_ble_eq_true rfl) ?_
              refine lv_bipush (v := (-92 : Int32)) hx hb dL_refuses_273 (by decide) ?_
              obtain ⟨ht_, hf_⟩ := h
              refine lv_icmp_ne (tgt := 378) hx hb dL_refuses_275 (by decide) (fun c_92 => ?_) (fun c_92 => ?_)
              · have h := ht_ c_92
                exact (show False from h).elim
              · have h := hf_ c_92
                have hl : lv_has ls 15 [(0, .ref h0), (1, .int v1), (2, .int v2), (3, .int v3), (4, .int v4), (5, .int (2147483647 : Int32)), (6, .int (0 : Int32)), (7, .int (-1 : Int32)), (8, .int (-1 : Int32)), (9, .int (-2 : Int32)), (10, .int (-5 : Int32)), (11, .int (-1 : Int32)), (12, .int (-1 : Int32))] := lv_sub hl [2, 3, 4, 5, 6, 7, 8, 9, 10, 11, 12, 13, 14] rfl
                refine W.widen (k := 20) (n := 120) (Nat.le_of_ble_eq_true rfl) (Nat.le_of_ble_eq_true rfl) ?_
                exact sg_L_refuses_2 l hst C0 hK hN hX hC hA h0_1 h0_2 h0_3 h0_4 h0_5 h0_6 h0_7 h0_8 h0_9 h0_10 h0_11 h0_12 h0_13 h0_14 h0_15 h0_16 h0_17 h0_18 h0_19 h0_20 h0_21 h0_22 h0_25 h0_26 h0_29 h0_30 _ u_86 v1 v2 v3 v4 h m_88 m_89 m_90 m_91 _ _ hP hD hS _ hl
set_option maxHeartbeats 4000000 in
set_option maxRecDepth 100000 in
theorem c_L_refuses (l : Launch) (hst : l.stackTraces = false) (dC : Nat → ClassId) (dI : Nat → Nat → Nat) (cI : ClassId) (h0 h0_1 h0_2 h0_3 h0_4 h0_5 h0_6 h0_7 h0_8 h0_9 h0_10 h0_11 h0_12 h0_13 h0_14 h0_15 h0_16 h0_17 h0_18 h0_19 h0_20 h0_21 h0_22 h0_23 h0_24 h0_25 h0_26 h0_27 h0_28 h0_29 h0_30 : Nat) (sz : Nat) (s0 : TriS) (post : Int32 → TriS → Prop) (h : P_L_refuses s0 post) : Met l yL_refuses wq_refuses rm_L_refuses (va_Pc [.ref h0] (cprel (dC, dI) [(cI, .int)] (lwO cI h0 h0_1 h0_2 h0_3 h0_4 h0_5 h0_6 h0_7 h0_8 h0_9 h0_10 h0_11 h0_12 h0_13 h0_14 h0_15 h0_16 h0_17 h0_18 h0_19 h0_20 h0_21 h0_22 h0_23 h0_24 h0_25 h0_26 h0_27 h0_28 h0_29 h0_30 s0) sz (va_A (lwO cI h0 h0_1 h0_2 h0_3 h0_4 h0_5 h0_6 h0_7 h0_8 h0_9 h0_10 h0_11 h0_12 h0_13 h0_14 h0_15 h0_16 h0_17 h0_18 h0_19 h0_20 h0_21 h0_22 h0_23 h0_24 h0_25 h0_26 h0_27 h0_28 h0_29 h0_30 s0) sz))) (Q_L_refuses dC dI cI h0 h0_1 h0_2 h0_3 h0_4 h0_5 h0_6 h0_7 h0_8 h0_9 h0_10 h0_11 h0_12 h0_13 h0_14 h0_15 h0_16 h0_17 h0_18 h0_19 h0_20 h0_21 h0_22 h0_23 h0_24 h0_25 h0_26 h0_27 h0_28 h0_29 h0_30 (va_A (lwO cI h0 h0_1 h0_2 h0_3 h0_4 h0_5 h0_6 h0_7 h0_8 h0_9 h0_10 h0_11 h0_12 h0_13 h0_14 h0_15 h0_16 h0_17 h0_18 h0_19 h0_20 h0_21 h0_22 h0_23 h0_24 h0_25 h0_26 h0_27 h0_28 h0_29 h0_30 s0) sz) post) mc_L_refuses ms_L_refuses (va_A (lwO cI h0 h0_1 h0_2 h0_3 h0_4 h0_5 h0_6 h0_7 h0_8 h0_9 h0_10 h0_11 h0_12 h0_13 h0_14 h0_15 h0_16 h0_17 h0_18 h0_19 h0_20 h0_21 h0_22 h0_23 h0_24 h0_25 h0_26 h0_27 h0_28 h0_29 h0_30 s0) sz) := by
  refine Met.ofW (cc := cL_refuses) (maxL := 15) (ret := (some .boolean)) (by decide) rfl ?_
  intro p e s m args below meth c s₁ B hml hv
  obtain ⟨rfl, ⟨⟨hsz, hP, hK, hD0, hN⟩, hX⟩, hC⟩ := hv
  have hx := B.exec
  have hb := B.bytes
  have hr := B.returns
  have hts := atoms_spec (ws := wq_refuses) B.pre
  have hown : s.vm.findClass RL = some m.cls := findClass_of_methodNamed B.named
  have hlocks := B.notSynchronized
  have C0 : LC p s m ([.ref h0] : List Value).toArray meth c cL_refuses 15 wq_refuses := ⟨hx, hb, hr, hml, hown, hts, hlocks⟩
  subst hsz
  have hD := hD0.self (sz := s.heap.size)
  generalize hAe : va_A (lwO cI h0 h0_1 h0_2 h0_3 h0_4 h0_5 h0_6 h0_7 h0_8 h0_9 h0_10 h0_11 h0_12 h0_13 h0_14 h0_15 h0_16 h0_17 h0_18 h0_19 h0_20 h0_21 h0_22 h0_23 h0_24 h0_25 h0_26 h0_27 h0_28 h0_29 h0_30 s0) s.heap.size = A at hD hX ⊢
  have hA : ∀ q : Nat, s.heap.size ≤ q → A q := fun q h => by rw [← hAe]; exact Or.inr h
  clear hAe hD0
  have hS : va_S A s.heap s.heap [] := va_S.rf
  have hl := lv_entry ([.ref h0]) (n := 15) (Nat.le_of_ble_eq_true rfl)
  rw [lg_entry_eq]
  generalize (lg_sl ([.ref h0]) ++ List.replicate (15 - (lg_sl ([.ref h0])).length) Slot.unset).toArray = ls at hl ⊢
  have hl : lv_has ls 15 [(0, .ref h0)] := hl
  refine lv_aload_n hx hb dL_refuses_0 rfl (lv_at hl 0 rfl) ?_
  have hFc := fr0 hA hS
  refine va_calli (va_runV (As := []) (rest := []) ⟨hx, hb, hml, hown, hts⟩ (c_X7_triples l dC dI cI h0 h0_1 h0_2 h0_3 h0_4 h0_5 h0_6 h0_7 h0_8 h0_9 h0_10 h0_11 h0_12 h0_13 h0_14 h0_15 h0_16 h0_17 h0_18 h0_19 h0_20 h0_21 h0_22 h0_23 h0_24 h0_25 h0_26 h0_27 h0_28 h0_29 h0_30 _ s0 _ h) (cwV 0 hts (goodIn_up gB_X7_triples) rfl rfl rfl (by decide +kernel) ⟨Nat.le_of_ble_eq_true rfl, Nat.le_of_ble_eq_true rfl⟩) (pb_V hP hK hD hN (ci := 7) (q0 := 0) rfl rfl) rfl rfl hl.1 rfl (lv_room (Nat.le_of_ble_eq_true rfl)) dL_refuses_1 ⟨Nat.le_of_ble_eq_true rfl, Nat.le_of_ble_eq_true rfl⟩) hS (fun q _ h => hFc q h) hFc (fun r_2 u_1 t H locs ht hvm h hB hz1 hk1 hS => ?_)
  have hP := vaPk hP hk1
  refine lv_istore_n (lv' := [(1, .int r_2), (0, .ref h0)]) hx hb dL_refuses_4 rfl hl (by decide) rfl (fun ls hl => ?_)
  refine lv_aload_n hx hb dL_refuses_5 rfl (lv_at hl 1 rfl) ?_
  have hFc := fr0 hA hS
  refine va_calli (va_runV (As := []) (rest := []) ⟨hx, hb, hml, hown, hts⟩ (c_X7_terms l dC dI cI h0 h0_1 h0_2 h0_3 h0_4 h0_5 h0_6 h0_7 h0_8 h0_9 h0_10 h0_11 h0_12 h0_13 h0_14 h0_15 h0_16 h0_17 h0_18 h0_19 h0_20 h0_21 h0_22 h0_23 h0_24 h0_25 h0_26 h0_27 h0_28 h0_29 h0_30 _ s0 _ h) (cwV 0 hts (goodIn_up gB_X7_terms) rfl rfl rfl (by decide +kernel) ⟨Nat.le_of_ble_eq_true rfl, Nat.le_of_ble_eq_true rfl⟩) (pb_V hP hK hD hN (ci := 7) (q0 := 0) rfl rfl) rfl rfl hl.1 rfl (lv_room (Nat.le_of_ble_eq_true rfl)) dL_refuses_6 ⟨Nat.le_of_ble_eq_true rfl, Nat.le_of_ble_eq_true rfl⟩) hS (fun q _ h => hFc q h) hFc (fun r_4 u_3 t H locs ht hvm h hB hz1 hk1 hS => ?_)
  have hP := vaPk hP hk1
  refine lv_istore_n (lv' := [(2, .int r_4), (1, .int r_2), (0, .ref h0)]) hx hb dL_refuses_9 rfl hl (by decide) rfl (fun ls hl => ?_)
  refine lv_aload_n hx hb dL_refuses_10 rfl (lv_at hl 2 rfl) ?_
  have hFc := fr0 hA hS
  refine va_calli (va_runV (As := []) (rest := []) ⟨hx, hb, hml, hown, hts⟩ (c_X7_patterns l dC dI cI h0 h0_1 h0_2 h0_3 h0_4 h0_5 h0_6 h0_7 h0_8 h0_9 h0_10 h0_11 h0_12 h0_13 h0_14 h0_15 h0_16 h0_17 h0_18 h0_19 h0_20 h0_21 h0_22 h0_23 h0_24 h0_25 h0_26 h0_27 h0_28 h0_29 h0_30 _ s0 _ h) (cwV 0 hts (goodIn_up gB_X7_patterns) rfl rfl rfl (by decide +kernel) ⟨Nat.le_of_ble_eq_true rfl, Nat.le_of_ble_eq_true rfl⟩) (pb_V hP hK hD hN (ci := 7) (q0 := 0) rfl rfl) rfl rfl hl.1 rfl (lv_room (Nat.le_of_ble_eq_true rfl)) dL_refuses_11 ⟨Nat.le_of_ble_eq_true rfl, Nat.le_of_ble_eq_true rfl⟩) hS (fun q _ h => hFc q h) hFc (fun r_6 u_5 t H locs ht hvm h hB hz1 hk1 hS => ?_)
  have hP := vaPk hP hk1
  refine lv_istore_n (lv' := [(3, .int r_6), (2, .int r_4), (1, .int r_2), (0, .ref h0)]) hx hb dL_refuses_14 rfl hl (by decide) rfl (fun ls hl => ?_)
  refine lv_aload_n hx hb dL_refuses_15 rfl (lv_at hl 3 rfl) ?_
  have hFc := fr0 hA hS
  refine va_calli (va_runV (As := []) (rest := []) ⟨hx, hb, hml, hown, hts⟩ (c_X7_answers l dC dI cI h0 h0_1 h0_2 h0_3 h0_4 h0_5 h0_6 h0_7 h0_8 h0_9 h0_10 h0_11 h0_12 h0_13 h0_14 h0_15 h0_16 h0_17 h0_18 h0_19 h0_20 h0_21 h0_22 h0_23 h0_24 h0_25 h0_26 h0_27 h0_28 h0_29 h0_30 _ s0 _ h) (cwV 0 hts (goodIn_up gB_X7_answers) rfl rfl rfl (by decide +kernel) ⟨Nat.le_of_ble_eq_true rfl, Nat.le_of_ble_eq_true rfl⟩) (pb_V hP hK hD hN (ci := 7) (q0 := 0) rfl rfl) rfl rfl hl.1 rfl (lv_room (Nat.le_of_ble_eq_true rfl)) dL_refuses_16 ⟨Nat.le_of_ble_eq_true rfl, Nat.le_of_ble_eq_true rfl⟩) hS (fun q _ h => hFc q h) hFc (fun r_8 u_7 t H locs ht hvm h hB hz1 hk1 hS => ?_)
  have hP := vaPk hP hk1
  refine lv_istore (lv' := [(4, .int r_8), (3, .int r_6), (2, .int r_4), (1, .int r_2), (0, .ref h0)]) hx hb dL_refuses_19 hl (by decide) rfl (fun ls hl => ?_)
  refine lv_ldc (v := (2147483647 : Int32)) hx hb hown (hts (.constant RL 77 (2147483647 : Int32)) (by decide +kernel)) dL_refuses_21 ?_
  refine lv_istore (lv' := [(5, .int (2147483647 : Int32)), (4, .int r_8), (3, .int r_6), (2, .int r_4), (1, .int r_2), (0, .ref h0)]) hx hb dL_refuses_23 hl (by decide) rfl (fun ls hl => ?_)
  refine lv_iconst (v := (0 : Int32)) hx hb dL_refuses_25 (by decide) ?_
  refine lv_istore (lv' := [(6, .int (0 : Int32)), (5, .int (2147483647 : Int32)), (4, .int r_8), (3, .int r_6), (2, .int r_4), (1, .int r_2), (0, .ref h0)]) hx hb dL_refuses_26 hl (by decide) rfl (fun ls hl => ?_)
  refine lv_iload hx hb dL_refuses_28 (lv_at hl 0 rfl) ?_
  refine lv_iconst (v := (4 : Int32)) hx hb dL_refuses_30 (by decide) ?_
  refine lv_icmp_ge (tgt := 563) hx hb dL_refuses_31 (by decide) (fun c_9 => absurd c_9 (by decide)) (fun c_9 => ?_)
  refine lv_iload hx hb dL_refuses_34 (lv_at hl 0 rfl) ?_
  refine lv_if_ne (tgt := 43) hx hb dL_refuses_36 (by decide) (fun c_10 => absurd c_10 (by decide)) (fun c_10 => ?_)
  refine lv_iconst (v := (-1 : Int32)) hx hb dL_refuses_39 (by decide) ?_
  refine lv_goto (tgt := 59) hx hb dL_refuses_40 (by decide) ?_
  refine lv_istore (lv' := [(7, .int (-1 : Int32)), (6, .int (0 : Int32)), (5, .int (2147483647 : Int32)), (4, .int r_8), (3, .int r_6), (2, .int r_4), (1, .int r_2), (0, .ref h0)]) hx hb dL_refuses_59 hl (by decide) rfl (fun ls hl => ?_)
  refine lv_iload hx hb dL_refuses_61 (lv_at hl 1 rfl) ?_
  refine lv_iconst (v := (1 : Int32)) hx hb dL_refuses_63 (by decide) ?_
  refine lv_icmp_ne (tgt := 72) hx hb dL_refuses_64 (by decide) (fun c_11 => ?_) (fun c_11 => absurd c_11 (by decide))
  refine lv_iload hx hb dL_refuses_72 (lv_at hl 0 rfl) ?_
  refine lv_istore (lv' := [(8, .int (-1 : Int32)), (7, .int (-1 : Int32)), (6, .int (0 : Int32)), (5, .int (2147483647 : Int32)), (4, .int r_8), (3, .int r_6), (2, .int r_4), (1, .int r_2), (0, .ref h0)]) hx hb dL_refuses_74 hl (by decide) rfl (fun ls hl => ?_)
  refine lv_iload hx hb dL_refuses_76 (lv_at hl 2 rfl) ?_
  refine lv_if_ne (tgt := 86) hx hb dL_refuses_78 (by decide) (fun c_12 => absurd c_12 (by decide)) (fun c_12 => ?_)
  refine lv_bipush (v := (-2 : Int32)) hx hb dL_refuses_81 (by decide) ?_
  refine lv_goto (tgt := 88) hx hb dL_refuses_83 (by decide) ?_
  refine lv_istore (lv' := [(9, .int (-2 : Int32)), (8, .int (-1 : Int32)), (7, .int (-1 : Int32)), (6, .int (0 : Int32)), (5, .int (2147483647 : Int32)), (4, .int r_8), (3, .int r_6), (2, .int r_4), (1, .int r_2), (0, .ref h0)]) hx hb dL_refuses_88 hl (by decide) rfl (fun ls hl => ?_)
  refine lv_iload hx hb dL_refuses_90 (lv_at hl 3 rfl) ?_
  refine lv_if_ne (tgt := 100) hx hb dL_refuses_92 (by decide) (fun c_13 => absurd c_13 (by decide)) (fun c_13 => ?_)
  refine lv_bipush (v := (-5 : Int32)) hx hb dL_refuses_95 (by decide) ?_
  refine lv_goto (tgt := 102) hx hb dL_refuses_97 (by decide) ?_
  refine lv_istore (lv' := [(10, .int (-5 : Int32)), (9, .int (-2 : Int32)), (8, .int (-1 : Int32)), (7, .int (-1 : Int32)), (6, .int (0 : Int32)), (5, .int (2147483647 : Int32)), (4, .int r_8), (3, .int r_6), (2, .int r_4), (1, .int r_2), (0, .ref h0)]) hx hb dL_refuses_102 hl (by decide) rfl (fun ls hl => ?_)
  refine lv_iload hx hb dL_refuses_104 (lv_at hl 4 rfl) ?_
  refine lv_iconst (v := (1 : Int32)) hx hb dL_refuses_106 (by decide) ?_
  refine lv_icmp_ne (tgt := 114) hx hb dL_refuses_107 (by decide) (fun c_14 => ?_) (fun c_14 => absurd c_14 (by decide))
  refine lv_iload hx hb dL_refuses_114 (lv_at hl 3 rfl) ?_
  refine lv_istore (lv' := [(11, .int (-1 : Int32)), (10, .int (-5 : Int32)), (9, .int (-2 : Int32)), (8, .int (-1 : Int32)), (7, .int (-1 : Int32)), (6, .int (0 : Int32)), (5, .int (2147483647 : Int32)), (4, .int r_8), (3, .int r_6), (2, .int r_4), (1, .int r_2), (0, .ref h0)]) hx hb dL_refuses_116 hl (by decide) rfl (fun ls hl => ?_)
  refine lv_iload hx hb dL_refuses_118 (lv_at hl 5 rfl) ?_
  refine lv_iconst (v := (1 : Int32)) hx hb dL_refuses_120 (by decide) ?_
  refine lv_icmp_ne (tgt := 128) hx hb dL_refuses_121 (by decide) (fun c_15 => ?_) (fun c_15 => absurd c_15 (by decide))
  refine lv_iload hx hb dL_refuses_128 (lv_at hl 4 rfl) ?_
  refine lv_istore (lv' := [(12, .int (-1 : Int32)), (11, .int (-1 : Int32)), (10, .int (-5 : Int32)), (9, .int (-2 : Int32)), (8, .int (-1 : Int32)), (7, .int (-1 : Int32)), (6, .int (0 : Int32)), (5, .int (2147483647 : Int32)), (4, .int r_8), (3, .int r_6), (2, .int r_4), (1, .int r_2), (0, .ref h0)]) hx hb dL_refuses_130 hl (by decide) rfl (fun ls hl => ?_)
  refine lv_iconst (v := (1 : Int32)) hx hb dL_refuses_132 (by decide) ?_
  refine lv_istore (lv' := [(13, .int (1 : Int32)), (12, .int (-1 : Int32)), (11, .int (-1 : Int32)), (10, .int (-5 : Int32)), (9, .int (-2 : Int32)), (8, .int (-1 : Int32)), (7, .int (-1 : Int32)), (6, .int (0 : Int32)), (5, .int (2147483647 : Int32)), (4, .int r_8), (3, .int r_6), (2, .int r_4), (1, .int r_2), (0, .ref h0)]) hx hb dL_refuses_133 hl (by decide) rfl (fun ls hl => ?_)
  refine lv_iconst (v := (0 : Int32)) hx hb dL_refuses_135 (by decide) ?_
  refine lv_istore (lv' := [(14, .int (0 : Int32)), (13, .int (1 : Int32)), (12, .int (-1 : Int32)), (11, .int (-1 : Int32)), (10, .int (-5 : Int32)), (9, .int (-2 : Int32)), (8, .int (-1 : Int32)), (7, .int (-1 : Int32)), (6, .int (0 : Int32)), (5, .int (2147483647 : Int32)), (4, .int r_8), (3, .int r_6), (2, .int r_4), (1, .int r_2), (0, .ref h0)]) hx hb dL_refuses_136 hl (by decide) rfl (fun ls hl => ?_)
  refine lv_iload hx hb dL_refuses_138 (lv_at hl 0 rfl) ?_
  refine lv_iconst (v := (2 : Int32)) hx hb dL_refuses_140 (by decide) ?_
  refine lv_icmp_ge (tgt := 207) hx hb dL_refuses_141 (by decide) (fun c_16 => absurd c_16 (by decide)) (fun c_16 => ?_)
  refine lv_iload hx hb dL_refuses_144 (lv_at hl 1 rfl) ?_
  refine lv_if_eq (tgt := 198) hx hb dL_refuses_146 (by decide) (fun c_17 => absurd c_17 (by decide)) (fun c_17 => ?_)
  refine lv_aload_n hx hb dL_refuses_149 rfl (lv_at hl 14 rfl) ?_
  refine lv_iload hx hb dL_refuses_150 (lv_at hl 0 rfl) ?_
  refine lv_iload hx hb dL_refuses_152 (lv_at hl 6 rfl) ?_
  refine lv_iconst (v := (0 : Int32)) hx hb dL_refuses_154 (by decide) ?_
  refine lv_iconst (v := (0 : Int32)) hx hb dL_refuses_155 (by decide) ?_
  have hFc := frw hD hS hA
  refine vx_calli (SX := Unit) (px := fun _ => False) (BX := fun _ _ _ => True) (AX := A) (vx_runSX0 (vx_runSX (As := [.ref h0, .int (0 : Int32), .int (-1 : Int32), .int (0 : Int32), .int (0 : Int32)]) (rest := []) ⟨hx, hb, hml, hown, hts⟩ (c_L_act l hst dC dI cI h0 h0_1 h0_2 h0_3 h0_4 h0_5 h0_6 h0_7 h0_8 h0_9 h0_10 h0_11 h0_12 h0_13 h0_14 h0_15 h0_16 h0_17 h0_18 h0_19 h0_20 h0_21 h0_22 h0_23 h0_24 h0_25 h0_26 h0_27 h0_28 h0_29 h0_30 _ s0 (0 : Int32) (-1 : Int32) (0 : Int32) (0 : Int32) _ h) (vx_cwSW 5 hts (goodIn_up gB_L_act) rfl rfl rfl (by decide +kernel) ⟨Nat.le_of_ble_eq_true rfl, Nat.le_of_ble_eq_true rfl⟩) (pbl_S hP hK hD hN hX hC hFc hS) rfl rfl hl.1 rfl (lv_room (Nat.le_of_ble_eq_true rfl)) dL_refuses_156 ⟨Nat.le_of_ble_eq_true rfl, Nat.le_of_ble_eq_true rfl⟩)) hS (fun q _ h => hFc q h) hFc (fun q _ h => h) (fun E9 ce9 q9 u t H locs ht hvm h hB hz1 hk1 hS hce hcv hcl => h.elim) (fun r_19 u_18 t H locs ht hvm h hB hz1 hk1 hS => ?_)
  obtain ⟨m_20, m_21, m_22, m_23, hP1, hD1⟩ := hB
  rw [ht] at hP1
  have hP : va_P (dC, dI) vwCl (lwO cI h0 h0_1 h0_2 h0_3 h0_4 h0_5 h0_6 h0_7 h0_8 h0_9 h0_10 h0_11 h0_12 h0_13 h0_14 h0_15 h0_16 h0_17 h0_18 h0_19 h0_20 h0_21 h0_22 m_20 m_21 h0_25 h0_26 m_22 m_23 h0_29 h0_30 u_18) H := hP1
  have hD : va_D A (lwO cI h0 h0_1 h0_2 h0_3 h0_4 h0_5 h0_6 h0_7 h0_8 h0_9 h0_10 h0_11 h0_12 h0_13 h0_14 h0_15 h0_16 h0_17 h0_18 h0_19 h0_20 h0_21 h0_22 m_20 m_21 h0_25 h0_26 m_22 m_23 h0_29 h0_30 u_18) := hD1.weaken (fun _ _ _ h => hFc _ h)
  refine W.widen (k := 2) (n := 12) (Nat.le_of_ble_eq_true rfl) (Nat.le_of_ble_eq_true rfl) ?_
  refine lv_bipush (v := (-92 : Int32)) hx hb dL_refuses_159 (by decide) ?_
  obtain ⟨ht_, hf_⟩ := h
  refine lv_icmp_ne (tgt := 198) hx hb dL_refuses_161 (by decide) (fun c_24 => ?_) (fun c_24 => ?_)
  · have h := ht_ c_24
    exact (show False from h).elim
  · have h := hf_ c_24
    refine lv_aload_n hx hb dL_refuses_164 rfl (lv_at hl 14 rfl) ?_
    refine lv_iload hx hb dL_refuses_165 (lv_at hl 0 rfl) ?_
    refine lv_iconst (v := (0 : Int32)) hx hb dL_refuses_167 (by decide) ?_
    refine lv_iload hx hb dL_refuses_168 (lv_at hl 6 rfl) ?_
    refine lv_iconst (v := (0 : Int32)) hx hb dL_refuses_170 (by decide) ?_
    have hFc := frw hD hS hA
    refine vx_calli (SX := Unit) (px := fun _ => False) (BX := fun _ _ _ => True) (AX := A) (vx_runSX0 (vx_runSX (As := [.ref h0, .int (0 : Int32), .int (0 : Int32), .int (-1 : Int32), .int (0 : Int32)]) (rest := []) ⟨hx, hb, hml, hown, hts⟩ (c_L_act l hst dC dI cI h0 h0_1 h0_2 h0_3 h0_4 h0_5 h0_6 h0_7 h0_8 h0_9 h0_10 h0_11 h0_12 h0_13 h0_14 h0_15 h0_16 h0_17 h0_18 h0_19 h0_20 h0_21 h0_22 m_20 m_21 h0_25 h0_26 m_22 m_23 h0_29 h0_30 _ u_18 (0 : Int32) (0 : Int32) (-1 : Int32) (0 : Int32) _ h) (vx_cwSW 5 hts (goodIn_up gB_L_act) rfl rfl rfl (by decide +kernel) ⟨Nat.le_of_ble_eq_true rfl, Nat.le_of_ble_eq_true rfl⟩) (pbl_S hP hK hD hN hX hC hFc hS) rfl rfl hl.1 rfl (lv_room (Nat.le_of_ble_eq_true rfl)) dL_refuses_171 ⟨Nat.le_of_ble_eq_true rfl, Nat.le_of_ble_eq_true rfl⟩)) hS (fun q _ h => hFc q h) hFc (fun q _ h => h) (fun E9 ce9 q9 u t H locs ht hvm h hB hz1 hk1 hS hce hcv hcl => h.elim) (fun r_26 u_25 t H locs ht hvm h hB hz1 hk1 hS => ?_)
    obtain ⟨m_27, m_28, m_29, m_30, hP1, hD1⟩ := hB
    rw [ht] at hP1
    have hP : va_P (dC, dI) vwCl (lwO cI h0 h0_1 h0_2 h0_3 h0_4 h0_5 h0_6 h0_7 h0_8 h0_9 h0_10 h0_11 h0_12 h0_13 h0_14 h0_15 h0_16 h0_17 h0_18 h0_19 h0_20 h0_21 h0_22 m_27 m_28 h0_25 h0_26 m_29 m_30 h0_29 h0_30 u_25) H := hP1
    have hD : va_D A (lwO cI h0 h0_1 h0_2 h0_3 h0_4 h0_5 h0_6 h0_7 h0_8 h0_9 h0_10 h0_11 h0_12 h0_13 h0_14 h0_15 h0_16 h0_17 h0_18 h0_19 h0_20 h0_21 h0_22 m_27 m_28 h0_25 h0_26 m_29 m_30 h0_29 h0_30 u_25) := hD1.weaken (fun _ _ _ h => hFc _ h)
    refine W.widen (k := 4) (n := 24) (Nat.le_of_ble_eq_true rfl) (Nat.le_of_ble_eq_true rfl) ?_
    refine lv_bipush (v := (-92 : Int32)) hx hb dL_refuses_174 (by decide) ?_
    obtain ⟨ht_, hf_⟩ := h
    refine lv_icmp_ne (tgt := 198) hx hb dL_refuses_176 (by decide) (fun c_31 => ?_) (fun c_31 => ?_)
    · have h := ht_ c_31
      exact (show False from h).elim
    · have h := hf_ c_31
      refine lv_aload_n hx hb dL_refuses_179 rfl (lv_at hl 14 rfl) ?_
      refine lv_iload hx hb dL_refuses_180 (lv_at hl 0 rfl) ?_
      refine lv_iconst (v := (0 : Int32)) hx hb dL_refuses_182 (by decide) ?_
      refine lv_iconst (v := (0 : Int32)) hx hb dL_refuses_183 (by decide) ?_
      refine lv_iload hx hb dL_refuses_184 (lv_at hl 6 rfl) ?_
      have hFc := frw hD hS hA
      refine vx_calli (SX := Unit) (px := fun _ => False) (BX := fun _ _ _ => True) (AX := A) (vx_runSX0 (vx_runSX (As := [.ref h0, .int (0 : Int32), .int (0 : Int32), .int (0 : Int32), .int (-1 : Int32)]) (rest := []) ⟨hx, hb, hml, hown, hts⟩ (c_L_act l hst dC dI cI h0 h0_1 h0_2 h0_3 h0_4 h0_5 h0_6 h0_7 h0_8 h0_9 h0_10 h0_11 h0_12 h0_13 h0_14 h0_15 h0_16 h0_17 h0_18 h0_19 h0_20 h0_21 h0_22 m_27 m_28 h0_25 h0_26 m_29 m_30 h0_29 h0_30 _ u_25 (0 : Int32) (0 : Int32) (0 : Int32) (-1 : Int32) _ h) (vx_cwSW 5 hts (goodIn_up gB_L_act) rfl rfl rfl (by decide +kernel) ⟨Nat.le_of_ble_eq_true rfl, Nat.le_of_ble_eq_true rfl⟩) (pbl_S hP hK hD hN hX hC hFc hS) rfl rfl hl.1 rfl (lv_room (Nat.le_of_ble_eq_true rfl)) dL_refuses_186 ⟨Nat.le_of_ble_eq_true rfl, Nat.le_of_ble_eq_true rfl⟩)) hS (fun q _ h => hFc q h) hFc (fun q _ h => h) (fun E9 ce9 q9 u t H locs ht hvm h hB hz1 hk1 hS hce hcv hcl => h.elim) (fun r_33 u_32 t H locs ht hvm h hB hz1 hk1 hS => ?_)
      obtain ⟨m_34, m_35, m_36, m_37, hP1, hD1⟩ := hB
      rw [ht] at hP1
      have hP : va_P (dC, dI) vwCl (lwO cI h0 h0_1 h0_2 h0_3 h0_4 h0_5 h0_6 h0_7 h0_8 h0_9 h0_10 h0_11 h0_12 h0_13 h0_14 h0_15 h0_16 h0_17 h0_18 h0_19 h0_20 h0_21 h0_22 m_34 m_35 h0_25 h0_26 m_36 m_37 h0_29 h0_30 u_32) H := hP1
      have hD : va_D A (lwO cI h0 h0_1 h0_2 h0_3 h0_4 h0_5 h0_6 h0_7 h0_8 h0_9 h0_10 h0_11 h0_12 h0_13 h0_14 h0_15 h0_16 h0_17 h0_18 h0_19 h0_20 h0_21 h0_22 m_34 m_35 h0_25 h0_26 m_36 m_37 h0_29 h0_30 u_32) := hD1.weaken (fun _ _ _ h => hFc _ h)
      refine W.widen (k := 6) (n := 36) (Nat.le_of_ble_eq_true rfl) (Nat.le_of_ble_eq_true rfl) ?_
      refine lv_bipush (v := (-92 : Int32)) hx hb dL_refuses_189 (by decide) ?_
      obtain ⟨ht_, hf_⟩ := h
      refine lv_icmp_ne (tgt := 198) hx hb dL_refuses_191 (by decide) (fun c_38 => ?_) (fun c_38 => ?_)
      · have h := ht_ c_38
        exact (show False from h).elim
      · have h := hf_ c_38
        have hl : lv_has ls 15 [(0, .ref h0), (1, .int r_2), (2, .int r_4), (3, .int r_6), (4, .int r_8), (5, .int (2147483647 : Int32)), (6, .int (0 : Int32)), (7, .int (-1 : Int32)), (8, .int (-1 : Int32)), (9, .int (-2 : Int32)), (10, .int (-5 : Int32)), (11, .int (-1 : Int32)), (12, .int (-1 : Int32)), (14, .int (0 : Int32))] := lv_sub hl [14, 13, 12, 11, 10, 9, 8, 7, 6, 5, 4, 3, 2, 0] rfl
        refine W.widen (k := 6) (n := 36) (Nat.le_of_ble_eq_true rfl) (Nat.le_of_ble_eq_true rfl) ?_
        exact sg_L_refuses_1 l hst C0 hK hN hX hC hA h0_1 h0_2 h0_3 h0_4 h0_5 h0_6 h0_7 h0_8 h0_9 h0_10 h0_11 h0_12 h0_13 h0_14 h0_15 h0_16 h0_17 h0_18 h0_19 h0_20 h0_21 h0_22 h0_25 h0_26 h0_29 h0_30 _ u_32 r_2 r_4 r_6 r_8 h m_34 m_35 m_36 m_37 _ _ hP hD hS _ hl
