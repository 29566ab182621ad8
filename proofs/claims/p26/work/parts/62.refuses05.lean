set_option maxHeartbeats 4000000 in
set_option maxRecDepth 100000 in
theorem sg_L_refuses_4 (l : Launch) (hst : l.stackTraces = false) {p : Program} {e : Env} {s : State} {m : MethodId} {below : List Frame} {meth : Method} {c : Code} {h0 : Nat} (C0 : LC p s m (([.ref h0] : List Value).toArray) meth c cL_refuses 15 wq_refuses) {dC : Nat → ClassId} {dI : Nat → Nat → Nat} {cI : ClassId} (hK : va_K (dC, dI) vwCl [(cI, .int)] s) (hN : nk s) {A : Nat → Prop} (hX : xj A s) (hC : xnc s) (hA : ∀ q : Nat, s.heap.size ≤ q → A q) (h0_1 h0_2 h0_3 h0_4 h0_5 h0_6 h0_7 h0_8 h0_9 h0_10 h0_11 h0_12 h0_13 h0_14 h0_15 h0_16 h0_17 h0_18 h0_19 h0_20 h0_21 h0_22 h0_25 h0_26 h0_29 h0_30 : Nat) (post : Int32 → TriS → Prop) (s0 : TriS) (v1 : Int32) (v2 : Int32) (v3 : Int32) (v4 : Int32) (h : P_L_refuses_4 s0 v1 v2 v3 v4 post) (h0_23 h0_24 h0_27 h0_28 : Nat) (H : Heap) (locs : List Loc) (hP : va_P (dC, dI) vwCl (lwO cI h0 h0_1 h0_2 h0_3 h0_4 h0_5 h0_6 h0_7 h0_8 h0_9 h0_10 h0_11 h0_12 h0_13 h0_14 h0_15 h0_16 h0_17 h0_18 h0_19 h0_20 h0_21 h0_22 h0_23 h0_24 h0_25 h0_26 h0_27 h0_28 h0_29 h0_30 s0) H) (hD : va_D A (lwO cI h0 h0_1 h0_2 h0_3 h0_4 h0_5 h0_6 h0_7 h0_8 h0_9 h0_10 h0_11 h0_12 h0_13 h0_14 h0_15 h0_16 h0_17 h0_18 h0_19 h0_20 h0_21 h0_22 h0_23 h0_24 h0_25 h0_26 h0_27 h0_28 h0_29 h0_30 s0)) (hS : va_S A s.heap H locs) (ls : Array Slot) (hl : lv_has ls 15 [(0, .ref h0), (1, .int v1), (2, .int v2), (3, .int v3), (4, .int v4), (5, .int (2147483647 : Int32)), (6, .int (0 : Int32)), (12, .int (-1 : Int32))]) : W p l e rm_L_refuses s m (([.ref h0] : List Value).toArray) below meth c H locs 46 276 (MQ below (Q_L_refuses dC dI cI h0 h0_1 h0_2 h0_3 h0_4 h0_5 h0_6 h0_7 h0_8 h0_9 h0_10 h0_11 h0_12 h0_13 h0_14 h0_15 h0_16 h0_17 h0_18 h0_19 h0_20 h0_21 h0_22 h0_23 h0_24 h0_25 h0_26 h0_27 h0_28 h0_29 h0_30 A post) (([.ref h0] : List Value).toArray) s mc_L_refuses ms_L_refuses A) (F0 m 528 ls []) := by
  obtain ⟨hx, hb, hr, hml, hown, hts, hlocks⟩ := id C0
  refine lv_aload_n hx hb dL_refuses_528 rfl (lv_at hl 0 rfl) ?_
  refine lv_bipush (v := (14 : Int32)) hx hb dL_refuses_529 (by decide) ?_
  refine lv_iload hx hb dL_refuses_531 (lv_at hl 7 rfl) ?_
  refine lv_iconst (v := (0 : Int32)) hx hb dL_refuses_533 (by decide) ?_
  refine lv_iconst (v := (0 : Int32)) hx hb dL_refuses_534 (by decide) ?_
  have hFc := frw hD hS hA
  refine vx_calli (SX := Unit) (px := fun _ => False) (BX := fun _ _ _ => True) (AX := A) (vx_runSX0 (vx_runSX (As := [.ref h0, .int (14 : Int32), .int (-1 : Int32), .int (0 : Int32), .int (0 : Int32)]) (rest := []) ⟨hx, hb, hml, hown, hts⟩ (c_L_act l hst dC dI cI h0 h0_1 h0_2 h0_3 h0_4 h0_5 h0_6 h0_7 h0_8 h0_9 h0_10 h0_11 h0_12 h0_13 h0_14 h0_15 h0_16 h0_17 h0_18 h0_19 h0_20 h0_21 h0_22 h0_23 h0_24 h0_25 h0_26 h0_27 h0_28 h0_29 h0_30 _ s0 (14 : Int32) (-1 : Int32) (0 : Int32) (0 : Int32) _ h) (vx_cwSW 5 hts (goodIn_up gB_L_act) rfl rfl rfl (by decide +kernel) ⟨Nat.le_of_ble_eq_true rfl, Nat.le_of_ble_eq_true rfl⟩) (pbl_S hP hK hD hN hX hC hFc hS) rfl rfl hl.1 rfl (lv_room (Nat.le_of_ble_eq_true rfl)) dL_refuses_535 ⟨Nat.le_of_ble_eq_true rfl, Nat.le_of_ble_eq_true rfl⟩)) hS (fun q _ h => hFc q h) hFc (fun q _ h => h) (fun E9 ce9 q9 u t H locs ht hvm h hB hz1 hk1 hS hce hcv hcl => h.elim) (fun r_191 u_190 t H locs ht hvm h hB hz1 hk1 hS => ?_)
  obtain ⟨m_192, m_193, m_194, m_195, hP1, hD1⟩ := hB
  rw [ht] at hP1
  have hP : va_P (dC, dI) vwCl (lwO cI h0 h0_1 h0_2 h0_3 h0_4 h0_5 h0_6 h0_7 h0_8 h0_9 h0_10 h0_11 h0_12 h0_13 h0_14 h0_15 h0_16 h0_17 h0_18 h0_19 h0_20 h0_21 h0_22 m_192 m_193 h0_25 h0_26 m_194 m_195 h0_29 h0_30 u_190) H := hP1
  have hD : va_D A (lwO cI h0 h0_1 h0_2 h0_3 h0_4 h0_5 h0_6 h0_7 h0_8 h0_9 h0_10 h0_11 h0_12 h0_13 h0_14 h0_15 h0_16 h0_17 h0_18 h0_19 h0_20 h0_21 h0_22 m_192 m_193 h0_25 h0_26 m_194 m_195 h0_29 h0_30 u_190) := hD1.weaken (fun _ _ _ h => hFc _ h)
  refine W.widen (k := 48) (n := 288) (Nat.le_of_ble_eq_true rfl) (Nat.le_of_ble_eq_true rfl) ?_
  refine lv_bipush (v := (-92 : Int32)) hx hb dL_refuses_538 (by decide) ?_
  obtain ⟨ht_, hf_⟩ := h
  refine lv_icmp_ne (tgt := 547) hx hb dL_refuses_540 (by decide) (fun c_196 => ?_) (fun c_196 => ?_)
  · have h := ht_ c_196
    exact (show False from h).elim
  · have h := hf_ c_196
    refine lv_iconst (v := (1 : Int32)) hx hb dL_refuses_543 (by decide) ?_
    refine lv_goto (tgt := 548) hx hb dL_refuses_544 (by decide) ?_
    refine lv_istore (lv' := [(13, .int (1 : Int32)), (0, .ref h0), (1, .int v1), (2, .int v2), (3, .int v3), (4, .int v4), (5, .int (2147483647 : Int32)), (6, .int (0 : Int32)), (12, .int (-1 : Int32))]) hx hb dL_refuses_548 hl (by decide) rfl (fun ls hl => ?_)
    refine lv_iload hx hb dL_refuses_550 (lv_at hl 0 rfl) ?_
    refine lv_if_ne (tgt := 557) hx hb dL_refuses_552 (by decide) (fun c_197 => ?_) (fun c_197 => absurd c_197 (by decide))
    refine lv_iinc (v := (1 : Int32)) (lv' := [(6, .int (1 : Int32)), (13, .int (1 : Int32)), (0, .ref h0), (1, .int v1), (2, .int v2), (3, .int v3), (4, .int v4), (5, .int (2147483647 : Int32)), (12, .int (-1 : Int32))]) hx hb dL_refuses_557 hl (k := 7) rfl (by decide) (by decide) rfl (fun ls hl => ?_)
    refine lv_goto (tgt := 28) hx hb dL_refuses_560 (by decide) ?_
    refine lv_iload hx hb dL_refuses_28 (lv_at hl 0 rfl) ?_
    refine lv_iconst (v := (4 : Int32)) hx hb dL_refuses_30 (by decide) ?_
    refine lv_icmp_ge (tgt := 563) hx hb dL_refuses_31 (by decide) (fun c_198 => absurd c_198 (by decide)) (fun c_198 => ?_)
    refine lv_iload hx hb dL_refuses_34 (lv_at hl 0 rfl) ?_
    refine lv_if_ne (tgt := 43) hx hb dL_refuses_36 (by decide) (fun c_199 => ?_) (fun c_199 => absurd c_199 (by decide))
    refine lv_iload hx hb dL_refuses_43 (lv_at hl 0 rfl) ?_
    refine lv_iconst (v := (2 : Int32)) hx hb dL_refuses_45 (by decide) ?_
    refine lv_icmp_ne (tgt := 54) hx hb dL_refuses_46 (by decide) (fun c_200 => ?_) (fun c_200 => absurd c_200 (by decide))
    refine lv_iload hx hb dL_refuses_54 (lv_at hl 7 rfl) ?_
    refine lv_ineg hx hb dL_refuses_56 ?_
    refine lv_lit (b := (-2147483647 : Int32)) (by decide) ?_
    refine lv_iconst (v := (1 : Int32)) hx hb dL_refuses_57 (by decide) ?_
    refine lv_isub hx hb dL_refuses_58 ?_
    refine lv_lit (b := (-2147483648 : Int32)) (by decide) ?_
    refine lv_istore (lv' := [(7, .int (-2147483648 : Int32)), (6, .int (1 : Int32)), (13, .int (1 : Int32)), (0, .ref h0), (1, .int v1), (2, .int v2), (3, .int v3), (4, .int v4), (5, .int (2147483647 : Int32)), (12, .int (-1 : Int32))]) hx hb dL_refuses_59 hl (by decide) rfl (fun ls hl => ?_)
    refine lv_iload hx hb dL_refuses_61 (lv_at hl 1 rfl) ?_
    refine lv_iconst (v := (1 : Int32)) hx hb dL_refuses_63 (by decide) ?_
    refine lv_icmp_ne (tgt := 72) hx hb dL_refuses_64 (by decide) (fun c_201 => absurd c_201 (by decide)) (fun c_201 => ?_)
    refine lv_bipush (v := (100 : Int32)) hx hb dL_refuses_67 (by decide) ?_
    refine lv_goto (tgt := 74) hx hb dL_refuses_69 (by decide) ?_
    refine lv_istore (lv' := [(8, .int (100 : Int32)), (7, .int (-2147483648 : Int32)), (6, .int (1 : Int32)), (13, .int (1 : Int32)), (0, .ref h0), (1, .int v1), (2, .int v2), (3, .int v3), (4, .int v4), (5, .int (2147483647 : Int32)), (12, .int (-1 : Int32))]) hx hb dL_refuses_74 hl (by decide) rfl (fun ls hl => ?_)
    refine lv_iload hx hb dL_refuses_76 (lv_at hl 2 rfl) ?_
    refine lv_if_ne (tgt := 86) hx hb dL_refuses_78 (by decide) (fun c_202 => ?_) (fun c_202 => absurd c_202 (by decide))
    refine lv_iload hx hb dL_refuses_86 (lv_at hl 0 rfl) ?_
    refine lv_istore (lv' := [(9, .int (100 : Int32)), (8, .int (100 : Int32)), (7, .int (-2147483648 : Int32)), (6, .int (1 : Int32)), (13, .int (1 : Int32)), (0, .ref h0), (1, .int v1), (2, .int v2), (3, .int v3), (4, .int v4), (5, .int (2147483647 : Int32)), (12, .int (-1 : Int32))]) hx hb dL_refuses_88 hl (by decide) rfl (fun ls hl => ?_)
    refine lv_iload hx hb dL_refuses_90 (lv_at hl 3 rfl) ?_
    refine lv_if_ne (tgt := 100) hx hb dL_refuses_92 (by decide) (fun c_203 => ?_) (fun c_203 => absurd c_203 (by decide))
    refine lv_iload hx hb dL_refuses_100 (lv_at hl 1 rfl) ?_
    refine lv_istore (lv' := [(10, .int (100 : Int32)), (9, .int (100 : Int32)), (8, .int (100 : Int32)), (7, .int (-2147483648 : Int32)), (6, .int (1 : Int32)), (13, .int (1 : Int32)), (0, .ref h0), (1, .int v1), (2, .int v2), (3, .int v3), (4, .int v4), (5, .int (2147483647 : Int32)), (12, .int (-1 : Int32))]) hx hb dL_refuses_102 hl (by decide) rfl (fun ls hl => ?_)
    refine lv_iload hx hb dL_refuses_104 (lv_at hl 4 rfl) ?_
    refine lv_iconst (v := (1 : Int32)) hx hb dL_refuses_106 (by decide) ?_
    refine lv_icmp_ne (tgt := 114) hx hb dL_refuses_107 (by decide) (fun c_204 => absurd c_204 (by decide)) (fun c_204 => ?_)
    refine lv_iconst (v := (3 : Int32)) hx hb dL_refuses_110 (by decide) ?_
    refine lv_goto (tgt := 116) hx hb dL_refuses_111 (by decide) ?_
    refine lv_istore (lv' := [(11, .int (3 : Int32)), (10, .int (100 : Int32)), (9, .int (100 : Int32)), (8, .int (100 : Int32)), (7, .int (-2147483648 : Int32)), (6, .int (1 : Int32)), (13, .int (1 : Int32)), (0, .ref h0), (1, .int v1), (2, .int v2), (3, .int v3), (4, .int v4), (5, .int (2147483647 : Int32)), (12, .int (-1 : Int32))]) hx hb dL_refuses_116 hl (by decide) rfl (fun ls hl => ?_)
    refine lv_iload hx hb dL_refuses_118 (lv_at hl 5 rfl) ?_
    refine lv_iconst (v := (1 : Int32)) hx hb dL_refuses_120 (by decide) ?_
    refine lv_icmp_ne (tgt := 128) hx hb dL_refuses_121 (by decide) (fun c_205 => absurd c_205 (by decide)) (fun c_205 => ?_)
    refine lv_iconst (v := (4 : Int32)) hx hb dL_refuses_124 (by decide) ?_
    refine lv_goto (tgt := 130) hx hb dL_refuses_125 (by decide) ?_
    refine lv_istore (lv' := [(12, .int (4 : Int32)), (11, .int (3 : Int32)), (10, .int (100 : Int32)), (9, .int (100 : Int32)), (8, .int (100 : Int32)), (7, .int (-2147483648 : Int32)), (6, .int (1 : Int32)), (13, .int (1 : Int32)), (0, .ref h0), (1, .int v1), (2, .int v2), (3, .int v3), (4, .int v4), (5, .int (2147483647 : Int32))]) hx hb dL_refuses_130 hl (by decide) rfl (fun ls hl => ?_)
    refine lv_iconst (v := (1 : Int32)) hx hb dL_refuses_132 (by decide) ?_
    refine lv_istore (lv' := [(13, .int (1 : Int32)), (12, .int (4 : Int32)), (11, .int (3 : Int32)), (10, .int (100 : Int32)), (9, .int (100 : Int32)), (8, .int (100 : Int32)), (7, .int (-2147483648 : Int32)), (6, .int (1 : Int32)), (0, .ref h0), (1, .int v1), (2, .int v2), (3, .int v3), (4, .int v4), (5, .int (2147483647 : Int32))]) hx hb dL_refuses_133 hl (by decide) rfl (fun ls hl => ?_)
    refine lv_iconst (v := (0 : Int32)) hx hb dL_refuses_135 (by decide) ?_
    refine lv_istore (lv' := [(14, .int (0 : Int32)), (13, .int (1 : Int32)), (12, .int (4 : Int32)), (11, .int (3 : Int32)), (10, .int (100 : Int32)), (9, .int (100 : Int32)), (8, .int (100 : Int32)), (7, .int (-2147483648 : Int32)), (6, .int (1 : Int32)), (0, .ref h0), (1, .int v1), (2, .int v2), (3, .int v3), (4, .int v4), (5, .int (2147483647 : Int32))]) hx hb dL_refuses_136 hl (by decide) rfl (fun ls hl => ?_)
    refine lv_iload hx hb dL_refuses_138 (lv_at hl 0 rfl) ?_
    refine lv_iconst (v := (2 : Int32)) hx hb dL_refuses_140 (by decide) ?_
    refine lv_icmp_ge (tgt := 207) hx hb dL_refuses_141 (by decide) (fun c_206 => absurd c_206 (by decide)) (fun c_206 => ?_)
    refine lv_iload hx hb dL_refuses_144 (lv_at hl 1 rfl) ?_
    refine lv_if_eq (tgt := 198) hx hb dL_refuses_146 (by decide) (fun c_207 => absurd c_207 (by decide)) (fun c_207 => ?_)
    refine lv_aload_n hx hb dL_refuses_149 rfl (lv_at hl 9 rfl) ?_
    refine lv_iload hx hb dL_refuses_150 (lv_at hl 0 rfl) ?_
    refine lv_iload hx hb dL_refuses_152 (lv_at hl 6 rfl) ?_
    refine lv_iconst (v := (0 : Int32)) hx hb dL_refuses_154 (by decide) ?_
    refine lv_iconst (v := (0 : Int32)) hx hb dL_refuses_155 (by decide) ?_
    have hFc := frw hD hS hA
    refine vx_calli (SX := Unit) (px := fun _ => False) (BX := fun _ _ _ => True) (AX := A) (vx_runSX0 (vx_runSX (As := [.ref h0, .int (0 : Int32), .int (100 : Int32), .int (0 : Int32), .int (0 : Int32)]) (rest := []) ⟨hx, hb, hml, hown, hts⟩ (c_L_act l hst dC dI cI h0 h0_1 h0_2 h0_3 h0_4 h0_5 h0_6 h0_7 h0_8 h0_9 h0_10 h0_11 h0_12 h0_13 h0_14 h0_15 h0_16 h0_17 h0_18 h0_19 h0_20 h0_21 h0_22 m_192 m_193 h0_25 h0_26 m_194 m_195 h0_29 h0_30 _ u_190 (0 : Int32) (100 : Int32) (0 : Int32) (0 : Int32) _ h) (vx_cwSW 5 hts (goodIn_up gB_L_act) rfl rfl rfl (by decide +kernel) ⟨Nat.le_of_ble_eq_true rfl, Nat.le_of_ble_eq_true rfl⟩) (pbl_S hP hK hD hN hX hC hFc hS) rfl rfl hl.1 rfl (lv_room (Nat.le_of_ble_eq_true rfl)) dL_refuses_156 ⟨Nat.le_of_ble_eq_true rfl, Nat.le_of_ble_eq_true rfl⟩)) hS (fun q _ h => hFc q h) hFc (fun q _ h => h) (fun E9 ce9 q9 u t H locs ht hvm h hB hz1 hk1 hS hce hcv hcl => h.elim) (fun r_209 u_208 t H locs ht hvm h hB hz1 hk1 hS => ?_)
    obtain ⟨m_210, m_211, m_212, m_213, hP1, hD1⟩ := hB
    rw [ht] at hP1
    have hP : va_P (dC, dI) vwCl (lwO cI h0 h0_1 h0_2 h0_3 h0_4 h0_5 h0_6 h0_7 h0_8 h0_9 h0_10 h0_11 h0_12 h0_13 h0_14 h0_15 h0_16 h0_17 h0_18 h0_19 h0_20 h0_21 h0_22 m_210 m_211 h0_25 h0_26 m_212 m_213 h0_29 h0_30 u_208) H := hP1
    have hD : va_D A (lwO cI h0 h0_1 h0_2 h0_3 h0_4 h0_5 h0_6 h0_7 h0_8 h0_9 h0_10 h0_11 h0_12 h0_13 h0_14 h0_15 h0_16 h0_17 h0_18 h0_19 h0_20 h0_21 h0_22 m_210 m_211 h0_25 h0_26 m_212 m_213 h0_29 h0_30 u_208) := hD1.weaken (fun _ _ _ h => hFc _ h)
    refine W.widen (k := 50) (n := 300) (Nat.le_of_ble_eq_true rfl) (Nat.le_of_ble_eq_true rfl) ?_
    refine lv_bipush (v := (-92 : Int32)) hx hb dL_refuses_159 (by decide) ?_
    obtain ⟨ht_, hf_⟩ := h
    refine lv_icmp_ne (tgt := 198) hx hb dL_refuses_161 (by decide) (fun c_214 => ?_) (fun c_214 => ?_)
    · have h := ht_ c_214
      exact (show False from h).elim
    · have h := hf_ c_214
      refine lv_aload_n hx hb dL_refuses_164 rfl (lv_at hl 9 rfl) ?_
      refine lv_iload hx hb dL_refuses_165 (lv_at hl 0 rfl) ?_
      refine lv_iconst (v := (0 : Int32)) hx hb dL_refuses_167 (by decide) ?_
      refine lv_iload hx hb dL_refuses_168 (lv_at hl 6 rfl) ?_
      refine lv_iconst (v := (0 : Int32)) hx hb dL_refuses_170 (by decide) ?_
      have hFc := frw hD hS hA
      refine vx_calli (SX := Unit) (px := fun _ => False) (BX := fun _ _ _ => True) (AX := A) (vx_runSX0 (vx_runSX (As := [.ref h0, .int (0 : Int32), .int (0 : Int32), .int (100 : Int32), .int (0 : Int32)]) (rest := []) ⟨hx, hb, hml, hown, hts⟩ (c_L_act l hst dC dI cI h0 h0_1 h0_2 h0_3 h0_4 h0_5 h0_6 h0_7 h0_8 h0_9 h0_10 h0_11 h0_12 h0_13 h0_14 h0_15 h0_16 h0_17 h0_18 h0_19 h0_20 h0_21 h0_22 m_210 m_211 h0_25 h0_26 m_212 m_213 h0_29 h0_30 _ u_208 (0 : Int32) (0 : Int32) (100 : Int32) (0 : Int32) _ h) (vx_cwSW 5 hts (goodIn_up gB_L_act) rfl rfl rfl (by decide +kernel) ⟨Nat.le_of_ble_eq_true rfl, Nat.le_of_ble_eq_true rfl⟩) (pbl_S hP hK hD hN hX hC hFc hS) rfl rfl hl.1 rfl (lv_room (Nat.le_of_ble_eq_true rfl)) dL_refuses_171 ⟨Nat.le_of_ble_eq_true rfl, Nat.le_of_ble_eq_true rfl⟩)) hS (fun q _ h => hFc q h) hFc (fun q _ h => h) (fun E9 ce9 q9 u t H locs ht hvm h hB hz1 hk1 hS hce hcv hcl => h.elim) (fun r_216 u_215 t H locs ht hvm h hB hz1 hk1 hS => ?_)
      obtain ⟨m_217, m_218, m_219, m_220, hP1, hD1⟩ := hB
      rw [ht] at hP1
      have hP : va_P (dC, dI) vwCl (lwO cI h0 h0_1 h0_2 h0_3 h0_4 h0_5 h0_6 h0_7 h0_8 h0_9 h0_10 h0_11 h0_12 h0_13 h0_14 h0_15 h0_16 h0_17 h0_18 h0_19 h0_20 h0_21 h0_22 m_217 m_218 h0_25 h0_26 m_219 m_220 h0_29 h0_30 u_215) H := hP1
      have hD : va_D A (lwO cI h0 h0_1 h0_2 h0_3 h0_4 h0_5 h0_6 h0_7 h0_8 h0_9 h0_10 h0_11 h0_12 h0_13 h0_14 h0_15 h0_16 h0_17 h0_18 h0_19 h0_20 h0_21 h0_22 m_217 m_218 h0_25 h0_26 m_219 m_220 h0_29 h0_30 u_215) := hD1.weaken (fun _ _ _ h => hFc _ h)
      refine W.widen (k := 52) (n := 312) (Nat.le_of_ble_eq_true rfl) (Nat.le_of_ble_eq_true rfl) ?_
      refine lv_bipush (v := (-92 : Int32)) hx hb dL_refuses_174 (by decide) ?_
      obtain ⟨ht_, hf_⟩ := h
      refine lv_icmp_ne (tgt := 198) hx hb dL_refuses_176 (by decide) (fun c_221 => ?_) (fun c_221 => ?_)
      · have h := ht_ c_221
        exact (show False from h).elim
      · have h := hf_ c_221
        refine lv_aload_n hx hb dL_refuses_179 rfl (lv_at hl 9 rfl) ?_
        refine lv_iload hx hb dL_refuses_180 (lv_at hl 0 rfl) ?_
        refine lv_iconst (v := (0 : Int32)) hx hb dL_refuses_182 (by decide) ?_
        refine lv_iconst (v := (0 : Int32)) hx hb dL_refuses_183 (by decide) ?_
        refine lv_iload hx hb dL_refuses_184 (lv_at hl 6 rfl) ?_
        have hFc := frw hD hS hA
        refine vx_calli (SX := Unit) (px := fun _ => False) (BX := fun _ _ _ => True) (AX := A) (vx_runSX0 (vx_runSX (As := [.ref h0, .int (0 : Int32), .int (0 : Int32), .int (0 : Int32), .int (100 : Int32)]) (rest := []) ⟨hx, hb, hml, hown, hts⟩ (c_L_act l hst dC dI cI h0 h0_1 h0_2 h0_3 h0_4 h0_5 h0_6 h0_7 h0_8 h0_9 h0_10 h0_11 h0_12 h0_13 h0_14 h0_15 h0_16 h0_17 h0_18 h0_19 h0_20 h0_21 h0_22 m_217 m_218 h0_25 h0_26 m_219 m_220 h0_29 h0_30 _ u_215 (0 : Int32) (0 : Int32) (0 : Int32) (100 : Int32) _ h) (vx_cwSW 5 hts (goodIn_up gB_L_act) rfl rfl rfl (by decide +kernel) ⟨Nat.le_of_ble_eq_true rfl, Nat.le_of_ble_eq_true rfl⟩) (pbl_S hP hK hD hN hX hC hFc hS) rfl rfl hl.1 rfl (lv_room (Nat.le_of_ble_eq_true rfl)) dL_refuses_186 ⟨Nat.le_of_ble_eq_true rfl, Nat.le_of_ble_eq_true rfl⟩)) hS (fun q _ h => hFc q h) hFc (fun q _ h => h) (fun E9 ce9 q9 u t H locs ht hvm h hB hz1 hk1 hS hce hcv hcl => h.elim) (fun r_223 u_222 t H locs ht hvm h hB hz1 hk1 hS => ?_)
        obtain ⟨m_224, m_225, m_226, m_227, hP1, hD1⟩ := hB
        rw [ht] at hP1
        have hP : va_P (dC, dI) vwCl (lwO cI h0 h0_1 h0_2 h0_3 h0_4 h0_5 h0_6 h0_7 h0_8 h0_9 h0_10 h0_11 h0_12 h0_13 h0_14 h0_15 h0_16 h0_17 h0_18 h0_19 h0_20 h0_21 h0_22 m_224 m_225 h0_25 h0_26 m_226 m_227 h0_29 h0_30 u_222) H := hP1
        have hD : va_D A (lwO cI h0 h0_1 h0_2 h0_3 h0_4 h0_5 h0_6 h0_7 h0_8 h0_9 h0_10 h0_11 h0_12 h0_13 h0_14 h0_15 h0_16 h0_17 h0_18 h0_19 h0_20 h0_21 h0_22 m_224 m_225 h0_25 h0_26 m_226 m_227 h0_29 h0_30 u_222) := hD1.weaken (fun _ _ _ h => hFc _ h)
        refine W.widen (k := 54) (n := 324) (Nat.le_of_ble_eq_true rfl) (Nat.le_of_ble_eq_true rfl) ?_
        refine lv_bipush (v := (-92 : Int32)) hx hb dL_refuses_189 (by decide) ?_
        obtain ⟨ht_, hf_⟩ := h
        refine lv_icmp_ne (tgt := 198) hx hb dL_refuses_191 (by decide) (fun c_228 => ?_) (fun c_228 => ?_)
        · have h := ht_ c_228
          exact (show False from h).elim
        · have h := hf_ c_228
          refine lv_iconst (v := (1 : Int32)) hx hb dL_refuses_194 (by decide) ?_
          refine lv_goto (tgt := 199) hx hb dL_refuses_195 (by decide) ?_
          refine lv_istore (lv' := [(13, .int (1 : Int32)), (14, .int (0 : Int32)), (12, .int (4 : Int32)), (11, .int (3 : Int32)), (10, .int (100 : Int32)), (9, .int (100 : Int32)), (8, .int (100 : Int32)), (7, .int (-2147483648 : Int32)), (6, .int (1 : Int32)), (0, .ref h0), (1, .int v1), (2, .int v2), (3, .int v3), (4, .int v4), (5, .int (2147483647 : Int32))]) hx hb dL_refuses_199 hl (by decide) rfl (fun ls hl => ?_)
          refine lv_iinc (v := (1 : Int32)) (lv' := [(14, .int (1 : Int32)), (13, .int (1 : Int32)), (12, .int (4 : Int32)), (11, .int (3 : Int32)), (10, .int (100 : Int32)), (9, .int (100 : Int32)), (8, .int (100 : Int32)), (7, .int (-2147483648 : Int32)), (6, .int (1 : Int32)), (0, .ref h0), (1, .int v1), (2, .int v2), (3, .int v3), (4, .int v4), (5, .int (2147483647 : Int32))]) hx hb dL_refuses_201 hl (k := 1) rfl (by decide) (by decide) rfl (fun ls hl => ?_)
          refine lv_goto (tgt := 138) hx hb dL_refuses_204 (by decide) ?_
          refine lv_iload hx hb dL_refuses_138 (lv_at hl 0 rfl) ?_
          refine lv_iconst (v := (2 : Int32)) hx hb dL_refuses_140 (by decide) ?_
          refine lv_icmp_ge (tgt := 207) hx hb dL_refuses_141 (by decide) (fun c_229 => absurd c_229 (by decide)) (fun c_229 => ?_)
          refine lv_iload hx hb dL_refuses_144 (lv_at hl 1 rfl) ?_
          refine lv_if_eq (tgt := 198) hx hb dL_refuses_146 (by decide) (fun c_230 => absurd c_230 (by decide)) (fun c_230 => ?_)
          refine lv_aload_n hx hb dL_refuses_149 rfl (lv_at hl 9 rfl) ?_
          refine lv_iload hx hb dL_refuses_150 (lv_at hl 0 rfl) ?_
          refine lv_iload hx hb dL_refuses_152 (lv_at hl 6 rfl) ?_
          refine lv_iconst (v := (0 : Int32)) hx hb dL_refuses_154 (by decide) ?_
          refine lv_iconst (v := (0 : Int32)) hx hb dL_refuses_155 (by decide) ?_
          have hFc := frw hD hS hA
          refine vx_calli (SX := Unit) (px := fun _ => False) (BX := fun _ _ _ => True) (AX := A) (vx_runSX0 (vx_runSX (As := [.ref h0, .int (1 : Int32), .int (100 : Int32), .int (0 : Int32), .int (0 : Int32)]) (rest := []) ⟨hx, hb, hml, hown, hts⟩ (c_L_act l hst dC dI cI h0 h0_1 h0_2 h0_3 h0_4 h0_5 h0_6 h0_7 h0_8 h0_9 h0_10 h0_11 h0_12 h0_13 h0_14 h0_15 h0_16 h0_17 h0_18 h0_19 h0_20 h0_21 h0_22 m_224 m_225 h0_25 h0_26 m_226 m_227 h0_29 h0_30 _ u_222 (1 : Int32) (100 : Int32) (0 : Int32) (0 : Int32) _ h) (vx_cwSW 5 hts (goodIn_up gB_L_act) rfl rfl rfl (by decide +kernel) ⟨Nat.le_of_ble_eq_true rfl, Nat.le_of_ble_eq_true rfl⟩) (pbl_S hP hK hD hN hX hC hFc hS) rfl rfl hl.1 rfl (lv_room (Nat.le_of_ble_eq_true rfl)) dL_refuses_156 ⟨Nat.le_of_ble_eq_true rfl, Nat.le_of_ble_eq_true rfl⟩)) hS (fun q _ h => hFc q h) hFc (fun q _ h => h) (fun E9 ce9 q9 u t H locs ht hvm h hB hz1 hk1 hS hce hcv hcl => h.elim) (fun r_232 u_231 t H locs ht hvm h hB hz1 hk1 hS => ?_)
          obtain ⟨m_233, m_234, m_235, m_236, hP1, hD1⟩ := hB
          rw [ht] at hP1
          have hP : va_P (dC, dI) vwCl (lwO cI h0 h0_1 h0_2 h0_3 h0_4 h0_5 h0_6 h0_7 h0_8 h0_9 h0_10 h0_11 h0_12 h0_13 h0_14 h0_15 h0_16 h0_17 h0_18 h0_19 h0_20 h0_21 h0_22 m_233 m_234 h0_25 h0_26 m_235 m_236 h0_29 h0_30 u_231) H := hP1
          have hD : va_D A (lwO cI h0 h0_1 h0_2 h0_3 h0_4 h0_5 h0_6 h0_7 h0_8 h0_9 h0_10 h0_11 h0_12 h0_13 h0_14 h0_15 h0_16 h0_17 h0_18 h0_19 h0_20 h0_21 h0_22 m_233 m_234 h0_25 h0_26 m_235 m_236 h0_29 h0_30 u_231) := hD1.weaken (fun _ _ _ h => hFc _ h)
          refine W.widen (k := 56) (n := 336) (Nat.le_of_ble_eq_true rfl) (Nat.le_of_ble_eq_true rfl) ?_
          refine lv_bipush (v := (-92 : Int32)) hx hb dL_refuses_159 (by decide) ?_
          obtain ⟨ht_, hf_⟩ := h
          refine lv_icmp_ne (tgt := 198) hx hb dL_refuses_161 (by decide) (fun c_237 => ?_) (fun c_237 => ?_)
          · have h := ht_ c_237
            exact (show False from h).elim
          · have h := hf_ c_237
            refine lv_aload_n hx hb dL_refuses_164 rfl (lv_at hl 9 rfl) ?_
            refine lv_iload hx hb dL_refuses_165 (lv_at hl 0 rfl) ?_
            refine lv_iconst (v := (0 : Int32)) hx hb dL_refuses_167 (by decide) ?_
            refine lv_iload hx hb dL_refuses_168 (lv_at hl 6 rfl) ?_
            refine lv_iconst (v := (0 : Int32)) hx hb dL_refuses_170 (by decide) ?_
            have hFc := frw hD hS hA
            refine vx_calli (SX := Unit) (px := fun _ => False) (BX := fun _ _ _ => True) (AX := A) (vx_runSX0 (vx_runSX (As := [.ref h0, .int (1 : Int32), .int (0 : Int32), .int (100 : Int32), .int (0 : Int32)]) (rest := []) ⟨hx, hb, hml, hown, hts⟩ (c_L_act l hst dC dI cI h0 h0_1 h0_2 h0_3 h0_4 h0_5 h0_6 h0_7 h0_8 h0_9 h0_10 h0_11 h0_12 h0_13 h0_14 h0_15 h0_16 h0_17 h0_18 h0_19 h0_20 h0_21 h0_22 m_233 m_234 h0_25 h0_26 m_235 m_236 h0_29 h0_30 _ u_231 (1 : Int32) (0 : Int32) (100 : Int32) (0 : Int32) _ h) (vx_cwSW 5 hts (goodIn_up gB_L_act) rfl rfl rfl (by decide +kernel) ⟨Nat.le_of_ble_eq_true rfl, Nat.le_of_ble_eq_true rfl⟩) (pbl_S hP hK hD hN hX hC hFc hS) rfl rfl hl.1 rfl (lv_room (Nat.le_of_ble_eq_true rfl)) dL_refuses_171 ⟨Nat.le_of_ble_eq_true rfl, Nat.le_of_ble_eq_true rfl⟩)) hS (fun q _ h => hFc q h) hFc (fun q _ h => h) (fun E9 ce9 q9 u t H locs ht hvm h hB hz1 hk1 hS hce hcv hcl => h.elim) (fun r_239 u_238 t H locs ht hvm h hB hz1 hk1 hS => ?_)
            obtain ⟨m_240, m_241, m_242, m_243, hP1, hD1⟩ := hB
            rw [ht] at hP1
            have hP : va_P (dC, dI) vwCl (lwO cI h0 h0_1 h0_2 h0_3 h0_4 h0_5 h0_6 h0_7 h0_8 h0_9 h0_10 h0_11 h0_12 h0_13 h0_14 h0_15 h0_16 h0_17 h0_18 h0_19 h0_20 h0_21 h0_22 m_240 m_241 h0_25 h0_26 m_242 m_243 h0_29 h0_30 u_238) H := hP1
            have hD : va_D A (lwO cI h0 h0_1 h0_2 h0_3 h0_4 h0_5 h0_6 h0_7 h0_8 h0_9 h0_10 h0_11 h0_12 h0_13 h0_14 h0_15 h0_16 h0_17 h0_18 h0_19 h0_20 h0_21 h0_22 m_240 m_241 h0_25 h0_26 m_242 m_243 h0_29 h0_30 u_238) := hD1.weaken (fun _ _ _ h => hFc _ h)
            refine W.widen (k := 58) (n := 348) (Nat.le_of_ble_eq_true rfl) (Nat.le_of_ble_eq_true rfl) ?_
            refine lv_bipush (v := (-92 : Int32)) hx hb dL_refuses_174 (by decide) ?_
            obtain ⟨ht_, hf_⟩ := h
            refine lv_icmp_ne (tgt := 198) hx hb dL_refuses_176 (by decide) (fun c_244 => ?_) (fun c_244 => ?_)
            · have h := ht_ c_244
              exact (show False from h).elim
            · have h := hf_ c_244
              refine lv_aload_n hx hb dL_refuses_179 rfl (lv_at hl 9 rfl) ?_
              refine lv_iload hx hb dL_refuses_180 (lv_at hl 0 rfl) ?_
              refine lv_iconst (v := (0 : Int32)) hx hb dL_refuses_182 (by decide) ?_
              refine lv_iconst (v := (0 : Int32)) hx hb dL_refuses_183 (by decide) ?_
              refine lv_iload hx hb dL_refuses_184 (lv_at hl 6 rfl) ?_
              have hFc := frw hD hS hA
              refine vx_calli (SX := Unit) (px := fun _ => False) (BX := fun _ _ _ => True) (AX := A) (vx_runSX0 (vx_runSX (As := [.ref h0, .int (1 : Int32), .int (0 : Int32), .int (0 : Int32), .int (100 : Int32)]) (rest := []) ⟨hx, hb, hml, hown, hts⟩ (c_L_act l hst dC dI cI h0 h0_1 h0_2 h0_3 h0_4 h0_5 h0_6 h0_7 h0_8 h0_9 h0_10 h0_11 h0_12 h0_13 h0_14 h0_15 h0_16 h0_17 h0_18 h0_19 h0_20 h0_21 h0_22 m_240 m_241 h0_25 h0_26 m_242 m_243 h0_29 h0_30 _ u_238 (1 : Int32) (0 : Int32) (0 : Int32) (100 : Int32) _ h) (vx_cwSW 5 hts (goodIn_up gB_L_act) rfl rfl rfl (by decide +kernel) ⟨Nat.le_of_ble_eq_true rfl, Nat.le_of_ble_eq_true rfl⟩) (pbl_S hP hK hD hN hX hC hFc hS) rfl rfl hl.1 rfl (lv_room (Nat.le_of_ble_eq_true rfl)) dL_refuses_186 ⟨Nat.le_of_ble_eq_true rfl, Nat.le_of_ble_eq_true rfl⟩)) hS (fun q _ h => hFc q h) hFc (fun q _ h => h) (fun E9 ce9 q9 u t H locs ht hvm h hB hz1 hk1 hS hce hcv hcl => h.elim) (fun r_246 u_245 t H locs ht hvm h hB hz1 hk1 hS => ?_)
              obtain ⟨m_247, m_248, m_249, m_250, hP1, hD1⟩ := hB
              rw [ht] at hP1
              have hP : va_P (dC, dI) vwCl (lwO cI h0 h0_1 h0_2 h0_3 h0_4 h0_5 h0_6 h0_7 h0_8 h0_9 h0_10 h0_11 h0_12 h0_13 h0_14 h0_15 h0_16 h0_17 h0_18 h0_19 h0_20 h0_21 h0_22 m_247 m_248 h0_25 h0_26 m_249 m_250 h0_29 h0_30 u_245) H := hP1
              have hD : va_D A (lwO cI h0 h0_1 h0_2 h0_3 h0_4 h0_5 h0_6 h0_7 h0_8 h0_9 h0_10 h0_11 h0_12 h0_13 h0_14 h0_15 h0_16 h0_17 h0_18 h0_19 h0_20 h0_21 h0_22 m_247 m_248 h0_25 h0_26 m_249 m_250 h0_29 h0_30 u_245) := hD1.weaken (fun _ _ _ h => hFc _ h)
              refine W.widen (k := 60) (n := 360) (Nat.le_of_ble_eq_true rfl) (Nat.le_of_ble_eq_true rfl) ?_
              refine lv_bipush (v := (-92 : Int32)) hx hb dL_refuses_189 (by decide) ?_
              obtain ⟨ht_, hf_⟩ := h
              refine lv_icmp_ne (tgt := 198) hx hb dL_refuses_191 (by decide) (fun c_251 => ?_) (fun c_251 => ?_)
              · have h := ht_ c_251
                exact (show False from h).elim
              · have h := hf_ c_251
                have hl : lv_has ls 15 [(0, .ref h0), (1, .int v1), (2, .int v2), (3, .int v3), (4, .int v4), (5, .int (2147483647 : Int32)), (6, .int (1 : Int32)), (7, .int (-2147483648 : Int32)), (8, .int (100 : Int32)), (9, .int (100 : Int32)), (10, .int (100 : Int32)), (11, .int (3 : Int32)), (12, .int (4 : Int32)), (14, .int (1 : Int32))] := lv_sub hl [9, 10, 11, 12, 13, 14, 8, 7, 6, 5, 4, 3, 2, 0] rfl
                refine W.widen (k := 60) (n := 360) (Nat.le_of_ble_eq_true rfl) (Nat.le_of_ble_eq_true rfl) ?_
                exact sg_L_refuses_5 l hst C0 hK hN hX hC hA h0_1 h0_2 h0_3 h0_4 h0_5 h0_6 h0_7 h0_8 h0_9 h0_10 h0_11 h0_12 h0_13 h0_14 h0_15 h0_16 h0_17 h0_18 h0_19 h0_20 h0_21 h0_22 h0_25 h0_26 h0_29 h0_30 _ u_245 v1 v2 v3 v4 h m_247 m_248 m_249 m_250 _ _ hP hD hS _ hl
set_option maxHeartbeats 4000000 in
set_option maxRecDepth 100000 in
theorem sg_L_refuses_3 (l : Launch) (hst : l.stackTraces = false) {p : Program} {e : Env} {s : State} {m : MethodId} {below : List Frame} {meth : Method} {c : Code} {h0 : Nat} (C0 : LC p s m (([.ref h0] : List Value).toArray) meth c cL_refuses 15 wq_refuses) {dC : Nat → ClassId} {dI : Nat → Nat → Nat} {cI : ClassId} (hK : va_K (dC, dI) vwCl [(cI, .int)] s) (hN : nk s) {A : Nat → Prop} (hX : xj A s) (hC : xnc s) (hA : ∀ q : Nat, s.heap.size ≤ q → A q) (h0_1 h0_2 h0_3 h0_4 h0_5 h0_6 h0_7 h0_8 h0_9 h0_10 h0_11 h0_12 h0_13 h0_14 h0_15 h0_16 h0_17 h0_18 h0_19 h0_20 h0_21 h0_22 h0_25 h0_26 h0_29 h0_30 : Nat) (post : Int32 → TriS → Prop) (s0 : TriS) (v1 : Int32) (v2 : Int32) (v3 : Int32) (v4 : Int32) (h : P_L_refuses_3 s0 v1 v2 v3 v4 post) (h0_23 h0_24 h0_27 h0_28 : Nat) (H : Heap) (locs : List Loc) (hP : va_P (dC, dI) vwCl (lwO cI h0 h0_1 h0_2 h0_3 h0_4 h0_5 h0_6 h0_7 h0_8 h0_9 h0_10 h0_11 h0_12 h0_13 h0_14 h0_15 h0_16 h0_17 h0_18 h0_19 h0_20 h0_21 h0_22 h0_23 h0_24 h0_25 h0_26 h0_27 h0_28 h0_29 h0_30 s0) H) (hD : va_D A (lwO cI h0 h0_1 h0_2 h0_3 h0_4 h0_5 h0_6 h0_7 h0_8 h0_9 h0_10 h0_11 h0_12 h0_13 h0_14 h0_15 h0_16 h0_17 h0_18 h0_19 h0_20 h0_21 h0_22 h0_23 h0_24 h0_25 h0_26 h0_27 h0_28 h0_29 h0_30 s0)) (hS : va_S A s.heap H locs) (ls : Array Slot) (hl : lv_has ls 15 [(0, .ref h0), (1, .int v1), (2, .int v2), (3, .int v3), (4, .int v4), (5, .int (2147483647 : Int32)), (6, .int (0 : Int32)), (7, .int (-1 : Int32)), (10, .int (-5 : Int32)), (12, .int (-1 : Int32))]) : W p l e rm_L_refuses s m (([.ref h0] : List Value).toArray) below meth c H locs 34 204 (MQ below (Q_L_refuses dC dI cI h0 h0_1 h0_2 h0_3 h0_4 h0_5 h0_6 h0_7 h0_8 h0_9 h0_10 h0_11 h0_12 h0_13 h0_14 h0_15 h0_16 h0_17 h0_18 h0_19 h0_20 h0_21 h0_22 h0_23 h0_24 h0_25 h0_26 h0_27 h0_28 h0_29 h0_30 A post) (([.ref h0] : List Value).toArray) s mc_L_refuses ms_L_refuses A) (F0 m 401 ls []) := by
  obtain ⟨hx, hb, hr, hml, hown, hts, hlocks⟩ := id C0
  refine lv_aload_n hx hb dL_refuses_401 rfl (lv_at hl 0 rfl) ?_
  refine lv_bipush (v := (7 : Int32)) hx hb dL_refuses_402 (by decide) ?_
  refine lv_iconst (v := (0 : Int32)) hx hb dL_refuses_404 (by decide) ?_
  refine lv_iload hx hb dL_refuses_405 (lv_at hl 8 rfl) ?_
  refine lv_iconst (v := (0 : Int32)) hx hb dL_refuses_407 (by decide) ?_
  have hFc := frw hD hS hA
  refine vx_calli (SX := Unit) (px := fun _ => False) (BX := fun _ _ _ => True) (AX := A) (vx_runSX0 (vx_runSX (As := [.ref h0, .int (7 : Int32), .int (0 : Int32), .int (-5 : Int32), .int (0 : Int32)]) (rest := []) ⟨hx, hb, hml, hown, hts⟩ (c_L_act l hst dC dI cI h0 h0_1 h0_2 h0_3 h0_4 h0_5 h0_6 h0_7 h0_8 h0_9 h0_10 h0_11 h0_12 h0_13 h0_14 h0_15 h0_16 h0_17 h0_18 h0_19 h0_20 h0_21 h0_22 h0_23 h0_24 h0_25 h0_26 h0_27 h0_28 h0_29 h0_30 _ s0 (7 : Int32) (0 : Int32) (-5 : Int32) (0 : Int32) _ h) (vx_cwSW 5 hts (goodIn_up gB_L_act) rfl rfl rfl (by decide +kernel) ⟨Nat.le_of_ble_eq_true rfl, Nat.le_of_ble_eq_true rfl⟩) (pbl_S hP hK hD hN hX hC hFc hS) rfl rfl hl.1 rfl (lv_room (Nat.le_of_ble_eq_true rfl)) dL_refuses_408 ⟨Nat.le_of_ble_eq_true rfl, Nat.le_of_ble_eq_true rfl⟩)) hS (fun q _ h => hFc q h) hFc (fun q _ h => h) (fun E9 ce9 q9 u t H locs ht hvm h hB hz1 hk1 hS hce hcv hcl => h.elim) (fun r_145 u_144 t H locs ht hvm h hB hz1 hk1 hS => ?_)
  obtain ⟨m_146, m_147, m_148, m_149, hP1, hD1⟩ := hB
  rw [ht] at hP1
  have hP : va_P (dC, dI) vwCl (lwO cI h0 h0_1 h0_2 h0_3 h0_4 h0_5 h0_6 h0_7 h0_8 h0_9 h0_10 h0_11 h0_12 h0_13 h0_14 h0_15 h0_16 h0_17 h0_18 h0_19 h0_20 h0_21 h0_22 m_146 m_147 h0_25 h0_26 m_148 m_149 h0_29 h0_30 u_144) H := hP1
  have hD : va_D A (lwO cI h0 h0_1 h0_2 h0_3 h0_4 h0_5 h0_6 h0_7 h0_8 h0_9 h0_10 h0_11 h0_12 h0_13 h0_14 h0_15 h0_16 h0_17 h0_18 h0_19 h0_20 h0_21 h0_22 m_146 m_147 h0_25 h0_26 m_148 m_149 h0_29 h0_30 u_144) := hD1.weaken (fun _ _ _ h => hFc _ h)
  refine W.widen (k := 36) (n := 216) (Nat.le_of_ble_eq_true rfl) (Nat.le_of_ble_eq_true rfl) ?_
  refine lv_bipush (v := (-92 : Int32)) hx hb dL_refuses_411 (by decide) ?_
  obtain ⟨ht_, hf_⟩ := h
  refine lv_icmp_ne (tgt := 547) hx hb dL_refuses_413 (by decide) (fun c_150 => ?_) (fun c_150 => ?_)
  · have h := ht_ c_150
    exact (show False from h).elim
  · have h := hf_ c_150
    refine lv_aload_n hx hb dL_refuses_416 rfl (lv_at hl 0 rfl) ?_
    refine lv_bipush (v := (7 : Int32)) hx hb dL_refuses_417 (by decide) ?_
    refine lv_iconst (v := (0 : Int32)) hx hb dL_refuses_419 (by decide) ?_
    refine lv_iconst (v := (0 : Int32)) hx hb dL_refuses_420 (by decide) ?_
    refine lv_iload hx hb dL_refuses_421 (lv_at hl 8 rfl) ?_
    have hFc := frw hD hS hA
    refine vx_calli (SX := Unit) (px := fun _ => False) (BX := fun _ _ _ => True) (AX := A) (vx_runSX0 (vx_runSX (As := [.ref h0, .int (7 : Int32), .int (0 : Int32), .int (0 : Int32), .int (-5 : Int32)]) (rest := []) ⟨hx, hb, hml, hown, hts⟩ (c_L_act l hst dC dI cI h0 h0_1 h0_2 h0_3 h0_4 h0_5 h0_6 h0_7 h0_8 h0_9 h0_10 h0_11 h0_12 h0_13 h0_14 h0_15 h0_16 h0_17 h0_18 h0_19 h0_20 h0_21 h0_22 m_146 m_147 h0_25 h0_26 m_148 m_149 h0_29 h0_30 _ u_144 (7 : Int32) (0 : Int32) (0 : Int32) (-5 : Int32) _ h) (vx_cwSW 5 hts (goodIn_up gB_L_act) rfl rfl rfl (by decide +kernel) ⟨Nat.le_of_ble_eq_true rfl, Nat.le_of_ble_eq_true rfl⟩) (pbl_S hP hK hD hN hX hC hFc hS) rfl rfl hl.1 rfl (lv_room (Nat.le_of_ble_eq_true rfl)) dL_refuses_423 ⟨Nat.le_of_ble_eq_true rfl, Nat.le_of_ble_eq_true rfl⟩)) hS (fun q _ h => hFc q h) hFc (fun q _ h => h) (fun E9 ce9 q9 u t H locs ht hvm h hB hz1 hk1 hS hce hcv hcl => h.elim) (fun r_152 u_151 t H locs ht hvm h hB hz1 hk1 hS => ?_)
    obtain ⟨m_153, m_154, m_155, m_156, hP1, hD1⟩ := hB
    rw [ht] at hP1
    have hP : va_P (dC, dI) vwCl (lwO cI h0 h0_1 h0_2 h0_3 h0_4 h0_5 h0_6 h0_7 h0_8 h0_9 h0_10 h0_11 h0_12 h0_13 h0_14 h0_15 h0_16 h0_17 h0_18 h0_19 h0_20 h0_21 h0_22 m_153 m_154 h0_25 h0_26 m_155 m_156 h0_29 h0_30 u_151) H := hP1
    have hD : va_D A (lwO cI h0 h0_1 h0_2 h0_3 h0_4 h0_5 h0_6 h0_7 h0_8 h0_9 h0_10 h0_11 h0_12 h0_13 h0_14 h0_15 h0_16 h0_17 h0_18 h0_19 h0_20 h0_21 h0_22 m_153 m_154 h0_25 h0_26 m_155 m_156 h0_29 h0_30 u_151) := hD1.weaken (fun _ _ _ h => hFc _ h)
    refine W.widen (k := 38) (n := 228) (Nat.le_of_ble_eq_true rfl) (Nat.le_of_ble_eq_true rfl) ?_
    refine lv_bipush (v := (-92 : Int32)) hx hb dL_refuses_426 (by decide) ?_
    obtain ⟨ht_, hf_⟩ := h
    refine lv_icmp_ne (tgt := 547) hx hb dL_refuses_428 (by decide) (fun c_157 => ?_) (fun c_157 => ?_)
    · have h := ht_ c_157
      exact (show False from h).elim
    · have h := hf_ c_157
      refine lv_aload_n hx hb dL_refuses_431 rfl (lv_at hl 0 rfl) ?_
      refine lv_bipush (v := (8 : Int32)) hx hb dL_refuses_432 (by decide) ?_
      refine lv_iload hx hb dL_refuses_434 (lv_at hl 6 rfl) ?_
      refine lv_iconst (v := (1 : Int32)) hx hb dL_refuses_436 (by decide) ?_
      refine lv_icmp_ne (tgt := 444) hx hb dL_refuses_437 (by decide) (fun c_158 => ?_) (fun c_158 => absurd c_158 (by decide))
      refine lv_iload hx hb dL_refuses_444 (lv_at hl 7 rfl) ?_
      refine lv_iconst (v := (0 : Int32)) hx hb dL_refuses_446 (by decide) ?_
      refine lv_iconst (v := (0 : Int32)) hx hb dL_refuses_447 (by decide) ?_
      have hFc := frw hD hS hA
      refine vx_calli (SX := Unit) (px := fun _ => False) (BX := fun _ _ _ => True) (AX := A) (vx_runSX0 (vx_runSX (As := [.ref h0, .int (8 : Int32), .int (-1 : Int32), .int (0 : Int32), .int (0 : Int32)]) (rest := []) ⟨hx, hb, hml, hown, hts⟩ (c_L_act l hst dC dI cI h0 h0_1 h0_2 h0_3 h0_4 h0_5 h0_6 h0_7 h0_8 h0_9 h0_10 h0_11 h0_12 h0_13 h0_14 h0_15 h0_16 h0_17 h0_18 h0_19 h0_20 h0_21 h0_22 m_153 m_154 h0_25 h0_26 m_155 m_156 h0_29 h0_30 _ u_151 (8 : Int32) (-1 : Int32) (0 : Int32) (0 : Int32) _ h) (vx_cwSW 5 hts (goodIn_up gB_L_act) rfl rfl rfl (by decide +kernel) ⟨Nat.le_of_ble_eq_true rfl, Nat.le_of_ble_eq_true rfl⟩) (pbl_S hP hK hD hN hX hC hFc hS) rfl rfl hl.1 rfl (lv_room (Nat.le_of_ble_eq_true rfl)) dL_refuses_448 ⟨Nat.le_of_ble_eq_true rfl, Nat.le_of_ble_eq_true rfl⟩)) hS (fun q _ h => hFc q h) hFc (fun q _ h => h) (fun E9 ce9 q9 u t H locs ht hvm h hB hz1 hk1 hS hce hcv hcl => h.elim) (fun r_160 u_159 t H locs ht hvm h hB hz1 hk1 hS => ?_)
      obtain ⟨m_161, m_162, m_163, m_164, hP1, hD1⟩ := hB
      rw [ht] at hP1
      have hP : va_P (dC, dI) vwCl (lwO cI h0 h0_1 h0_2 h0_3 h0_4 h0_5 h0_6 h0_7 h0_8 h0_9 h0_10 h0_11 h0_12 h0_13 h0_14 h0_15 h0_16 h0_17 h0_18 h0_19 h0_20 h0_21 h0_22 m_161 m_162 h0_25 h0_26 m_163 m_164 h0_29 h0_30 u_159) H := hP1
      have hD : va_D A (lwO cI h0 h0_1 h0_2 h0_3 h0_4 h0_5 h0_6 h0_7 h0_8 h0_9 h0_10 h0_11 h0_12 h0_13 h0_14 h0_15 h0_16 h0_17 h0_18 h0_19 h0_20 h0_21 h0_22 m_161 m_162 h0_25 h0_26 m_163 m_164 h0_29 h0_30 u_159) := hD1.weaken (fun _ _ _ h => hFc _ h)
      refine W.widen (k := 40) (n := 240) (Nat.le_of_ble_eq_true rfl) (Nat.le_of_ble_eq_true rfl) ?_
      refine lv_bipush (v := (-91 : Int32)) hx hb dL_refuses_451 (by decide) ?_
      obtain ⟨ht_, hf_⟩ := h
      refine lv_icmp_ne (tgt := 547) hx hb dL_refuses_453 (by decide) (fun c_165 => ?_) (fun c_165 => ?_)
      · have h := ht_ c_165
        exact (show False from h).elim
      · have h := hf_ c_165
        refine lv_aload_n hx hb dL_refuses_456 rfl (lv_at hl 0 rfl) ?_
        refine lv_bipush (v := (9 : Int32)) hx hb dL_refuses_457 (by decide) ?_
        refine lv_iload hx hb dL_refuses_459 (lv_at hl 6 rfl) ?_
        refine lv_iconst (v := (1 : Int32)) hx hb dL_refuses_461 (by decide) ?_
        refine lv_icmp_ne (tgt := 469) hx hb dL_refuses_462 (by decide) (fun c_166 => ?_) (fun c_166 => absurd c_166 (by decide))
        refine lv_iload hx hb dL_refuses_469 (lv_at hl 7 rfl) ?_
        refine lv_iconst (v := (0 : Int32)) hx hb dL_refuses_471 (by decide) ?_
        refine lv_iconst (v := (0 : Int32)) hx hb dL_refuses_472 (by decide) ?_
        have hFc := frw hD hS hA
        refine vx_calli (SX := Unit) (px := fun _ => False) (BX := fun _ _ _ => True) (AX := A) (vx_runSX0 (vx_runSX (As := [.ref h0, .int (9 : Int32), .int (-1 : Int32), .int (0 : Int32), .int (0 : Int32)]) (rest := []) ⟨hx, hb, hml, hown, hts⟩ (c_L_act l hst dC dI cI h0 h0_1 h0_2 h0_3 h0_4 h0_5 h0_6 h0_7 h0_8 h0_9 h0_10 h0_11 h0_12 h0_13 h0_14 h0_15 h0_16 h0_17 h0_18 h0_19 h0_20 h0_21 h0_22 m_161 m_162 h0_25 h0_26 m_163 m_164 h0_29 h0_30 _ u_159 (9 : Int32) (-1 : Int32) (0 : Int32) (0 : Int32) _ h) (vx_cwSW 5 hts (goodIn_up gB_L_act) rfl rfl rfl (by decide +kernel) ⟨Nat.le_of_ble_eq_true rfl, Nat.le_of_ble_eq_true rfl⟩) (pbl_S hP hK hD hN hX hC hFc hS) rfl rfl hl.1 rfl (lv_room (Nat.le_of_ble_eq_true rfl)) dL_refuses_473 ⟨Nat.le_of_ble_eq_true rfl, Nat.le_of_ble_eq_true rfl⟩)) hS (fun q _ h => hFc q h) hFc (fun q _ h => h) (fun E9 ce9 q9 u t H locs ht hvm h hB hz1 hk1 hS hce hcv hcl => h.elim) (fun r_168 u_167 t H locs ht hvm h hB hz1 hk1 hS => ?_)
        obtain ⟨m_169, m_170, m_171, m_172, hP1, hD1⟩ := hB
        rw [ht] at hP1
        have hP : va_P (dC, dI) vwCl (lwO cI h0 h0_1 h0_2 h0_3 h0_4 h0_5 h0_6 h0_7 h0_8 h0_9 h0_10 h0_11 h0_12 h0_13 h0_14 h0_15 h0_16 h0_17 h0_18 h0_19 h0_20 h0_21 h0_22 m_169 m_170 h0_25 h0_26 m_171 m_172 h0_29 h0_30 u_167) H := hP1
        have hD : va_D A (lwO cI h0 h0_1 h0_2 h0_3 h0_4 h0_5 h0_6 h0_7 h0_8 h0_9 h0_10 h0_11 h0_12 h0_13 h0_14 h0_15 h0_16 h0_17 h0_18 h0_19 h0_20 h0_21 h0_22 m_169 m_170 h0_25 h0_26 m_171 m_172 h0_29 h0_30 u_167) := hD1.weaken (fun _ _ _ h => hFc _ h)
        refine W.widen (k := 42) (n := 252) (Nat.le_of_ble_eq_true rfl) (Nat.le_of_ble_eq_true rfl) ?_
        refine lv_bipush (v := (-91 : Int32)) hx hb dL_refuses_476 (by decide) ?_
        obtain ⟨ht_, hf_⟩ := h
        refine lv_icmp_ne (tgt := 547) hx hb dL_refuses_478 (by decide) (fun c_173 => ?_) (fun c_173 => ?_)
        · have h := ht_ c_173
          exact (show False from h).elim
        · have h := hf_ c_173
          refine lv_aload_n hx hb dL_refuses_481 rfl (lv_at hl 0 rfl) ?_
          refine lv_bipush (v := (13 : Int32)) hx hb dL_refuses_482 (by decide) ?_
          refine lv_iload hx hb dL_refuses_484 (lv_at hl 6 rfl) ?_
          refine lv_iconst (v := (1 : Int32)) hx hb dL_refuses_486 (by decide) ?_
          refine lv_icmp_ne (tgt := 495) hx hb dL_refuses_487 (by decide) (fun c_174 => ?_) (fun c_174 => absurd c_174 (by decide))
          refine lv_iload hx hb dL_refuses_495 (lv_at hl 7 rfl) ?_
          refine lv_iload hx hb dL_refuses_497 (lv_at hl 9 rfl) ?_
          refine lv_iconst (v := (0 : Int32)) hx hb dL_refuses_499 (by decide) ?_
          have hFc := frw hD hS hA
          refine vx_calli (SX := Unit) (px := fun _ => False) (BX := fun _ _ _ => True) (AX := A) (vx_runSX0 (vx_runSX (As := [.ref h0, .int (13 : Int32), .int (-1 : Int32), .int (-1 : Int32), .int (0 : Int32)]) (rest := []) ⟨hx, hb, hml, hown, hts⟩ (c_L_act l hst dC dI cI h0 h0_1 h0_2 h0_3 h0_4 h0_5 h0_6 h0_7 h0_8 h0_9 h0_10 h0_11 h0_12 h0_13 h0_14 h0_15 h0_16 h0_17 h0_18 h0_19 h0_20 h0_21 h0_22 m_169 m_170 h0_25 h0_26 m_171 m_172 h0_29 h0_30 _ u_167 (13 : Int32) (-1 : Int32) (-1 : Int32) (0 : Int32) _ h) (vx_cwSW 5 hts (goodIn_up gB_L_act) rfl rfl rfl (by decide +kernel) ⟨Nat.le_of_ble_eq_true rfl, Nat.le_of_ble_eq_true rfl⟩) (pbl_S hP hK hD hN hX hC hFc hS) rfl rfl hl.1 rfl (lv_room (Nat.le_of_ble_eq_true rfl)) dL_refuses_500 ⟨Nat.le_of_ble_eq_true rfl, Nat.le_of_ble_eq_true rfl⟩)) hS (fun q _ h => hFc q h) hFc (fun q _ h => h) (fun E9 ce9 q9 u t H locs ht hvm h hB hz1 hk1 hS hce hcv hcl => h.elim) (fun r_176 u_175 t H locs ht hvm h hB hz1 hk1 hS => ?_)
          obtain ⟨m_177, m_178, m_179, m_180, hP1, hD1⟩ := hB
          rw [ht] at hP1
          have hP : va_P (dC, dI) vwCl (lwO cI h0 h0_1 h0_2 h0_3 h0_4 h0_5 h0_6 h0_7 h0_8 h0_9 h0_10 h0_11 h0_12 h0_13 h0_14 h0_15 h0_16 h0_17 h0_18 h0_19 h0_20 h0_21 h0_22 m_177 m_178 h0_25 h0_26 m_179 m_180 h0_29 h0_30 u_175) H := hP1
          have hD : va_D A (lwO cI h0 h0_1 h0_2 h0_3 h0_4 h0_5 h0_6 h0_7 h0_8 h0_9 h0_10 h0_11 h0_12 h0_13 h0_14 h0_15 h0_16 h0_17 h0_18 h0_19 h0_20 h0_21 h0_22 m_177 m_178 h0_25 h0_26 m_179 m_180 h0_29 h0_30 u_175) := hD1.weaken (fun _ _ _ h => hFc _ h)
          refine W.widen (k := 44) (n := 264) (Nat.le_of_ble_eq_true rfl) (Nat.le_of_ble_eq_true rfl) ?_
          refine lv_bipush (v := (-91 : Int32)) hx hb dL_refuses_503 (by decide) ?_
          obtain ⟨ht_, hf_⟩ := h
          refine lv_icmp_ne (tgt := 547) hx hb dL_refuses_505 (by decide) (fun c_181 => ?_) (fun c_181 => ?_)
          · have h := ht_ c_181
            exact (show False from h).elim
          · have h := hf_ c_181
            refine lv_iload hx hb dL_refuses_508 (lv_at hl 4 rfl) ?_
            obtain ⟨ht_, hf_⟩ := h
            refine lv_if_eq (tgt := 528) hx hb dL_refuses_510 (by decide) (fun c_182 => ?_) (fun c_182 => ?_)
            · have h := ht_ c_182
              have hl : lv_has ls 15 [(0, .ref h0), (1, .int v1), (2, .int v2), (3, .int v3), (4, .int v4), (5, .int (2147483647 : Int32)), (6, .int (0 : Int32)), (12, .int (-1 : Int32))] := lv_sub hl [0, 1, 2, 3, 4, 5, 6, 9] rfl
              refine W.widen (k := 46) (n := 276) (Nat.le_of_ble_eq_true rfl) (Nat.le_of_ble_eq_true rfl) ?_
              exact sg_L_refuses_4 l hst C0 hK hN hX hC hA h0_1 h0_2 h0_3 h0_4 h0_5 h0_6 h0_7 h0_8 h0_9 h0_10 h0_11 h0_12 h0_13 h0_14 h0_15 h0_16 h0_17 h0_18 h0_19 h0_20 h0_21 h0_22 h0_25 h0_26 h0_29 h0_30 _ u_175 v1 v2 v3 v4 h m_177 m_178 m_179 m_180 _ _ hP hD hS _ hl
            · have h := hf_ c_182
              refine lv_aload_n hx hb dL_refuses_513 rfl (lv_at hl 0 rfl) ?_
              refine lv_bipush (v := (13 : Int32)) hx hb dL_refuses_514 (by decide) ?_
              refine lv_iconst (v := (0 : Int32)) hx hb dL_refuses_516 (by decide) ?_
              refine lv_iload hx hb dL_refuses_517 (lv_at hl 9 rfl) ?_
              refine lv_iconst (v := (0 : Int32)) hx hb dL_refuses_519 (by decide) ?_
              have hFc := frw hD hS hA
              refine vx_calli (SX := Unit) (px := fun _ => False) (BX := fun _ _ _ => True) (AX := A) (vx_runSX0 (vx_runSX (As := [.ref h0, .int (13 : Int32), .int (0 : Int32), .int (-1 : Int32), .int (0 : Int32)]) (rest := []) ⟨hx, hb, hml, hown, hts⟩ (c_L_act l hst dC dI cI h0 h0_1 h0_2 h0_3 h0_4 h0_5 h0_6 h0_7 h0_8 h0_9 h0_10 h0_11 h0_12 h0_13 h0_14 h0_15 h0_16 h0_17 h0_18 h0_19 h0_20 h0_21 h0_22 m_177 m_178 h0_25 h0_26 m_179 m_180 h0_29 h0_30 _ u_175 (13 : Int32) (0 : Int32) (-1 : Int32) (0 : Int32) _ h) (vx_cwSW 5 hts (goodIn_up gB_L_act) rfl rfl rfl (by decide +kernel) ⟨Nat.le_of_ble_eq_true rfl, Nat.le_of_ble_eq_true rfl⟩) (pbl_S hP hK hD hN hX hC hFc hS) rfl rfl hl.1 rfl (lv_room (Nat.le_of_ble_eq_true rfl)) dL_refuses_520 ⟨Nat.le_of_ble_eq_true rfl, Nat.le_of_ble_eq_true rfl⟩)) hS (fun q _ h => hFc q h) hFc (fun q _ h => h) (fun E9 ce9 q9 u t H locs ht hvm h hB hz1 hk1 hS hce hcv hcl => h.elim) (fun r_184 u_183 t H locs ht hvm h hB hz1 hk1 hS => ?_)
              obtain ⟨m_185, m_186, m_187, m_188, hP1, hD1⟩ := hB
              rw [ht] at hP1
              have hP : va_P (dC, dI) vwCl (lwO cI h0 h0_1 h0_2 h0_3 h0_4 h0_5 h0_6 h0_7 h0_8 h0_9 h0_10 h0_11 h0_12 h0_13 h0_14 h0_15 h0_16 h0_17 h0_18 h0_19 h0_20 h0_21 h0_22 m_185 m_186 h0_25 h0_26 m_187 m_188 h0_29 h0_30 u_183) H := hP1
              have hD : va_D A (lwO cI h0 h0_1 h0_2 h0_3 h0_4 h0_5 h0_6 h0_7 h0_8 h0_9 h0_10 h0_11 h0_12 h0_13 h0_14 h0_15 h0_16 h0_17 h0_18 h0_19 h0_20 h0_21 h0_22 m_185 m_186 h0_25 h0_26 m_187 m_188 h0_29 h0_30 u_183) := hD1.weaken (fun _ _ _ h => hFc _ h)
              refine W.widen (k := 46) (n := 276) (Nat.le_of_ble_eq_true rfl) (Nat.le_of_ble_eq_true rfl) ?_
              refine lv_bipush (v := (-92 : Int32)) hx hb dL_refuses_523 (by decide) ?_
              obtain ⟨ht_, hf_⟩ := h
              refine lv_icmp_ne (tgt := 547) hx hb dL_refuses_525 (by decide) (fun c_189 => ?_) (fun c_189 => ?_)
              · have h := ht_ c_189
                exact (show False from h).elim
              · have h := hf_ c_189
                have hl : lv_has ls 15 [(0, .ref h0), (1, .int v1), (2, .int v2), (3, .int v3), (4, .int v4), (5, .int (2147483647 : Int32)), (6, .int (0 : Int32)), (12, .int (-1 : Int32))] := lv_sub hl [0, 1, 2, 3, 4, 5, 6, 9] rfl
                refine W.widen (k := 46) (n := 276) (Nat.le_of_ble_eq_true rfl) (Nat.le_of_ble_eq_true rfl) ?_
                exact sg_L_refuses_4 l hst C0 hK hN hX hC hA h0_1 h0_2 h0_3 h0_4 h0_5 h0_6 h0_7 h0_8 h0_9 h0_10 h0_11 h0_12 h0_13 h0_14 h0_15 h0_16 h0_17 h0_18 h0_19 h0_20 h0_21 h0_22 h0_25 h0_26 h0_29 h0_30 _ u_183 v1 v2 v3 v4 h m_185 m_186 m_187 m_188 _ _ hP hD hS _ hl
set_option maxHeartbeats 4000000 in
set_option maxRecDepth 100000 in
theorem sg_L_refuses_2 (l : Launch) (hst : l.stackTraces = false) {p : Program} {e : Env} {s : State} {m : MethodId} {below : List Frame} {meth : Method} {c : Code} {h0 : Nat} (C0 : LC p s m (([.ref h0] : List Value).toArray) meth c cL_refuses 15 wq_refuses) {dC : Nat → ClassId} {dI : Nat → Nat → Nat} {cI : ClassId} (hK : va_K (dC, dI) vwCl [(cI, .int)] s) (hN : nk s) {A : Nat → Prop} (hX : xj A s) (hC : xnc s) (hA : ∀ q : Nat, s.heap.size ≤ q → A q) (h0_1 h0_2 h0_3 h0_4 h0_5 h0_6 h0_7 h0_8 h0_9 h0_10 h0_11 h0_12 h0_13 h0_14 h0_15 h0_16 h0_17 h0_18 h0_19 h0_20 h0_21 h0_22 h0_25 h0_26 h0_29 h0_30 : Nat) (post : Int32 → TriS → Prop) (s0 : TriS) (v1 : Int32) (v2 : Int32) (v3 : Int32) (v4 : Int32) (h : P_L_refuses_2 s0 v1 v2 v3 v4 post) (h0_23 h0_24 h0_27 h0_28 : Nat) (H : Heap) (locs : List Loc) (hP : va_P (dC, dI) vwCl (lwO cI h0 h0_1 h0_2 h0_3 h0_4 h0_5 h0_6 h0_7 h0_8 h0_9 h0_10 h0_11 h0_12 h0_13 h0_14 h0_15 h0_16 h0_17 h0_18 h0_19 h0_20 h0_21 h0_22 h0_23 h0_24 h0_25 h0_26 h0_27 h0_28 h0_29 h0_30 s0) H) (hD : va_D A (lwO cI h0 h0_1 h0_2 h0_3 h0_4 h0_5 h0_6 h0_7 h0_8 h0_9 h0_10 h0_11 h0_12 h0_13 h0_14 h0_15 h0_16 h0_17 h0_18 h0_19 h0_20 h0_21 h0_22 h0_23 h0_24 h0_25 h0_26 h0_27 h0_28 h0_29 h0_30 s0)) (hS : va_S A s.heap H locs) (ls : Array Slot) (hl : lv_has ls 15 [(0, .ref h0), (1, .int v1), (2, .int v2), (3, .int v3), (4, .int v4), (5, .int (2147483647 : Int32)), (6, .int (0 : Int32)), (7, .int (-1 : Int32)), (8, .int (-1 : Int32)), (9, .int (-2 : Int32)), (10, .int (-5 : Int32)), (11, .int (-1 : Int32)), (12, .int (-1 : Int32))]) : W p l e rm_L_refuses s m (([.ref h0] : List Value).toArray) below meth c H locs 20 120 (MQ below (Q_L_refuses dC dI cI h0 h0_1 h0_2 h0_3 h0_4 h0_5 h0_6 h0_7 h0_8 h0_9 h0_10 h0_11 h0_12 h0_13 h0_14 h0_15 h0_16 h0_17 h0_18 h0_19 h0_20 h0_21 h0_22 h0_23 h0_24 h0_25 h0_26 h0_27 h0_28 h0_29 h0_30 A post) (([.ref h0] : List Value).toArray) s mc_L_refuses ms_L_refuses A) (F0 m 278 ls []) := by
  obtain ⟨hx, hb, hr, hml, hown, hts, hlocks⟩ := id C0
  refine lv_aload_n hx hb dL_refuses_278 rfl (lv_at hl 0 rfl) ?_
  refine lv_iconst (v := (4 : Int32)) hx hb dL_refuses_279 (by decide) ?_
  refine lv_iload hx hb dL_refuses_280 (lv_at hl 6 rfl) ?_
  refine lv_iconst (v := (1 : Int32)) hx hb dL_refuses_282 (by decide) ?_
  refine lv_icmp_ne (tgt := 290) hx hb dL_refuses_283 (by decide) (fun c_93 => ?_) (fun c_93 => absurd c_93 (by decide))
  refine lv_iload hx hb dL_refuses_290 (lv_at hl 7 rfl) ?_
  refine lv_iconst (v := (0 : Int32)) hx hb dL_refuses_292 (by decide) ?_
  refine lv_iconst (v := (0 : Int32)) hx hb dL_refuses_293 (by decide) ?_
  have hFc := frw hD hS hA
  refine vx_calli (SX := Unit) (px := fun _ => False) (BX := fun _ _ _ => True) (AX := A) (vx_runSX0 (vx_runSX (As := [.ref h0, .int (4 : Int32), .int (-1 : Int32), .int (0 : Int32), .int (0 : Int32)]) (rest := []) ⟨hx, hb, hml, hown, hts⟩ (c_L_act l hst dC dI cI h0 h0_1 h0_2 h0_3 h0_4 h0_5 h0_6 h0_7 h0_8 h0_9 h0_10 h0_11 h0_12 h0_13 h0_14 h0_15 h0_16 h0_17 h0_18 h0_19 h0_20 h0_21 h0_22 h0_23 h0_24 h0_25 h0_26 h0_27 h0_28 h0_29 h0_30 _ s0 (4 : Int32) (-1 : Int32) (0 : Int32) (0 : Int32) _ h) (vx_cwSW 5 hts (goodIn_up gB_L_act) rfl rfl rfl (by decide +kernel) ⟨Nat.le_of_ble_eq_true rfl, Nat.le_of_ble_eq_true rfl⟩) (pbl_S hP hK hD hN hX hC hFc hS) rfl rfl hl.1 rfl (lv_room (Nat.le_of_ble_eq_true rfl)) dL_refuses_294 ⟨Nat.le_of_ble_eq_true rfl, Nat.le_of_ble_eq_true rfl⟩)) hS (fun q _ h => hFc q h) hFc (fun q _ h => h) (fun E9 ce9 q9 u t H locs ht hvm h hB hz1 hk1 hS hce hcv hcl => h.elim) (fun r_95 u_94 t H locs ht hvm h hB hz1 hk1 hS => ?_)
  obtain ⟨m_96, m_97, m_98, m_99, hP1, hD1⟩ := hB
  rw [ht] at hP1
  have hP : va_P (dC, dI) vwCl (lwO cI h0 h0_1 h0_2 h0_3 h0_4 h0_5 h0_6 h0_7 h0_8 h0_9 h0_10 h0_11 h0_12 h0_13 h0_14 h0_15 h0_16 h0_17 h0_18 h0_19 h0_20 h0_21 h0_22 m_96 m_97 h0_25 h0_26 m_98 m_99 h0_29 h0_30 u_94) H := hP1
  have hD : va_D A (lwO cI h0 h0_1 h0_2 h0_3 h0_4 h0_5 h0_6 h0_7 h0_8 h0_9 h0_10 h0_11 h0_12 h0_13 h0_14 h0_15 h0_16 h0_17 h0_18 h0_19 h0_20 h0_21 h0_22 m_96 m_97 h0_25 h0_26 m_98 m_99 h0_29 h0_30 u_94) := hD1.weaken (fun _ _ _ h => hFc _ h)
  refine W.widen (k := 22) (n := 132) (Nat.le_of_ble_eq_true rfl) (Nat.le_of_ble_eq_true rfl) ?_
  refine lv_bipush (v := (-91 : Int32)) hx hb dL_refuses_297 (by decide) ?_
  obtain ⟨ht_, hf_⟩ := h
  refine lv_icmp_ne (tgt := 378) hx hb dL_refuses_299 (by decide) (fun c_100 => ?_) (fun c_100 => ?_)
  · have h := ht_ c_100
    exact (show False from h).elim
  · have h := hf_ c_100
    refine lv_aload_n hx hb dL_refuses_302 rfl (lv_at hl 0 rfl) ?_
    refine lv_iconst (v := (5 : Int32)) hx hb dL_refuses_303 (by decide) ?_
    refine lv_iload hx hb dL_refuses_304 (lv_at hl 9 rfl) ?_
    refine lv_iconst (v := (0 : Int32)) hx hb dL_refuses_306 (by decide) ?_
    refine lv_iconst (v := (0 : Int32)) hx hb dL_refuses_307 (by decide) ?_
    have hFc := frw hD hS hA
    refine vx_calli (SX := Unit) (px := fun _ => False) (BX := fun _ _ _ => True) (AX := A) (vx_runSX0 (vx_runSX (As := [.ref h0, .int (5 : Int32), .int (-2 : Int32), .int (0 : Int32), .int (0 : Int32)]) (rest := []) ⟨hx, hb, hml, hown, hts⟩ (c_L_act l hst dC dI cI h0 h0_1 h0_2 h0_3 h0_4 h0_5 h0_6 h0_7 h0_8 h0_9 h0_10 h0_11 h0_12 h0_13 h0_14 h0_15 h0_16 h0_17 h0_18 h0_19 h0_20 h0_21 h0_22 m_96 m_97 h0_25 h0_26 m_98 m_99 h0_29 h0_30 _ u_94 (5 : Int32) (-2 : Int32) (0 : Int32) (0 : Int32) _ h) (vx_cwSW 5 hts (goodIn_up gB_L_act) rfl rfl rfl (by decide +kernel) ⟨Nat.le_of_ble_eq_true rfl, Nat.le_of_ble_eq_true rfl⟩) (pbl_S hP hK hD hN hX hC hFc hS) rfl rfl hl.1 rfl (lv_room (Nat.le_of_ble_eq_true rfl)) dL_refuses_308 ⟨Nat.le_of_ble_eq_true rfl, Nat.le_of_ble_eq_true rfl⟩)) hS (fun q _ h => hFc q h) hFc (fun q _ h => h) (fun E9 ce9 q9 u t H locs ht hvm h hB hz1 hk1 hS hce hcv hcl => h.elim) (fun r_102 u_101 t H locs ht hvm h hB hz1 hk1 hS => ?_)
    obtain ⟨m_103, m_104, m_105, m_106, hP1, hD1⟩ := hB
    rw [ht] at hP1
    have hP : va_P (dC, dI) vwCl (lwO cI h0 h0_1 h0_2 h0_3 h0_4 h0_5 h0_6 h0_7 h0_8 h0_9 h0_10 h0_11 h0_12 h0_13 h0_14 h0_15 h0_16 h0_17 h0_18 h0_19 h0_20 h0_21 h0_22 m_103 m_104 h0_25 h0_26 m_105 m_106 h0_29 h0_30 u_101) H := hP1
    have hD : va_D A (lwO cI h0 h0_1 h0_2 h0_3 h0_4 h0_5 h0_6 h0_7 h0_8 h0_9 h0_10 h0_11 h0_12 h0_13 h0_14 h0_15 h0_16 h0_17 h0_18 h0_19 h0_20 h0_21 h0_22 m_103 m_104 h0_25 h0_26 m_105 m_106 h0_29 h0_30 u_101) := hD1.weaken (fun _ _ _ h => hFc _ h)
    refine W.widen (k := 24) (n := 144) (Nat.le_of_ble_eq_true rfl) (Nat.le_of_ble_eq_true rfl) ?_
    refine lv_bipush (v := (-92 : Int32)) hx hb dL_refuses_311 (by decide) ?_
    obtain ⟨ht_, hf_⟩ := h
    refine lv_icmp_ne (tgt := 378) hx hb dL_refuses_313 (by decide) (fun c_107 => ?_) (fun c_107 => ?_)
    · have h := ht_ c_107
      exact (show False from h).elim
    · have h := hf_ c_107
      refine lv_aload_n hx hb dL_refuses_316 rfl (lv_at hl 0 rfl) ?_
      refine lv_iconst (v := (5 : Int32)) hx hb dL_refuses_317 (by decide) ?_
      refine lv_iconst (v := (0 : Int32)) hx hb dL_refuses_318 (by decide) ?_
      refine lv_iload hx hb dL_refuses_319 (lv_at hl 9 rfl) ?_
      refine lv_iconst (v := (0 : Int32)) hx hb dL_refuses_321 (by decide) ?_
      have hFc := frw hD hS hA
      refine vx_calli (SX := Unit) (px := fun _ => False) (BX := fun _ _ _ => True) (AX := A) (vx_runSX0 (vx_runSX (As := [.ref h0, .int (5 : Int32), .int (0 : Int32), .int (-2 : Int32), .int (0 : Int32)]) (rest := []) ⟨hx, hb, hml, hown, hts⟩ (c_L_act l hst dC dI cI h0 h0_1 h0_2 h0_3 h0_4 h0_5 h0_6 h0_7 h0_8 h0_9 h0_10 h0_11 h0_12 h0_13 h0_14 h0_15 h0_16 h0_17 h0_18 h0_19 h0_20 h0_21 h0_22 m_103 m_104 h0_25 h0_26 m_105 m_106 h0_29 h0_30 _ u_101 (5 : Int32) (0 : Int32) (-2 : Int32) (0 : Int32) _ h) (vx_cwSW 5 hts (goodIn_up gB_L_act) rfl rfl rfl (by decide +kernel) ⟨Nat.le_of_ble_eq_true rfl, Nat.le_of_ble_eq_true rfl⟩) (pbl_S hP hK hD hN hX hC hFc hS) rfl rfl hl.1 rfl (lv_room (Nat.le_of_ble_eq_true rfl)) dL_refuses_322 ⟨Nat.le_of_ble_eq_true rfl, Nat.le_of_ble_eq_true rfl⟩)) hS (fun q _ h => hFc q h) hFc (fun q _ h => h) (fun E9 ce9 q9 u t H locs ht hvm h hB hz1 hk1 hS hce hcv hcl => h.elim) (fun r_109 u_108 t H locs ht hvm h hB hz1 hk1 hS => ?_)
      obtain ⟨m_110, m_111, m_112, m_113, hP1, hD1⟩ := hB
      rw [ht] at hP1
      have hP : va_P (dC, dI) vwCl (lwO cI h0 h0_1 h0_2 h0_3 h0_4 h0_5 h0_6 h0_7 h0_8 h0_9 h0_10 h0_11 h0_12 h0_13 h0_14 h0_15 h0_16 h0_17 h0_18 h0_19 h0_20 h0_21 h0_22 m_110 m_111 h0_25 h0_26 m_112 m_113 h0_29 h0_30 u_108) H := hP1
      have hD : va_D A (lwO cI h0 h0_1 h0_2 h0_3 h0_4 h0_5 h0_6 h0_7 h0_8 h0_9 h0_10 h0_11 h0_12 h0_13 h0_14 h0_15 h0_16 h0_17 h0_18 h0_19 h0_20 h0_21 h0_22 m_110 m_111 h0_25 h0_26 m_112 m_113 h0_29 h0_30 u_108) := hD1.weaken (fun _ _ _ h => hFc _ h)
      refine W.widen (k := 26) (n := 156) (Nat.le_of_ble_eq_true rfl) (Nat.le_of_ble_eq_true rfl) ?_
      refine lv_bipush (v := (-92 : Int32)) hx hb dL_refuses_325 (by decide) ?_
      obtain ⟨ht_, hf_⟩ := h
      refine lv_icmp_ne (tgt := 378) hx hb dL_refuses_327 (by decide) (fun c_114 => ?_) (fun c_114 => ?_)
      · have h := ht_ c_114
        exact (show False from h).elim
      · have h := hf_ c_114
        refine lv_aload_n hx hb dL_refuses_330 rfl (lv_at hl 0 rfl) ?_
        refine lv_iconst (v := (5 : Int32)) hx hb dL_refuses_331 (by decide) ?_
        refine lv_iconst (v := (0 : Int32)) hx hb dL_refuses_332 (by decide) ?_
        refine lv_iconst (v := (0 : Int32)) hx hb dL_refuses_333 (by decide) ?_
        refine lv_iload hx hb dL_refuses_334 (lv_at hl 9 rfl) ?_
        have hFc := frw hD hS hA
        refine vx_calli (SX := Unit) (px := fun _ => False) (BX := fun _ _ _ => True) (AX := A) (vx_runSX0 (vx_runSX (As := [.ref h0, .int (5 : Int32), .int (0 : Int32), .int (0 : Int32), .int (-2 : Int32)]) (rest := []) ⟨hx, hb, hml, hown, hts⟩ (c_L_act l hst dC dI cI h0 h0_1 h0_2 h0_3 h0_4 h0_5 h0_6 h0_7 h0_8 h0_9 h0_10 h0_11 h0_12 h0_13 h0_14 h0_15 h0_16 h0_17 h0_18 h0_19 h0_20 h0_21 h0_22 m_110 m_111 h0_25 h0_26 m_112 m_113 h0_29 h0_30 _ u_108 (5 : Int32) (0 : Int32) (0 : Int32) (-2 : Int32) _ h) (vx_cwSW 5 hts (goodIn_up gB_L_act) rfl rfl rfl (by decide +kernel) ⟨Nat.le_of_ble_eq_true rfl, Nat.le_of_ble_eq_true rfl⟩) (pbl_S hP hK hD hN hX hC hFc hS) rfl rfl hl.1 rfl (lv_room (Nat.le_of_ble_eq_true rfl)) dL_refuses_336 ⟨Nat.le_of_ble_eq_true rfl, Nat.le_of_ble_eq_true rfl⟩)) hS (fun q _ h => hFc q h) hFc (fun q _ h => h) (fun E9 ce9 q9 u t H locs ht hvm h hB hz1 hk1 hS hce hcv hcl => h.elim) (fun r_116 u_115 t H locs ht hvm h hB hz1 hk1 hS => ?_)
        obtain ⟨m_117, m_118, m_119, m_120, hP1, hD1⟩ := hB
        rw [ht] at hP1
        have hP : va_P (dC, dI) vwCl (lwO cI h0 h0_1 h0_2 h0_3 h0_4 h0_5 h0_6 h0_7 h0_8 h0_9 h0_10 h0_11 h0_12 h0_13 h0_14 h0_15 h0_16 h0_17 h0_18 h0_19 h0_20 h0_21 h0_22 m_117 m_118 h0_25 h0_26 m_119 m_120 h0_29 h0_30 u_115) H := hP1
        have hD : va_D A (lwO cI h0 h0_1 h0_2 h0_3 h0_4 h0_5 h0_6 h0_7 h0_8 h0_9 h0_10 h0_11 h0_12 h0_13 h0_14 h0_15 h0_16 h0_17 h0_18 h0_19 h0_20 h0_21 h0_22 m_117 m_118 h0_25 h0_26 m_119 m_120 h0_29 h0_30 u_115) := hD1.weaken (fun _ _ _ h => hFc _ h)
        refine W.widen (k := 28) (n := 168) (Nat.le_of_ble_eq_true rfl) (Nat.le_of_ble_eq_true rfl) ?_
        refine lv_bipush (v := (-92 : Int32)) hx hb dL_refuses_339 (by decide) ?_
        obtain ⟨ht_, hf_⟩ := h
        refine lv_icmp_ne (tgt := 378) hx hb dL_refuses_341 (by decide) (fun c_121 => ?_) (fun c_121 => ?_)
        · have h := ht_ c_121
          exact (show False from h).elim
        · have h := hf_ c_121
          refine lv_aload_n hx hb dL_refuses_344 rfl (lv_at hl 0 rfl) ?_
          refine lv_bipush (v := (6 : Int32)) hx hb dL_refuses_345 (by decide) ?_
          refine lv_iload hx hb dL_refuses_347 (lv_at hl 11 rfl) ?_
          refine lv_iconst (v := (0 : Int32)) hx hb dL_refuses_349 (by decide) ?_
          refine lv_iconst (v := (0 : Int32)) hx hb dL_refuses_350 (by decide) ?_
          have hFc := frw hD hS hA
          refine vx_calli (SX := Unit) (px := fun _ => False) (BX := fun _ _ _ => True) (AX := A) (vx_runSX0 (vx_runSX (As := [.ref h0, .int (6 : Int32), .int (-1 : Int32), .int (0 : Int32), .int (0 : Int32)]) (rest := []) ⟨hx, hb, hml, hown, hts⟩ (c_L_act l hst dC dI cI h0 h0_1 h0_2 h0_3 h0_4 h0_5 h0_6 h0_7 h0_8 h0_9 h0_10 h0_11 h0_12 h0_13 h0_14 h0_15 h0_16 h0_17 h0_18 h0_19 h0_20 h0_21 h0_22 m_117 m_118 h0_25 h0_26 m_119 m_120 h0_29 h0_30 _ u_115 (6 : Int32) (-1 : Int32) (0 : Int32) (0 : Int32) _ h) (vx_cwSW 5 hts (goodIn_up gB_L_act) rfl rfl rfl (by decide +kernel) ⟨Nat.le_of_ble_eq_true rfl, Nat.le_of_ble_eq_true rfl⟩) (pbl_S hP hK hD hN hX hC hFc hS) rfl rfl hl.1 rfl (lv_room (Nat.le_of_ble_eq_true rfl)) dL_refuses_351 ⟨Nat.le_of_ble_eq_true rfl, Nat.le_of_ble_eq_true rfl⟩)) hS (fun q _ h => hFc q h) hFc (fun q _ h => h) (fun E9 ce9 q9 u t H locs ht hvm h hB hz1 hk1 hS hce hcv hcl => h.elim) (fun r_123 u_122 t H locs ht hvm h hB hz1 hk1 hS => ?_)
          obtain ⟨m_124, m_125, m_126, m_127, hP1, hD1⟩ := hB
          rw [ht] at hP1
          have hP : va_P (dC, dI) vwCl (lwO cI h0 h0_1 h0_2 h0_3 h0_4 h0_5 h0_6 h0_7 h0_8 h0_9 h0_10 h0_11 h0_12 h0_13 h0_14 h0_15 h0_16 h0_17 h0_18 h0_19 h0_20 h0_21 h0_22 m_124 m_125 h0_25 h0_26 m_126 m_127 h0_29 h0_30 u_122) H := hP1
          have hD : va_D A (lwO cI h0 h0_1 h0_2 h0_3 h0_4 h0_5 h0_6 h0_7 h0_8 h0_9 h0_10 h0_11 h0_12 h0_13 h0_14 h0_15 h0_16 h0_17 h0_18 h0_19 h0_20 h0_21 h0_22 m_124 m_125 h0_25 h0_26 m_126 m_127 h0_29 h0_30 u_122) := hD1.weaken (fun _ _ _ h => hFc _ h)
          refine W.widen (k := 30) (n := 180) (Nat.le_of_ble_eq_true rfl) (Nat.le_of_ble_eq_true rfl) ?_
          refine lv_bipush (v := (-92 : Int32)) hx hb dL_refuses_354 (by decide) ?_
          obtain ⟨ht_, hf_⟩ := h
          refine lv_icmp_ne (tgt := 378) hx hb dL_refuses_356 (by decide) (fun c_128 => ?_) (fun c_128 => ?_)
          · have h := ht_ c_128
            exact (show False from h).elim
          · have h := hf_ c_128
            refine lv_aload_n hx hb dL_refuses_359 rfl (lv_at hl 0 rfl) ?_
            refine lv_bipush (v := (6 : Int32)) hx hb dL_refuses_360 (by decide) ?_
            refine lv_iconst (v := (0 : Int32)) hx hb dL_refuses_362 (by decide) ?_
            refine lv_iload hx hb dL_refuses_363 (lv_at hl 8 rfl) ?_
            refine lv_iconst (v := (0 : Int32)) hx hb dL_refuses_365 (by decide) ?_
            have hFc := frw hD hS hA
            refine vx_calli (SX := Unit) (px := fun _ => False) (BX := fun _ _ _ => True) (AX := A) (vx_runSX0 (vx_runSX (As := [.ref h0, .int (6 : Int32), .int (0 : Int32), .int (-1 : Int32), .int (0 : Int32)]) (rest := []) ⟨hx, hb, hml, hown, hts⟩ (c_L_act l hst dC dI cI h0 h0_1 h0_2 h0_3 h0_4 h0_5 h0_6 h0_7 h0_8 h0_9 h0_10 h0_11 h0_12 h0_13 h0_14 h0_15 h0_16 h0_17 h0_18 h0_19 h0_20 h0_21 h0_22 m_124 m_125 h0_25 h0_26 m_126 m_127 h0_29 h0_30 _ u_122 (6 : Int32) (0 : Int32) (-1 : Int32) (0 : Int32) _ h) (vx_cwSW 5 hts (goodIn_up gB_L_act) rfl rfl rfl (by decide +kernel) ⟨Nat.le_of_ble_eq_true rfl, Nat.le_of_ble_eq_true rfl⟩) (pbl_S hP hK hD hN hX hC hFc hS) rfl rfl hl.1 rfl (lv_room (Nat.le_of_ble_eq_true rfl)) dL_refuses_366 ⟨Nat.le_of_ble_eq_true rfl, Nat.le_of_ble_eq_true rfl⟩)) hS (fun q _ h => hFc q h) hFc (fun q _ h => h) (fun E9 ce9 q9 u t H locs ht hvm h hB hz1 hk1 hS hce hcv hcl => h.elim) (fun r_130 u_129 t H locs ht hvm h hB hz1 hk1 hS => ?_)
            obtain ⟨m_131, m_132, m_133, m_134, hP1, hD1⟩ := hB
            rw [ht] at hP1
            have hP : va_P (dC, dI) vwCl (lwO cI h0 h0_1 h0_2 h0_3 h0_4 h0_5 h0_6 h0_7 h0_8 h0_9 h0_10 h0_11 h0_12 h0_13 h0_14 h0_15 h0_16 h0_17 h0_18 h0_19 h0_20 h0_21 h0_22 m_131 m_132 h0_25 h0_26 m_133 m_134 h0_29 h0_30 u_129) H := hP1
            have hD : va_D A (lwO cI h0 h0_1 h0_2 h0_3 h0_4 h0_5 h0_6 h0_7 h0_8 h0_9 h0_10 h0_11 h0_12 h0_13 h0_14 h0_15 h0_16 h0_17 h0_18 h0_19 h0_20 h0_21 h0_22 m_131 m_132 h0_25 h0_26 m_133 m_134 h0_29 h0_30 u_129) := hD1.weaken (fun _ _ _ h => hFc _ h)
            refine W.widen (k := 32) (n := 192) (Nat.le_of_ble_eq_true rfl) (Nat.le_of_ble_eq_true rfl) ?_
            refine lv_bipush (v := (-92 : Int32)) hx hb dL_refuses_369 (by decide) ?_
            obtain ⟨ht_, hf_⟩ := h
            refine lv_icmp_ne (tgt := 378) hx hb dL_refuses_371 (by decide) (fun c_135 => ?_) (fun c_135 => ?_)
            · have h := ht_ c_135
              exact (show False from h).elim
            · have h := hf_ c_135
              refine lv_iconst (v := (1 : Int32)) hx hb dL_refuses_374 (by decide) ?_
              refine lv_goto (tgt := 379) hx hb dL_refuses_375 (by decide) ?_
              refine lv_istore (lv' := [(13, .int (1 : Int32)), (0, .ref h0), (1, .int v1), (2, .int v2), (3, .int v3), (4, .int v4), (5, .int (2147483647 : Int32)), (6, .int (0 : Int32)), (7, .int (-1 : Int32)), (8, .int (-1 : Int32)), (9, .int (-2 : Int32)), (10, .int (-5 : Int32)), (11, .int (-1 : Int32)), (12, .int (-1 : Int32))]) hx hb dL_refuses_379 hl (by decide) rfl (fun ls hl => ?_)
              refine lv_iload hx hb dL_refuses_381 (lv_at hl 0 rfl) ?_
              refine lv_if_eq (tgt := 547) hx hb dL_refuses_383 (by decide) (fun c_136 => absurd c_136 (by decide)) (fun c_136 => ?_)
              refine lv_aload_n hx hb dL_refuses_386 rfl (lv_at hl 1 rfl) ?_
              refine lv_bipush (v := (7 : Int32)) hx hb dL_refuses_387 (by decide) ?_
              refine lv_iload hx hb dL_refuses_389 (lv_at hl 11 rfl) ?_
              refine lv_iconst (v := (0 : Int32)) hx hb dL_refuses_391 (by decide) ?_
              refine lv_iconst (v := (0 : Int32)) hx hb dL_refuses_392 (by decide) ?_
              have hFc := frw hD hS hA
              refine vx_calli (SX := Unit) (px := fun _ => False) (BX := fun _ _ _ => True) (AX := A) (vx_runSX0 (vx_runSX (As := [.ref h0, .int (7 : Int32), .int (-5 : Int32), .int (0 : Int32), .int (0 : Int32)]) (rest := []) ⟨hx, hb, hml, hown, hts⟩ (c_L_act l hst dC dI cI h0 h0_1 h0_2 h0_3 h0_4 h0_5 h0_6 h0_7 h0_8 h0_9 h0_10 h0_11 h0_12 h0_13 h0_14 h0_15 h0_16 h0_17 h0_18 h0_19 h0_20 h0_21 h0_22 m_131 m_132 h0_25 h0_26 m_133 m_134 h0_29 h0_30 _ u_129 (7 : Int32) (-5 : Int32) (0 : Int32) (0 : Int32) _ h) (vx_cwSW 5 hts (goodIn_up gB_L_act) rfl rfl rfl (by decide +kernel) ⟨Nat.le_of_ble_eq_true rfl, Nat.le_of_ble_eq_true rfl⟩) (pbl_S hP hK hD hN hX hC hFc hS) rfl rfl hl.1 rfl (lv_room (Nat.le_of_ble_eq_true rfl)) dL_refuses_393 ⟨Nat.le_of_ble_eq_true rfl, Nat.le_of_ble_eq_true rfl⟩)) hS (fun q _ h => hFc q h) hFc (fun q _ h => h) (fun E9 ce9 q9 u t H locs ht hvm h hB hz1 hk1 hS hce hcv hcl => h.elim) (fun r_138 u_137 t H locs ht hvm h hB hz1 hk1 hS => ?_)
              obtain ⟨m_139, m_140, m_141, m_142, hP1, hD1⟩ := hB
              rw [ht] at hP1
              have hP : va_P (dC, dI) vwCl (lwO cI h0 h0_1 h0_2 h0_3 h0_4 h0_5 h0_6 h0_7 h0_8 h0_9 h0_10 h0_11 h0_12 h0_13 h0_14 h0_15 h0_16 h0_17 h0_18 h0_19 h0_20 h0_21 h0_22 m_139 m_140 h0_25 h0_26 m_141 m_142 h0_29 h0_30 u_137) H := hP1
              have hD : va_D A (lwO cI h0 h0_1 h0_2 h0_3 h0_4 h0_5 h0_6 h0_7 h0_8 h0_9 h0_10 h0_11 h0_12 h0_13 h0_14 h0_15 h0_16 h0_17 h0_18 h0_19 h0_20 h0_21 h0_22 m_139 m_140 h0_25 h0_26 m_141 m_142 h0_29 h0_30 u_137) := hD1.weaken (fun _ _ _ h => hFc _ h)
              refine W.widen (k := 34) (n := 204) (Nat.le_of_ble_eq_true rfl) (Nat.le_of_ble_eq_true rfl) ?_
              refine lv_bipush (v := (-92 : Int32)) hx hb dL_refuses_396 (by decide) ?_
              obtain ⟨ht_, hf_⟩ := h
              refine lv_icmp_ne (tgt := 547) hx hb dL_refuses_398 (by decide) (fun c_143 => ?_) (fun c_143 => ?_)
              · have h := ht_ c_143
                exact (show False from h).elim
              · have h := hf_ c_143
                have hl : lv_has ls 15 [(0, .ref h0), (1, .int v1), (2, .int v2), (3, .int v3), (4, .int v4), (5, .int (2147483647 : Int32)), (6, .int (0 : Int32)), (7, .int (-1 : Int32)), (10, .int (-5 : Int32)), (12, .int (-1 : Int32))] := lv_sub hl [1, 2, 3, 4, 5, 6, 7, 8, 11, 13] rfl
                refine W.widen (k := 34) (n := 204) (Nat.le_of_ble_eq_true rfl) (Nat.le_of_ble_eq_true rfl) ?_
                exact sg_L_refuses_3 l hst C0 hK hN hX hC hA h0_1 h0_2 h0_3 h0_4 h0_5 h0_6 h0_7 h0_8 h0_9 h0_10 h0_11 h0_12 h0_13 h0_14 h0_15 h0_16 h0_17 h0_18 h0_19 h0_20 h0_21 h0_22 h0_25 h0_26 h0_29 h0_30 _ u_137 v1 v2 v3 v4 h m_139 m_140 m_141 m_142 _ _ hP hD hS _ hl
