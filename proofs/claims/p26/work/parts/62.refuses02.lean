set_option maxHeartbeats 4000000 in
set_option maxRecDepth 100000 in
theorem sg_L_refuses_13 (l : Launch) (hst : l.stackTraces = false) {p : Program} {e : Env} {s : State} {m : MethodId} {below : List Frame} {meth : Method} {c : Code} {h0 : Nat} (C0 : LC p s m (([.ref h0] : List Value).toArray) meth c cL_refuses 15 wq_refuses) {dC : Nat → ClassId} {dI : Nat → Nat → Nat} {cI : ClassId} (hK : va_K (dC, dI) vwCl [(cI, .int)] s) (hN : nk s) {A : Nat → Prop} (hX : xj A s) (hC : xnc s) (hA : ∀ q : Nat, s.heap.size ≤ q → A q) (h0_1 h0_2 h0_3 h0_4 h0_5 h0_6 h0_7 h0_8 h0_9 h0_10 h0_11 h0_12 h0_13 h0_14 h0_15 h0_16 h0_17 h0_18 h0_19 h0_20 h0_21 h0_22 h0_25 h0_26 h0_29 h0_30 : Nat) (post : Int32 → TriS → Prop) (s0 : TriS) (v1 : Int32) (v2 : Int32) (v3 : Int32) (v4 : Int32) (h : P_L_refuses_13 s0 v1 v2 v3 v4 post) (h0_23 h0_24 h0_27 h0_28 : Nat) (H : Heap) (locs : List Loc) (hP : va_P (dC, dI) vwCl (lwO cI h0 h0_1 h0_2 h0_3 h0_4 h0_5 h0_6 h0_7 h0_8 h0_9 h0_10 h0_11 h0_12 h0_13 h0_14 h0_15 h0_16 h0_17 h0_18 h0_19 h0_20 h0_21 h0_22 h0_23 h0_24 h0_25 h0_26 h0_27 h0_28 h0_29 h0_30 s0) H) (hD : va_D A (lwO cI h0 h0_1 h0_2 h0_3 h0_4 h0_5 h0_6 h0_7 h0_8 h0_9 h0_10 h0_11 h0_12 h0_13 h0_14 h0_15 h0_16 h0_17 h0_18 h0_19 h0_20 h0_21 h0_22 h0_23 h0_24 h0_25 h0_26 h0_27 h0_28 h0_29 h0_30 s0)) (hS : va_S A s.heap H locs) (ls : Array Slot) (hl : lv_has ls 15 [(0, .ref h0), (1, .int v1), (2, .int v2), (3, .int v3), (4, .int v4), (5, .int (2147483647 : Int32)), (6, .int (3 : Int32)), (7, .int (-2147483648 : Int32)), (8, .int (-2147483648 : Int32)), (9, .int (-2147483648 : Int32)), (10, .int (-2147483648 : Int32)), (11, .int (-2147483648 : Int32)), (12, .int (-2147483648 : Int32)), (14, .int (1 : Int32))]) : W p l e rm_L_refuses s m (([.ref h0] : List Value).toArray) below meth c H locs 156 936 (MQ below (Q_L_refuses dC dI cI h0 h0_1 h0_2 h0_3 h0_4 h0_5 h0_6 h0_7 h0_8 h0_9 h0_10 h0_11 h0_12 h0_13 h0_14 h0_15 h0_16 h0_17 h0_18 h0_19 h0_20 h0_21 h0_22 h0_23 h0_24 h0_25 h0_26 h0_27 h0_28 h0_29 h0_30 A post) (([.ref h0] : List Value).toArray) s mc_L_refuses ms_L_refuses A) (F0 m 194 ls []) := by
  obtain ⟨hx, hb, hr, hml, hown, hts, hlocks⟩ := id C0
  refine lv_iconst (v := (1 : Int32)) hx hb dL_refuses_194 (by decide) ?_
  refine lv_goto (tgt := 199) hx hb dL_refuses_195 (by decide) ?_
  refine lv_istore (lv' := [(13, .int (1 : Int32)), (0, .ref h0), (1, .int v1), (2, .int v2), (3, .int v3), (4, .int v4), (5, .int (2147483647 : Int32)), (6, .int (3 : Int32)), (7, .int (-2147483648 : Int32)), (8, .int (-2147483648 : Int32)), (9, .int (-2147483648 : Int32)), (10, .int (-2147483648 : Int32)), (11, .int (-2147483648 : Int32)), (12, .int (-2147483648 : Int32)), (14, .int (1 : Int32))]) hx hb dL_refuses_199 hl (by decide) rfl (fun ls hl => ?_)
  refine lv_iinc (v := (2 : Int32)) (lv' := [(14, .int (2 : Int32)), (13, .int (1 : Int32)), (0, .ref h0), (1, .int v1), (2, .int v2), (3, .int v3), (4, .int v4), (5, .int (2147483647 : Int32)), (6, .int (3 : Int32)), (7, .int (-2147483648 : Int32)), (8, .int (-2147483648 : Int32)), (9, .int (-2147483648 : Int32)), (10, .int (-2147483648 : Int32)), (11, .int (-2147483648 : Int32)), (12, .int (-2147483648 : Int32))]) hx hb dL_refuses_201 hl (k := 14) rfl (by decide) (by decide) rfl (fun ls hl => ?_)
  refine lv_goto (tgt := 138) hx hb dL_refuses_204 (by decide) ?_
  refine lv_iload hx hb dL_refuses_138 (lv_at hl 0 rfl) ?_
  refine lv_iconst (v := (2 : Int32)) hx hb dL_refuses_140 (by decide) ?_
  refine lv_icmp_ge (tgt := 207) hx hb dL_refuses_141 (by decide) (fun c_632 => ?_) (fun c_632 => absurd c_632 (by decide))
  refine lv_iload hx hb dL_refuses_207 (lv_at hl 1 rfl) ?_
  refine lv_if_eq (tgt := 378) hx hb dL_refuses_209 (by decide) (fun c_633 => absurd c_633 (by decide)) (fun c_633 => ?_)
  refine lv_aload_n hx hb dL_refuses_212 rfl (lv_at hl 2 rfl) ?_
  refine lv_iconst (v := (2 : Int32)) hx hb dL_refuses_213 (by decide) ?_
  refine lv_iload hx hb dL_refuses_214 (lv_at hl 13 rfl) ?_
  refine lv_iconst (v := (-1 : Int32)) hx hb dL_refuses_216 (by decide) ?_
  refine lv_iconst (v := (0 : Int32)) hx hb dL_refuses_217 (by decide) ?_
  have hFc := frw hD hS hA
  refine vx_calli (SX := Unit) (px := fun _ => False) (BX := fun _ _ _ => True) (AX := A) (vx_runSX0 (vx_runSX (As := [.ref h0, .int (2 : Int32), .int (-2147483648 : Int32), .int (-1 : Int32), .int (0 : Int32)]) (rest := []) ⟨hx, hb, hml, hown, hts⟩ (c_L_act l hst dC dI cI h0 h0_1 h0_2 h0_3 h0_4 h0_5 h0_6 h0_7 h0_8 h0_9 h0_10 h0_11 h0_12 h0_13 h0_14 h0_15 h0_16 h0_17 h0_18 h0_19 h0_20 h0_21 h0_22 h0_23 h0_24 h0_25 h0_26 h0_27 h0_28 h0_29 h0_30 _ s0 (2 : Int32) (-2147483648 : Int32) (-1 : Int32) (0 : Int32) _ h) (vx_cwSW 5 hts (goodIn_up gB_L_act) rfl rfl rfl (by decide +kernel) ⟨Nat.le_of_ble_eq_true rfl, Nat.le_of_ble_eq_true rfl⟩) (pbl_S hP hK hD hN hX hC hFc hS) rfl rfl hl.1 rfl (lv_room (Nat.le_of_ble_eq_true rfl)) dL_refuses_218 ⟨Nat.le_of_ble_eq_true rfl, Nat.le_of_ble_eq_true rfl⟩)) hS (fun q _ h => hFc q h) hFc (fun q _ h => h) (fun E9 ce9 q9 u t H locs ht hvm h hB hz1 hk1 hS hce hcv hcl => h.elim) (fun r_635 u_634 t H locs ht hvm h hB hz1 hk1 hS => ?_)
  obtain ⟨m_636, m_637, m_638, m_639, hP1, hD1⟩ := hB
  rw [ht] at hP1
  have hP : va_P (dC, dI) vwCl (lwO cI h0 h0_1 h0_2 h0_3 h0_4 h0_5 h0_6 h0_7 h0_8 h0_9 h0_10 h0_11 h0_12 h0_13 h0_14 h0_15 h0_16 h0_17 h0_18 h0_19 h0_20 h0_21 h0_22 m_636 m_637 h0_25 h0_26 m_638 m_639 h0_29 h0_30 u_634) H := hP1
  have hD : va_D A (lwO cI h0 h0_1 h0_2 h0_3 h0_4 h0_5 h0_6 h0_7 h0_8 h0_9 h0_10 h0_11 h0_12 h0_13 h0_14 h0_15 h0_16 h0_17 h0_18 h0_19 h0_20 h0_21 h0_22 m_636 m_637 h0_25 h0_26 m_638 m_639 h0_29 h0_30 u_634) := hD1.weaken (fun _ _ _ h => hFc _ h)
  refine W.widen (k := 158) (n := 948) (Nat.le_of_ble_eq_true rfl) (Nat.le_of_ble_eq_true rfl) ?_
  refine lv_bipush (v := (-92 : Int32)) hx hb dL_refuses_221 (by decide) ?_
  obtain ⟨ht_, hf_⟩ := h
  refine lv_icmp_ne (tgt := 378) hx hb dL_refuses_223 (by decide) (fun c_640 => ?_) (fun c_640 => ?_)
  · have h := ht_ c_640
    exact (show False from h).elim
  · have h := hf_ c_640
    refine lv_aload_n hx hb dL_refuses_226 rfl (lv_at hl 2 rfl) ?_
    refine lv_iconst (v := (2 : Int32)) hx hb dL_refuses_227 (by decide) ?_
    refine lv_iconst (v := (0 : Int32)) hx hb dL_refuses_228 (by decide) ?_
    refine lv_iconst (v := (-1 : Int32)) hx hb dL_refuses_229 (by decide) ?_
    refine lv_iload hx hb dL_refuses_230 (lv_at hl 13 rfl) ?_
    have hFc := frw hD hS hA
    refine vx_calli (SX := Unit) (px := fun _ => False) (BX := fun _ _ _ => True) (AX := A) (vx_runSX0 (vx_runSX (As := [.ref h0, .int (2 : Int32), .int (0 : Int32), .int (-1 : Int32), .int (-2147483648 : Int32)]) (rest := []) ⟨hx, hb, hml, hown, hts⟩ (c_L_act l hst dC dI cI h0 h0_1 h0_2 h0_3 h0_4 h0_5 h0_6 h0_7 h0_8 h0_9 h0_10 h0_11 h0_12 h0_13 h0_14 h0_15 h0_16 h0_17 h0_18 h0_19 h0_20 h0_21 h0_22 m_636 m_637 h0_25 h0_26 m_638 m_639 h0_29 h0_30 _ u_634 (2 : Int32) (0 : Int32) (-1 : Int32) (-2147483648 : Int32) _ h) (vx_cwSW 5 hts (goodIn_up gB_L_act) rfl rfl rfl (by decide +kernel) ⟨Nat.le_of_ble_eq_true rfl, Nat.le_of_ble_eq_true rfl⟩) (pbl_S hP hK hD hN hX hC hFc hS) rfl rfl hl.1 rfl (lv_room (Nat.le_of_ble_eq_true rfl)) dL_refuses_232 ⟨Nat.le_of_ble_eq_true rfl, Nat.le_of_ble_eq_true rfl⟩)) hS (fun q _ h => hFc q h) hFc (fun q _ h => h) (fun E9 ce9 q9 u t H locs ht hvm h hB hz1 hk1 hS hce hcv hcl => h.elim) (fun r_642 u_641 t H locs ht hvm h hB hz1 hk1 hS => ?_)
    obtain ⟨m_643, m_644, m_645, m_646, hP1, hD1⟩ := hB
    rw [ht] at hP1
    have hP : va_P (dC, dI) vwCl (lwO cI h0 h0_1 h0_2 h0_3 h0_4 h0_5 h0_6 h0_7 h0_8 h0_9 h0_10 h0_11 h0_12 h0_13 h0_14 h0_15 h0_16 h0_17 h0_18 h0_19 h0_20 h0_21 h0_22 m_643 m_644 h0_25 h0_26 m_645 m_646 h0_29 h0_30 u_641) H := hP1
    have hD : va_D A (lwO cI h0 h0_1 h0_2 h0_3 h0_4 h0_5 h0_6 h0_7 h0_8 h0_9 h0_10 h0_11 h0_12 h0_13 h0_14 h0_15 h0_16 h0_17 h0_18 h0_19 h0_20 h0_21 h0_22 m_643 m_644 h0_25 h0_26 m_645 m_646 h0_29 h0_30 u_641) := hD1.weaken (fun _ _ _ h => hFc _ h)
    refine W.widen (k := 160) (n := 960) (Nat.le_of_ble_eq_true rfl) (Nat.le_of_ble_eq_true rfl) ?_
    refine lv_bipush (v := (-92 : Int32)) hx hb dL_refuses_235 (by decide) ?_
    obtain ⟨ht_, hf_⟩ := h
    refine lv_icmp_ne (tgt := 378) hx hb dL_refuses_237 (by decide) (fun c_647 => ?_) (fun c_647 => ?_)
    · have h := ht_ c_647
      exact (show False from h).elim
    · have h := hf_ c_647
      refine lv_aload_n hx hb dL_refuses_240 rfl (lv_at hl 2 rfl) ?_
      refine lv_iconst (v := (2 : Int32)) hx hb dL_refuses_241 (by decide) ?_
      refine lv_iconst (v := (2 : Int32)) hx hb dL_refuses_242 (by decide) ?_
      refine lv_iload hx hb dL_refuses_243 (lv_at hl 8 rfl) ?_
      refine lv_iconst (v := (1 : Int32)) hx hb dL_refuses_245 (by decide) ?_
      refine lv_icmp_ne (tgt := 253) hx hb dL_refuses_246 (by decide) (fun c_648 => ?_) (fun c_648 => absurd c_648 (by decide))
      refine lv_iload hx hb dL_refuses_253 (lv_at hl 9 rfl) ?_
      refine lv_iconst (v := (2 : Int32)) hx hb dL_refuses_255 (by decide) ?_
      have hFc := frw hD hS hA
      refine vx_calli (SX := Unit) (px := fun _ => False) (BX := fun _ _ _ => True) (AX := A) (vx_runSX0 (vx_runSX (As := [.ref h0, .int (2 : Int32), .int (2 : Int32), .int (-2147483648 : Int32), .int (2 : Int32)]) (rest := []) ⟨hx, hb, hml, hown, hts⟩ (c_L_act l hst dC dI cI h0 h0_1 h0_2 h0_3 h0_4 h0_5 h0_6 h0_7 h0_8 h0_9 h0_10 h0_11 h0_12 h0_13 h0_14 h0_15 h0_16 h0_17 h0_18 h0_19 h0_20 h0_21 h0_22 m_643 m_644 h0_25 h0_26 m_645 m_646 h0_29 h0_30 _ u_641 (2 : Int32) (2 : Int32) (-2147483648 : Int32) (2 : Int32) _ h) (vx_cwSW 5 hts (goodIn_up gB_L_act) rfl rfl rfl (by decide +kernel) ⟨Nat.le_of_ble_eq_true rfl, Nat.le_of_ble_eq_true rfl⟩) (pbl_S hP hK hD hN hX hC hFc hS) rfl rfl hl.1 rfl (lv_room (Nat.le_of_ble_eq_true rfl)) dL_refuses_256 ⟨Nat.le_of_ble_eq_true rfl, Nat.le_of_ble_eq_true rfl⟩)) hS (fun q _ h => hFc q h) hFc (fun q _ h => h) (fun E9 ce9 q9 u t H locs ht hvm h hB hz1 hk1 hS hce hcv hcl => h.elim) (fun r_650 u_649 t H locs ht hvm h hB hz1 hk1 hS => ?_)
      obtain ⟨m_651, m_652, m_653, m_654, hP1, hD1⟩ := hB
      rw [ht] at hP1
      have hP : va_P (dC, dI) vwCl (lwO cI h0 h0_1 h0_2 h0_3 h0_4 h0_5 h0_6 h0_7 h0_8 h0_9 h0_10 h0_11 h0_12 h0_13 h0_14 h0_15 h0_16 h0_17 h0_18 h0_19 h0_20 h0_21 h0_22 m_651 m_652 h0_25 h0_26 m_653 m_654 h0_29 h0_30 u_649) H := hP1
      have hD : va_D A (lwO cI h0 h0_1 h0_2 h0_3 h0_4 h0_5 h0_6 h0_7 h0_8 h0_9 h0_10 h0_11 h0_12 h0_13 h0_14 h0_15 h0_16 h0_17 h0_18 h0_19 h0_20 h0_21 h0_22 m_651 m_652 h0_25 h0_26 m_653 m_654 h0_29 h0_30 u_649) := hD1.weaken (fun _ _ _ h => hFc _ h)
      refine W.widen (k := 162) (n := 972) (Nat.le_of_ble_eq_true rfl) (Nat.le_of_ble_eq_true rfl) ?_
      refine lv_bipush (v := (-91 : Int32)) hx hb dL_refuses_259 (by decide) ?_
      obtain ⟨ht_, hf_⟩ := h
      refine lv_icmp_ne (tgt := 378) hx hb dL_refuses_261 (by decide) (fun c_655 => ?_) (fun c_655 => ?_)
      · have h := ht_ c_655
        exact (show False from h).elim
      · have h := hf_ c_655
        refine lv_aload_n hx hb dL_refuses_264 rfl (lv_at hl 2 rfl) ?_
        refine lv_iconst (v := (3 : Int32)) hx hb dL_refuses_265 (by decide) ?_
        refine lv_iload hx hb dL_refuses_266 (lv_at hl 10 rfl) ?_
        refine lv_iconst (v := (0 : Int32)) hx hb dL_refuses_268 (by decide) ?_
        refine lv_iconst (v := (0 : Int32)) hx hb dL_refuses_269 (by decide) ?_
        have hFc := frw hD hS hA
        refine vx_calli (SX := Unit) (px := fun _ => False) (BX := fun _ _ _ => True) (AX := A) (vx_runSX0 (vx_runSX (As := [.ref h0, .int (3 : Int32), .int (-2147483648 : Int32), .int (0 : Int32), .int (0 : Int32)]) (rest := []) ⟨hx, hb, hml, hown, hts⟩ (c_L_act l hst dC dI cI h0 h0_1 h0_2 h0_3 h0_4 h0_5 h0_6 h0_7 h0_8 h0_9 h0_10 h0_11 h0_12 h0_13 h0_14 h0_15 h0_16 h0_17 h0_18 h0_19 h0_20 h0_21 h0_22 m_651 m_652 h0_25 h0_26 m_653 m_654 h0_29 h0_30 _ u_649 (3 : Int32) (-2147483648 : Int32) (0 : Int32) (0 : Int32) _ h) (vx_cwSW 5 hts (goodIn_up gB_L_act) rfl rfl rfl (by decide +kernel) ⟨Nat.le_of_ble_eq_true rfl, Nat.le_of_ble_eq_true rfl⟩) (pbl_S hP hK hD hN hX hC hFc hS) rfl rfl hl.1 rfl (lv_room (Nat.le_of_ble_eq_true rfl)) dL_refuses_270 ⟨Nat.le_of_ble_eq_true rfl, Nat.le_of_ble_eq_true rfl⟩)) hS (fun q _ h => hFc q h) hFc (fun q _ h => h) (fun E9 ce9 q9 u t H locs ht hvm h hB hz1 hk1 hS hce hcv hcl => h.elim) (fun r_657 u_656 t H locs ht hvm h hB hz1 hk1 hS => ?_)
        obtain ⟨m_658, m_659, m_660, m_661, hP1, hD1⟩ := hB
        rw [ht] at hP1
        have hP : va_P (dC, dI) vwCl (lwO cI h0 h0_1 h0_2 h0_3 h0_4 h0_5 h0_6 h0_7 h0_8 h0_9 h0_10 h0_11 h0_12 h0_13 h0_14 h0_15 h0_16 h0_17 h0_18 h0_19 h0_20 h0_21 h0_22 m_658 m_659 h0_25 h0_26 m_660 m_661 h0_29 h0_30 u_656) H := hP1
        have hD : va_D A (lwO cI h0 h0_1 h0_2 h0_3 h0_4 h0_5 h0_6 h0_7 h0_8 h0_9 h0_10 h0_11 h0_12 h0_13 h0_14 h0_15 h0_16 h0_17 h0_18 h0_19 h0_20 h0_21 h0_22 m_658 m_659 h0_25 h0_26 m_660 m_661 h0_29 h0_30 u_656) := hD1.weaken (fun _ _ _ h => hFc _ h)
        refine W.widen (k := 164) (n := 984) (Nat.le_of_ble_eq_true rfl) (Nat.le_of_ble_eq_true rfl) ?_
        refine lv_bipush (v := (-92 : Int32)) hx hb dL_refuses_273 (by decide) ?_
        obtain ⟨ht_, hf_⟩ := h
        refine lv_icmp_ne (tgt := 378) hx hb dL_refuses_275 (by decide) (fun c_662 => ?_) (fun c_662 => ?_)
        · have h := ht_ c_662
          exact (show False from h).elim
        · have h := hf_ c_662
          refine lv_aload_n hx hb dL_refuses_278 rfl (lv_at hl 2 rfl) ?_
          refine lv_iconst (v := (4 : Int32)) hx hb dL_refuses_279 (by decide) ?_
          refine lv_iload hx hb dL_refuses_280 (lv_at hl 8 rfl) ?_
          refine lv_iconst (v := (1 : Int32)) hx hb dL_refuses_282 (by decide) ?_
          refine lv_icmp_ne (tgt := 290) hx hb dL_refuses_283 (by decide) (fun c_663 => ?_) (fun c_663 => absurd c_663 (by decide))
          refine lv_iload hx hb dL_refuses_290 (lv_at hl 9 rfl) ?_
          refine lv_iconst (v := (0 : Int32)) hx hb dL_refuses_292 (by decide) ?_
          refine lv_iconst (v := (0 : Int32)) hx hb dL_refuses_293 (by decide) ?_
          have hFc := frw hD hS hA
          refine vx_calli (SX := Unit) (px := fun _ => False) (BX := fun _ _ _ => True) (AX := A) (vx_runSX0 (vx_runSX (As := [.ref h0, .int (4 : Int32), .int (-2147483648 : Int32), .int (0 : Int32), .int (0 : Int32)]) (rest := []) ⟨hx, hb, hml, hown, hts⟩ (c_L_act l hst dC dI cI h0 h0_1 h0_2 h0_3 h0_4 h0_5 h0_6 h0_7 h0_8 h0_9 h0_10 h0_11 h0_12 h0_13 h0_14 h0_15 h0_16 h0_17 h0_18 h0_19 h0_20 h0_21 h0_22 m_658 m_659 h0_25 h0_26 m_660 m_661 h0_29 h0_30 _ u_656 (4 : Int32) (-2147483648 : Int32) (0 : Int32) (0 : Int32) _ h) (vx_cwSW 5 hts (goodIn_up gB_L_act) rfl rfl rfl (by decide +kernel) ⟨Nat.le_of_ble_eq_true rfl, Nat.le_of_ble_eq_true rfl⟩) (pbl_S hP hK hD hN hX hC hFc hS) rfl rfl hl.1 rfl (lv_room (Nat.le_of_ble_eq_true rfl)) dL_refuses_294 ⟨Nat.le_of_ble_eq_true rfl, Nat.le_of_ble_eq_true rfl⟩)) hS (fun q _ h => hFc q h) hFc (fun q _ h => h) (fun E9 ce9 q9 u t H locs ht hvm h hB hz1 hk1 hS hce hcv hcl => h.elim) (fun r_665 u_664 t H locs ht hvm h hB hz1 hk1 hS => ?_)
          obtain ⟨m_666, m_667, m_668, m_669, hP1, hD1⟩ := hB
          rw [ht] at hP1
          have hP : va_P (dC, dI) vwCl (lwO cI h0 h0_1 h0_2 h0_3 h0_4 h0_5 h0_6 h0_7 h0_8 h0_9 h0_10 h0_11 h0_12 h0_13 h0_14 h0_15 h0_16 h0_17 h0_18 h0_19 h0_20 h0_21 h0_22 m_666 m_667 h0_25 h0_26 m_668 m_669 h0_29 h0_30 u_664) H := hP1
          have hD : va_D A (lwO cI h0 h0_1 h0_2 h0_3 h0_4 h0_5 h0_6 h0_7 h0_8 h0_9 h0_10 h0_11 h0_12 h0_13 h0_14 h0_15 h0_16 h0_17 h0_18 h0_19 h0_20 h0_21 h0_22 m_666 m_667 h0_25 h0_26 m_668 m_669 h0_29 h0_30 u_664) := hD1.weaken (fun _ _ _ h => hFc _ h)
          refine W.widen (k := 166) (n := 996) (Nat.le_of_ble_eq_true rfl) (Nat.le_of_ble_eq_true rfl) ?_
          refine lv_bipush (v := (-91 : Int32)) hx hb dL_refuses_297 (by decide) ?_
          obtain ⟨ht_, hf_⟩ := h
          refine lv_icmp_ne (tgt := 378) hx hb dL_refuses_299 (by decide) (fun c_670 => ?_) (fun c_670 => ?_)
          · have h := ht_ c_670
            exact (show False from h).elim
          · have h := hf_ c_670
            refine lv_aload_n hx hb dL_refuses_302 rfl (lv_at hl 2 rfl) ?_
            refine lv_iconst (v := (5 : Int32)) hx hb dL_refuses_303 (by decide) ?_
            refine lv_iload hx hb dL_refuses_304 (lv_at hl 11 rfl) ?_
            refine lv_iconst (v := (0 : Int32)) hx hb dL_refuses_306 (by decide) ?_
            refine lv_iconst (v := (0 : Int32)) hx hb dL_refuses_307 (by decide) ?_
            have hFc := frw hD hS hA
            refine vx_calli (SX := Unit) (px := fun _ => False) (BX := fun _ _ _ => True) (AX := A) (vx_runSX0 (vx_runSX (As := [.ref h0, .int (5 : Int32), .int (-2147483648 : Int32), .int (0 : Int32), .int (0 : Int32)]) (rest := []) ⟨hx, hb, hml, hown, hts⟩ (c_L_act l hst dC dI cI h0 h0_1 h0_2 h0_3 h0_4 h0_5 h0_6 h0_7 h0_8 h0_9 h0_10 h0_11 h0_12 h0_13 h0_14 h0_15 h0_16 h0_17 h0_18 h0_19 h0_20 h0_21 h0_22 m_666 m_667 h0_25 h0_26 m_668 m_669 h0_29 h0_30 _ u_664 (5 : Int32) (-2147483648 : Int32) (0 : Int32) (0 : Int32) _ h) (vx_cwSW 5 hts (goodIn_up gB_L_act) rfl rfl rfl (by decide +kernel) ⟨Nat.le_of_ble_eq_true rfl, Nat.le_of_ble_eq_true rfl⟩) (pbl_S hP hK hD hN hX hC hFc hS) rfl rfl hl.1 rfl (lv_room (Nat.le_of_ble_eq_true rfl)) dL_refuses_308 ⟨Nat.le_of_ble_eq_true rfl, Nat.le_of_ble_eq_true rfl⟩)) hS (fun q _ h => hFc q h) hFc (fun q _ h => h) (fun E9 ce9 q9 u t H locs ht hvm h hB hz1 hk1 hS hce hcv hcl => h.elim) (fun r_672 u_671 t H locs ht hvm h hB hz1 hk1 hS => ?_)
            obtain ⟨m_673, m_674, m_675, m_676, hP1, hD1⟩ := hB
            rw [ht] at hP1
            have hP : va_P (dC, dI) vwCl (lwO cI h0 h0_1 h0_2 h0_3 h0_4 h0_5 h0_6 h0_7 h0_8 h0_9 h0_10 h0_11 h0_12 h0_13 h0_14 h0_15 h0_16 h0_17 h0_18 h0_19 h0_20 h0_21 h0_22 m_673 m_674 h0_25 h0_26 m_675 m_676 h0_29 h0_30 u_671) H := hP1
            have hD : va_D A (lwO cI h0 h0_1 h0_2 h0_3 h0_4 h0_5 h0_6 h0_7 h0_8 h0_9 h0_10 h0_11 h0_12 h0_13 h0_14 h0_15 h0_16 h0_17 h0_18 h0_19 h0_20 h0_21 h0_22 m_673 m_674 h0_25 h0_26 m_675 m_676 h0_29 h0_30 u_671) := hD1.weaken (fun _ _ _ h => hFc _ h)
            refine W.widen (k := 168) (n := 1008) (Nat.le_of_ble_eq_true rfl) (Nat.le_of_ble_eq_true rfl) ?_
            refine lv_bipush (v := (-92 : Int32)) hx hb dL_refuses_311 (by decide) ?_
            obtain ⟨ht_, hf_⟩ := h
            refine lv_icmp_ne (tgt := 378) hx hb dL_refuses_313 (by decide) (fun c_677 => ?_) (fun c_677 => ?_)
            · have h := ht_ c_677
              exact (show False from h).elim
            · have h := hf_ c_677
              refine lv_aload_n hx hb dL_refuses_316 rfl (lv_at hl 2 rfl) ?_
              refine lv_iconst (v := (5 : Int32)) hx hb dL_refuses_317 (by decide) ?_
              refine lv_iconst (v := (0 : Int32)) hx hb dL_refuses_318 (by decide) ?_
              refine lv_iload hx hb dL_refuses_319 (lv_at hl 11 rfl) ?_
              refine lv_iconst (v := (0 : Int32)) hx hb dL_refuses_321 (by decide) ?_
              have hFc := frw hD hS hA
              refine vx_calli (SX := Unit) (px := fun _ => False) (BX := fun _ _ _ => True) (AX := A) (vx_runSX0 (vx_runSX (As := [.ref h0, .int (5 : Int32), .int (0 : Int32), .int (-2147483648 : Int32), .int (0 : Int32)]) (rest := []) ⟨hx, hb, hml, hown, hts⟩ (c_L_act l hst dC dI cI h0 h0_1 h0_2 h0_3 h0_4 h0_5 h0_6 h0_7 h0_8 h0_9 h0_10 h0_11 h0_12 h0_13 h0_14 h0_15 h0_16 h0_17 h0_18 h0_19 h0_20 h0_21 h0_22 m_673 m_674 h0_25 h0_26 m_675 m_676 h0_29 h0_30 _ u_671 (5 : Int32) (0 : Int32) (-2147483648 : Int32) (0 : Int32) _ h) (vx_cwSW 5 hts (goodIn_up gB_L_act) rfl rfl rfl (by decide +kernel) ⟨Nat.le_of_ble_eq_true rfl, Nat.le_of_ble_eq_true rfl⟩) (pbl_S hP hK hD hN hX hC hFc hS) rfl rfl hl.1 rfl (lv_room (Nat.le_of_ble_eq_true rfl)) dL_refuses_322 ⟨Nat.le_of_ble_eq_true rfl, Nat.le_of_ble_eq_true rfl⟩)) hS (fun q _ h => hFc q h) hFc (fun q _ h => h) (fun E9 ce9 q9 u t H locs ht hvm h hB hz1 hk1 hS hce hcv hcl => h.elim) (fun r_679 u_678 t H locs ht hvm h hB hz1 hk1 hS => ?_)
              obtain ⟨m_680, m_681, m_682, m_683, hP1, hD1⟩ := hB
              rw [ht] at hP1
              have hP : va_P (dC, dI) vwCl (lwO cI h0 h0_1 h0_2 h0_3 h0_4 h0_5 h0_6 h0_7 h0_8 h0_9 h0_10 h0_11 h0_12 h0_13 h0_14 h0_15 h0_16 h0_17 h0_18 h0_19 h0_20 h0_21 h0_22 m_680 m_681 h0_25 h0_26 m_682 m_683 h0_29 h0_30 u_678) H := hP1
              have hD : va_D A (lwO cI h0 h0_1 h0_2 h0_3 h0_4 h0_5 h0_6 h0_7 h0_8 h0_9 h0_10 h0_11 h0_12 h0_13 h0_14 h0_15 h0_16 h0_17 h0_18 h0_19 h0_20 h0_21 h0_22 m_680 m_681 h0_25 h0_26 m_682 m_683 h0_29 h0_30 u_678) := hD1.weaken (fun _ _ _ h => hFc _ h)
              refine W.widen (k := 170) (n := 1020) (Nat.le_of_ble_eq_true rfl) (Nat.le_of_ble_eq_true rfl) ?_
              refine lv_bipush (v := (-92 : Int32)) hx hb dL_refuses_325 (by decide) ?_
              obtain ⟨ht_, hf_⟩ := h
              refine lv_icmp_ne (tgt := 378) hx hb dL_refuses_327 (by decide) (fun c_684 => ?_) (fun c_684 => ?_)
              · have h := ht_ c_684
                exact (show False from h).elim
              · have h := hf_ c_684
                have hl : lv_has ls 15 [(0, .ref h0), (1, .int v1), (2, .int v2), (3, .int v3), (4, .int v4), (5, .int (2147483647 : Int32)), (6, .int (3 : Int32)), (7, .int (-2147483648 : Int32)), (8, .int (-2147483648 : Int32)), (9, .int (-2147483648 : Int32)), (10, .int (-2147483648 : Int32)), (11, .int (-2147483648 : Int32)), (12, .int (-2147483648 : Int32))] := lv_sub hl [2, 3, 4, 5, 6, 7, 8, 9, 10, 11, 12, 13, 14] rfl
                refine W.widen (k := 170) (n := 1020) (Nat.le_of_ble_eq_true rfl) (Nat.le_of_ble_eq_true rfl) ?_
                exact sg_L_refuses_14 l hst C0 hK hN hX hC hA h0_1 h0_2 h0_3 h0_4 h0_5 h0_6 h0_7 h0_8 h0_9 h0_10 h0_11 h0_12 h0_13 h0_14 h0_15 h0_16 h0_17 h0_18 h0_19 h0_20 h0_21 h0_22 h0_25 h0_26 h0_29 h0_30 _ u_678 v1 v2 v3 v4 h m_680 m_681 m_682 m_683 _ _ hP hD hS _ hl
set_option maxHeartbeats 4000000 in
set_option maxRecDepth 100000 in
theorem sg_L_refuses_12 (l : Launch) (hst : l.stackTraces = false) {p : Program} {e : Env} {s : State} {m : MethodId} {below : List Frame} {meth : Method} {c : Code} {h0 : Nat} (C0 : LC p s m (([.ref h0] : List Value).toArray) meth c cL_refuses 15 wq_refuses) {dC : Nat → ClassId} {dI : Nat → Nat → Nat} {cI : ClassId} (hK : va_K (dC, dI) vwCl [(cI, .int)] s) (hN : nk s) {A : Nat → Prop} (hX : xj A s) (hC : xnc s) (hA : ∀ q : Nat, s.heap.size ≤ q → A q) (h0_1 h0_2 h0_3 h0_4 h0_5 h0_6 h0_7 h0_8 h0_9 h0_10 h0_11 h0_12 h0_13 h0_14 h0_15 h0_16 h0_17 h0_18 h0_19 h0_20 h0_21 h0_22 h0_25 h0_26 h0_29 h0_30 : Nat) (post : Int32 → TriS → Prop) (s0 : TriS) (v1 : Int32) (v2 : Int32) (v3 : Int32) (v4 : Int32) (h : P_L_refuses_12 s0 v1 v2 v3 v4 post) (h0_23 h0_24 h0_27 h0_28 : Nat) (H : Heap) (locs : List Loc) (hP : va_P (dC, dI) vwCl (lwO cI h0 h0_1 h0_2 h0_3 h0_4 h0_5 h0_6 h0_7 h0_8 h0_9 h0_10 h0_11 h0_12 h0_13 h0_14 h0_15 h0_16 h0_17 h0_18 h0_19 h0_20 h0_21 h0_22 h0_23 h0_24 h0_25 h0_26 h0_27 h0_28 h0_29 h0_30 s0) H) (hD : va_D A (lwO cI h0 h0_1 h0_2 h0_3 h0_4 h0_5 h0_6 h0_7 h0_8 h0_9 h0_10 h0_11 h0_12 h0_13 h0_14 h0_15 h0_16 h0_17 h0_18 h0_19 h0_20 h0_21 h0_22 h0_23 h0_24 h0_25 h0_26 h0_27 h0_28 h0_29 h0_30 s0)) (hS : va_S A s.heap H locs) (ls : Array Slot) (hl : lv_has ls 15 [(0, .ref h0), (1, .int v1), (2, .int v2), (3, .int v3), (4, .int v4), (5, .int (2147483647 : Int32)), (6, .int (2 : Int32)), (12, .int (2147483647 : Int32))]) : W p l e rm_L_refuses s m (([.ref h0] : List Value).toArray) below meth c H locs 142 852 (MQ below (Q_L_refuses dC dI cI h0 h0_1 h0_2 h0_3 h0_4 h0_5 h0_6 h0_7 h0_8 h0_9 h0_10 h0_11 h0_12 h0_13 h0_14 h0_15 h0_16 h0_17 h0_18 h0_19 h0_20 h0_21 h0_22 h0_23 h0_24 h0_25 h0_26 h0_27 h0_28 h0_29 h0_30 A post) (([.ref h0] : List Value).toArray) s mc_L_refuses ms_L_refuses A) (F0 m 528 ls []) := by
  obtain ⟨hx, hb, hr, hml, hown, hts, hlocks⟩ := id C0
  refine lv_aload_n hx hb dL_refuses_528 rfl (lv_at hl 0 rfl) ?_
  refine lv_bipush (v := (14 : Int32)) hx hb dL_refuses_529 (by decide) ?_
  refine lv_iload hx hb dL_refuses_531 (lv_at hl 7 rfl) ?_
  refine lv_iconst (v := (0 : Int32)) hx hb dL_refuses_533 (by decide) ?_
  refine lv_iconst (v := (0 : Int32)) hx hb dL_refuses_534 (by decide) ?_
  have hFc := frw hD hS hA
  refine vx_calli (SX := Unit) (px := fun _ => False) (BX := fun _ _ _ => True) (AX := A) (vx_runSX0 (vx_runSX (As := [.ref h0, .int (14 : Int32), .int (2147483647 : Int32), .int (0 : Int32), .int (0 : Int32)]) (rest := []) ⟨hx, hb, hml, hown, hts⟩ (c_L_act l hst dC dI cI h0 h0_1 h0_2 h0_3 h0_4 h0_5 h0_6 h0_7 h0_8 h0_9 h0_10 h0_11 h0_12 h0_13 h0_14 h0_15 h0_16 h0_17 h0_18 h0_19 h0_20 h0_21 h0_22 h0_23 h0_24 h0_25 h0_26 h0_27 h0_28 h0_29 h0_30 _ s0 (14 : Int32) (2147483647 : Int32) (0 : Int32) (0 : Int32) _ h) (vx_cwSW 5 hts (goodIn_up gB_L_act) rfl rfl rfl (by decide +kernel) ⟨Nat.le_of_ble_eq_true rfl, Nat.le_of_ble_eq_true rfl⟩) (pbl_S hP hK hD hN hX hC hFc hS) rfl rfl hl.1 rfl (lv_room (Nat.le_of_ble_eq_true rfl)) dL_refuses_535 ⟨Nat.le_of_ble_eq_true rfl, Nat.le_of_ble_eq_true rfl⟩)) hS (fun q _ h => hFc q h) hFc (fun q _ h => h) (fun E9 ce9 q9 u t H locs ht hvm h hB hz1 hk1 hS hce hcv hcl => h.elim) (fun r_571 u_570 t H locs ht hvm h hB hz1 hk1 hS => ?_)
  obtain ⟨m_572, m_573, m_574, m_575, hP1, hD1⟩ := hB
  rw [ht] at hP1
  have hP : va_P (dC, dI) vwCl (lwO cI h0 h0_1 h0_2 h0_3 h0_4 h0_5 h0_6 h0_7 h0_8 h0_9 h0_10 h0_11 h0_12 h0_13 h0_14 h0_15 h0_16 h0_17 h0_18 h0_19 h0_20 h0_21 h0_22 m_572 m_573 h0_25 h0_26 m_574 m_575 h0_29 h0_30 u_570) H := hP1
  have hD : va_D A (lwO cI h0 h0_1 h0_2 h0_3 h0_4 h0_5 h0_6 h0_7 h0_8 h0_9 h0_10 h0_11 h0_12 h0_13 h0_14 h0_15 h0_16 h0_17 h0_18 h0_19 h0_20 h0_21 h0_22 m_572 m_573 h0_25 h0_26 m_574 m_575 h0_29 h0_30 u_570) := hD1.weaken (fun _ _ _ h => hFc _ h)
  refine W.widen (k := 144) (n := 864) (Nat.le_of_ble_eq_true rfl) (Nat.le_of_ble_eq_true rfl) ?_
  refine lv_bipush (v := (-92 : Int32)) hx hb dL_refuses_538 (by decide) ?_
  obtain ⟨ht_, hf_⟩ := h
  refine lv_icmp_ne (tgt := 547) hx hb dL_refuses_540 (by decide) (fun c_576 => ?_) (fun c_576 => ?_)
  · have h := ht_ c_576
    exact (show False from h).elim
  · have h := hf_ c_576
    refine lv_iconst (v := (1 : Int32)) hx hb dL_refuses_543 (by decide) ?_
    refine lv_goto (tgt := 548) hx hb dL_refuses_544 (by decide) ?_
    refine lv_istore (lv' := [(13, .int (1 : Int32)), (0, .ref h0), (1, .int v1), (2, .int v2), (3, .int v3), (4, .int v4), (5, .int (2147483647 : Int32)), (6, .int (2 : Int32)), (12, .int (2147483647 : Int32))]) hx hb dL_refuses_548 hl (by decide) rfl (fun ls hl => ?_)
    refine lv_iload hx hb dL_refuses_550 (lv_at hl 0 rfl) ?_
    refine lv_if_ne (tgt := 557) hx hb dL_refuses_552 (by decide) (fun c_577 => ?_) (fun c_577 => absurd c_577 (by decide))
    refine lv_iinc (v := (3 : Int32)) (lv' := [(6, .int (3 : Int32)), (13, .int (1 : Int32)), (0, .ref h0), (1, .int v1), (2, .int v2), (3, .int v3), (4, .int v4), (5, .int (2147483647 : Int32)), (12, .int (2147483647 : Int32))]) hx hb dL_refuses_557 hl (k := 7) rfl (by decide) (by decide) rfl (fun ls hl => ?_)
    refine lv_goto (tgt := 28) hx hb dL_refuses_560 (by decide) ?_
    refine lv_iload hx hb dL_refuses_28 (lv_at hl 0 rfl) ?_
    refine lv_iconst (v := (4 : Int32)) hx hb dL_refuses_30 (by decide) ?_
    refine lv_icmp_ge (tgt := 563) hx hb dL_refuses_31 (by decide) (fun c_578 => absurd c_578 (by decide)) (fun c_578 => ?_)
    refine lv_iload hx hb dL_refuses_34 (lv_at hl 0 rfl) ?_
    refine lv_if_ne (tgt := 43) hx hb dL_refuses_36 (by decide) (fun c_579 => ?_) (fun c_579 => absurd c_579 (by decide))
    refine lv_iload hx hb dL_refuses_43 (lv_at hl 0 rfl) ?_
    refine lv_iconst (v := (2 : Int32)) hx hb dL_refuses_45 (by decide) ?_
    refine lv_icmp_ne (tgt := 54) hx hb dL_refuses_46 (by decide) (fun c_580 => ?_) (fun c_580 => absurd c_580 (by decide))
    refine lv_iload hx hb dL_refuses_54 (lv_at hl 7 rfl) ?_
    refine lv_ineg hx hb dL_refuses_56 ?_
    refine lv_lit (b := (-2147483647 : Int32)) (by decide) ?_
    refine lv_iconst (v := (1 : Int32)) hx hb dL_refuses_57 (by decide) ?_
    refine lv_isub hx hb dL_refuses_58 ?_
    refine lv_lit (b := (-2147483648 : Int32)) (by decide) ?_
    refine lv_istore (lv' := [(7, .int (-2147483648 : Int32)), (6, .int (3 : Int32)), (13, .int (1 : Int32)), (0, .ref h0), (1, .int v1), (2, .int v2), (3, .int v3), (4, .int v4), (5, .int (2147483647 : Int32)), (12, .int (2147483647 : Int32))]) hx hb dL_refuses_59 hl (by decide) rfl (fun ls hl => ?_)
    refine lv_iload hx hb dL_refuses_61 (lv_at hl 1 rfl) ?_
    refine lv_iconst (v := (1 : Int32)) hx hb dL_refuses_63 (by decide) ?_
    refine lv_icmp_ne (tgt := 72) hx hb dL_refuses_64 (by decide) (fun c_581 => ?_) (fun c_581 => absurd c_581 (by decide))
    refine lv_iload hx hb dL_refuses_72 (lv_at hl 0 rfl) ?_
    refine lv_istore (lv' := [(8, .int (-2147483648 : Int32)), (7, .int (-2147483648 : Int32)), (6, .int (3 : Int32)), (13, .int (1 : Int32)), (0, .ref h0), (1, .int v1), (2, .int v2), (3, .int v3), (4, .int v4), (5, .int (2147483647 : Int32)), (12, .int (2147483647 : Int32))]) hx hb dL_refuses_74 hl (by decide) rfl (fun ls hl => ?_)
    refine lv_iload hx hb dL_refuses_76 (lv_at hl 2 rfl) ?_
    refine lv_if_ne (tgt := 86) hx hb dL_refuses_78 (by decide) (fun c_582 => ?_) (fun c_582 => absurd c_582 (by decide))
    refine lv_iload hx hb dL_refuses_86 (lv_at hl 0 rfl) ?_
    refine lv_istore (lv' := [(9, .int (-2147483648 : Int32)), (8, .int (-2147483648 : Int32)), (7, .int (-2147483648 : Int32)), (6, .int (3 : Int32)), (13, .int (1 : Int32)), (0, .ref h0), (1, .int v1), (2, .int v2), (3, .int v3), (4, .int v4), (5, .int (2147483647 : Int32)), (12, .int (2147483647 : Int32))]) hx hb dL_refuses_88 hl (by decide) rfl (fun ls hl => ?_)
    refine lv_iload hx hb dL_refuses_90 (lv_at hl 3 rfl) ?_
    refine lv_if_ne (tgt := 100) hx hb dL_refuses_92 (by decide) (fun c_583 => ?_) (fun c_583 => absurd c_583 (by decide))
    refine lv_iload hx hb dL_refuses_100 (lv_at hl 1 rfl) ?_
    refine lv_istore (lv' := [(10, .int (-2147483648 : Int32)), (9, .int (-2147483648 : Int32)), (8, .int (-2147483648 : Int32)), (7, .int (-2147483648 : Int32)), (6, .int (3 : Int32)), (13, .int (1 : Int32)), (0, .ref h0), (1, .int v1), (2, .int v2), (3, .int v3), (4, .int v4), (5, .int (2147483647 : Int32)), (12, .int (2147483647 : Int32))]) hx hb dL_refuses_102 hl (by decide) rfl (fun ls hl => ?_)
    refine lv_iload hx hb dL_refuses_104 (lv_at hl 4 rfl) ?_
    refine lv_iconst (v := (1 : Int32)) hx hb dL_refuses_106 (by decide) ?_
    refine lv_icmp_ne (tgt := 114) hx hb dL_refuses_107 (by decide) (fun c_584 => ?_) (fun c_584 => absurd c_584 (by decide))
    refine lv_iload hx hb dL_refuses_114 (lv_at hl 3 rfl) ?_
    refine lv_istore (lv' := [(11, .int (-2147483648 : Int32)), (10, .int (-2147483648 : Int32)), (9, .int (-2147483648 : Int32)), (8, .int (-2147483648 : Int32)), (7, .int (-2147483648 : Int32)), (6, .int (3 : Int32)), (13, .int (1 : Int32)), (0, .ref h0), (1, .int v1), (2, .int v2), (3, .int v3), (4, .int v4), (5, .int (2147483647 : Int32)), (12, .int (2147483647 : Int32))]) hx hb dL_refuses_116 hl (by decide) rfl (fun ls hl => ?_)
    refine lv_iload hx hb dL_refuses_118 (lv_at hl 5 rfl) ?_
    refine lv_iconst (v := (1 : Int32)) hx hb dL_refuses_120 (by decide) ?_
    refine lv_icmp_ne (tgt := 128) hx hb dL_refuses_121 (by decide) (fun c_585 => ?_) (fun c_585 => absurd c_585 (by decide))
    refine lv_iload hx hb dL_refuses_128 (lv_at hl 4 rfl) ?_
    refine lv_istore (lv' := [(12, .int (-2147483648 : Int32)), (11, .int (-2147483648 : Int32)), (10, .int (-2147483648 : Int32)), (9, .int (-2147483648 : Int32)), (8, .int (-2147483648 : Int32)), (7, .int (-2147483648 : Int32)), (6, .int (3 : Int32)), (13, .int (1 : Int32)), (0, .ref h0), (1, .int v1), (2, .int v2), (3, .int v3), (4, .int v4), (5, .int (2147483647 : Int32))]) hx hb dL_refuses_130 hl (by decide) rfl (fun ls hl => ?_)
    refine lv_iconst (v := (1 : Int32)) hx hb dL_refuses_132 (by decide) ?_
    refine lv_istore (lv' := [(13, .int (1 : Int32)), (12, .int (-2147483648 : Int32)), (11, .int (-2147483648 : Int32)), (10, .int (-2147483648 : Int32)), (9, .int (-2147483648 : Int32)), (8, .int (-2147483648 : Int32)), (7, .int (-2147483648 : Int32)), (6, .int (3 : Int32)), (0, .ref h0), (1, .int v1), (2, .int v2), (3, .int v3), (4, .int v4), (5, .int (2147483647 : Int32))]) hx hb dL_refuses_133 hl (by decide) rfl (fun ls hl => ?_)
    refine lv_iconst (v := (0 : Int32)) hx hb dL_refuses_135 (by decide) ?_
    refine lv_istore (lv' := [(14, .int (0 : Int32)), (13, .int (1 : Int32)), (12, .int (-2147483648 : Int32)), (11, .int (-2147483648 : Int32)), (10, .int (-2147483648 : Int32)), (9, .int (-2147483648 : Int32)), (8, .int (-2147483648 : Int32)), (7, .int (-2147483648 : Int32)), (6, .int (3 : Int32)), (0, .ref h0), (1, .int v1), (2, .int v2), (3, .int v3), (4, .int v4), (5, .int (2147483647 : Int32))]) hx hb dL_refuses_136 hl (by decide) rfl (fun ls hl => ?_)
    refine lv_iload hx hb dL_refuses_138 (lv_at hl 0 rfl) ?_
    refine lv_iconst (v := (2 : Int32)) hx hb dL_refuses_140 (by decide) ?_
    refine lv_icmp_ge (tgt := 207) hx hb dL_refuses_141 (by decide) (fun c_586 => absurd c_586 (by decide)) (fun c_586 => ?_)
    refine lv_iload hx hb dL_refuses_144 (lv_at hl 1 rfl) ?_
    refine lv_if_eq (tgt := 198) hx hb dL_refuses_146 (by decide) (fun c_587 => absurd c_587 (by decide)) (fun c_587 => ?_)
    refine lv_aload_n hx hb dL_refuses_149 rfl (lv_at hl 9 rfl) ?_
    refine lv_iload hx hb dL_refuses_150 (lv_at hl 0 rfl) ?_
    refine lv_iload hx hb dL_refuses_152 (lv_at hl 6 rfl) ?_
    refine lv_iconst (v := (0 : Int32)) hx hb dL_refuses_154 (by decide) ?_
    refine lv_iconst (v := (0 : Int32)) hx hb dL_refuses_155 (by decide) ?_
    have hFc := frw hD hS hA
    refine vx_calli (SX := Unit) (px := fun _ => False) (BX := fun _ _ _ => True) (AX := A) (vx_runSX0 (vx_runSX (As := [.ref h0, .int (0 : Int32), .int (-2147483648 : Int32), .int (0 : Int32), .int (0 : Int32)]) (rest := []) ⟨hx, hb, hml, hown, hts⟩ (c_L_act l hst dC dI cI h0 h0_1 h0_2 h0_3 h0_4 h0_5 h0_6 h0_7 h0_8 h0_9 h0_10 h0_11 h0_12 h0_13 h0_14 h0_15 h0_16 h0_17 h0_18 h0_19 h0_20 h0_21 h0_22 m_572 m_573 h0_25 h0_26 m_574 m_575 h0_29 h0_30 _ u_570 (0 : Int32) (-2147483648 : Int32) (0 : Int32) (0 : Int32) _ h) (vx_cwSW 5 hts (goodIn_up gB_L_act) rfl rfl rfl (by decide +kernel) ⟨Nat.le_of_ble_eq_true rfl, Nat.le_of_ble_eq_true rfl⟩) (pbl_S hP hK hD hN hX hC hFc hS) rfl rfl hl.1 rfl (lv_room (Nat.le_of_ble_eq_true rfl)) dL_refuses_156 ⟨Nat.le_of_ble_eq_true rfl, Nat.le_of_ble_eq_true rfl⟩)) hS (fun q _ h => hFc q h) hFc (fun q _ h => h) (fun E9 ce9 q9 u t H locs ht hvm h hB hz1 hk1 hS hce hcv hcl => h.elim) (fun r_589 u_588 t H locs ht hvm h hB hz1 hk1 hS => ?_)
    obtain ⟨m_590, m_591, m_592, m_593, hP1, hD1⟩ := hB
    rw [ht] at hP1
    have hP : va_P (dC, dI) vwCl (lwO cI h0 h0_1 h0_2 h0_3 h0_4 h0_5 h0_6 h0_7 h0_8 h0_9 h0_10 h0_11 h0_12 h0_13 h0_14 h0_15 h0_16 h0_17 h0_18 h0_19 h0_20 h0_21 h0_22 m_590 m_591 h0_25 h0_26 m_592 m_593 h0_29 h0_30 u_588) H := hP1
    have hD : va_D A (lwO cI h0 h0_1 h0_2 h0_3 h0_4 h0_5 h0_6 h0_7 h0_8 h0_9 h0_10 h0_11 h0_12 h0_13 h0_14 h0_15 h0_16 h0_17 h0_18 h0_19 h0_20 h0_21 h0_22 m_590 m_591 h0_25 h0_26 m_592 m_593 h0_29 h0_30 u_588) := hD1.weaken (fun _ _ _ h => hFc _ h)
    refine W.widen (k := 146) (n := 876) (Nat.le_of_ble_eq_true rfl) (Nat.le_of_ble_eq_true rfl) ?_
    refine lv_bipush (v := (-92 : Int32)) hx hb dL_refuses_159 (by decide) ?_
    obtain ⟨ht_, hf_⟩ := h
    refine lv_icmp_ne (tgt := 198) hx hb dL_refuses_161 (by decide) (fun c_594 => ?_) (fun c_594 => ?_)
    · have h := ht_ c_594
      exact (show False from h).elim
    · have h := hf_ c_594
      refine lv_aload_n hx hb dL_refuses_164 rfl (lv_at hl 9 rfl) ?_
      refine lv_iload hx hb dL_refuses_165 (lv_at hl 0 rfl) ?_
      refine lv_iconst (v := (0 : Int32)) hx hb dL_refuses_167 (by decide) ?_
      refine lv_iload hx hb dL_refuses_168 (lv_at hl 6 rfl) ?_
      refine lv_iconst (v := (0 : Int32)) hx hb dL_refuses_170 (by decide) ?_
      have hFc := frw hD hS hA
      refine vx_calli (SX := Unit) (px := fun _ => False) (BX := fun _ _ _ => True) (AX := A) (vx_runSX0 (vx_runSX (As := [.ref h0, .int (0 : Int32), .int (0 : Int32), .int (-2147483648 : Int32), .int (0 : Int32)]) (rest := []) ⟨hx, hb, hml, hown, hts⟩ (c_L_act l hst dC dI cI h0 h0_1 h0_2 h0_3 h0_4 h0_5 h0_6 h0_7 h0_8 h0_9 h0_10 h0_11 h0_12 h0_13 h0_14 h0_15 h0_16 h0_17 h0_18 h0_19 h0_20 h0_21 h0_22 m_590 m_591 h0_25 h0_26 m_592 m_593 h0_29 h0_30 _ u_588 (0 : Int32) (0 : Int32) (-2147483648 : Int32) (0 : Int32) _ h) (vx_cwSW 5 hts (goodIn_up gB_L_act) rfl rfl rfl (by decide +kernel) ⟨Nat.le_of_ble_eq_true rfl, Nat.le_of_ble_eq_true rfl⟩) (pbl_S hP hK hD hN hX hC hFc hS) rfl rfl hl.1 rfl (lv_room (Nat.le_of_ble_eq_true rfl)) dL_refuses_171 ⟨Nat.le_of_ble_eq_true rfl, Nat.le_of_ble_eq_true rfl⟩)) hS (fun q _ h => hFc q h) hFc (fun q _ h => h) (fun E9 ce9 q9 u t H locs ht hvm h hB hz1 hk1 hS hce hcv hcl => h.elim) (fun r_596 u_595 t H locs ht hvm h hB hz1 hk1 hS => ?_)
      obtain ⟨m_597, m_598, m_599, m_600, hP1, hD1⟩ := hB
      rw [ht] at hP1
      have hP : va_P (dC, dI) vwCl (lwO cI h0 h0_1 h0_2 h0_3 h0_4 h0_5 h0_6 h0_7 h0_8 h0_9 h0_10 h0_11 h0_12 h0_13 h0_14 h0_15 h0_16 h0_17 h0_18 h0_19 h0_20 h0_21 h0_22 m_597 m_598 h0_25 h0_26 m_599 m_600 h0_29 h0_30 u_595) H := hP1
      have hD : va_D A (lwO cI h0 h0_1 h0_2 h0_3 h0_4 h0_5 h0_6 h0_7 h0_8 h0_9 h0_10 h0_11 h0_12 h0_13 h0_14 h0_15 h0_16 h0_17 h0_18 h0_19 h0_20 h0_21 h0_22 m_597 m_598 h0_25 h0_26 m_599 m_600 h0_29 h0_30 u_595) := hD1.weaken (fun _ _ _ h => hFc _ h)
      refine W.widen (k := 148) (n := 888) (Nat.le_of_ble_eq_true rfl) (Nat.le_of_ble_eq_true rfl) ?_
      refine lv_bipush (v := (-92 : Int32)) hx hb dL_refuses_174 (by decide) ?_
      obtain ⟨ht_, hf_⟩ := h
      refine lv_icmp_ne (tgt := 198) hx hb dL_refuses_176 (by decide) (fun c_601 => ?_) (fun c_601 => ?_)
      · have h := ht_ c_601
        exact (show False from h).elim
      · have h := hf_ c_601
        refine lv_aload_n hx hb dL_refuses_179 rfl (lv_at hl 9 rfl) ?_
        refine lv_iload hx hb dL_refuses_180 (lv_at hl 0 rfl) ?_
        refine lv_iconst (v := (0 : Int32)) hx hb dL_refuses_182 (by decide) ?_
        refine lv_iconst (v := (0 : Int32)) hx hb dL_refuses_183 (by decide) ?_
        refine lv_iload hx hb dL_refuses_184 (lv_at hl 6 rfl) ?_
        have hFc := frw hD hS hA
        refine vx_calli (SX := Unit) (px := fun _ => False) (BX := fun _ _ _ => True) (AX := A) (vx_runSX0 (vx_runSX (As := [.ref h0, .int (0 : Int32), .int (0 : Int32), .int (0 : Int32), .int (-2147483648 : Int32)]) (rest := []) ⟨hx, hb, hml, hown, hts⟩ (c_L_act l hst dC dI cI h0 h0_1 h0_2 h0_3 h0_4 h0_5 h0_6 h0_7 h0_8 h0_9 h0_10 h0_11 h0_12 h0_13 h0_14 h0_15 h0_16 h0_17 h0_18 h0_19 h0_20 h0_21 h0_22 m_597 m_598 h0_25 h0_26 m_599 m_600 h0_29 h0_30 _ u_595 (0 : Int32) (0 : Int32) (0 : Int32) (-2147483648 : Int32) _ h) (vx_cwSW 5 hts (goodIn_up gB_L_act) rfl rfl rfl (by decide +kernel) ⟨Nat.le_of_ble_eq_true rfl, Nat.le_of_ble_eq_true rfl⟩) (pbl_S hP hK hD hN hX hC hFc hS) rfl rfl hl.1 rfl (lv_room (Nat.le_of_ble_eq_true rfl)) dL_refuses_186 ⟨Nat.le_of_ble_eq_true rfl, Nat.le_of_ble_eq_true rfl⟩)) hS (fun q _ h => hFc q h) hFc (fun q _ h => h) (fun E9 ce9 q9 u t H locs ht hvm h hB hz1 hk1 hS hce hcv hcl => h.elim) (fun r_603 u_602 t H locs ht hvm h hB hz1 hk1 hS => ?_)
        obtain ⟨m_604, m_605, m_606, m_607, hP1, hD1⟩ := hB
        rw [ht] at hP1
        have hP : va_P (dC, dI) vwCl (lwO cI h0 h0_1 h0_2 h0_3 h0_4 h0_5 h0_6 h0_7 h0_8 h0_9 h0_10 h0_11 h0_12 h0_13 h0_14 h0_15 h0_16 h0_17 h0_18 h0_19 h0_20 h0_21 h0_22 m_604 m_605 h0_25 h0_26 m_606 m_607 h0_29 h0_30 u_602) H := hP1
        have hD : va_D A (lwO cI h0 h0_1 h0_2 h0_3 h0_4 h0_5 h0_6 h0_7 h0_8 h0_9 h0_10 h0_11 h0_12 h0_13 h0_14 h0_15 h0_16 h0_17 h0_18 h0_19 h0_20 h0_21 h0_22 m_604 m_605 h0_25 h0_26 m_606 m_607 h0_29 h0_30 u_602) := hD1.weaken (fun _ _ _ h => hFc _ h)
        refine W.widen (k := 150) (n := 900) (Nat.le_of_ble_eq_true rfl) (Nat.le_of_ble_eq_true rfl) ?_
        refine lv_bipush (v := (-92 : Int32)) hx hb dL_refuses_189 (by decide) ?_
        obtain ⟨ht_, hf_⟩ := h
        refine lv_icmp_ne (tgt := 198) hx hb dL_refuses_191 (by decide) (fun c_608 => ?_) (fun c_608 => ?_)
        · have h := ht_ c_608
          exact (show False from h).elim
        · have h := hf_ c_608
          refine lv_iconst (v := (1 : Int32)) hx hb dL_refuses_194 (by decide) ?_
          refine lv_goto (tgt := 199) hx hb dL_refuses_195 (by decide) ?_
          refine lv_istore (lv' := [(13, .int (1 : Int32)), (14, .int (0 : Int32)), (12, .int (-2147483648 : Int32)), (11, .int (-2147483648 : Int32)), (10, .int (-2147483648 : Int32)), (9, .int (-2147483648 : Int32)), (8, .int (-2147483648 : Int32)), (7, .int (-2147483648 : Int32)), (6, .int (3 : Int32)), (0, .ref h0), (1, .int v1), (2, .int v2), (3, .int v3), (4, .int v4), (5, .int (2147483647 : Int32))]) hx hb dL_refuses_199 hl (by decide) rfl (fun ls hl => ?_)
          refine lv_iinc (v := (1 : Int32)) (lv' := [(14, .int (1 : Int32)), (13, .int (1 : Int32)), (12, .int (-2147483648 : Int32)), (11, .int (-2147483648 : Int32)), (10, .int (-2147483648 : Int32)), (9, .int (-2147483648 : Int32)), (8, .int (-2147483648 : Int32)), (7, .int (-2147483648 : Int32)), (6, .int (3 : Int32)), (0, .ref h0), (1, .int v1), (2, .int v2), (3, .int v3), (4, .int v4), (5, .int (2147483647 : Int32))]) hx hb dL_refuses_201 hl (k := 1) rfl (by decide) (by decide) rfl (fun ls hl => ?_)
          refine lv_goto (tgt := 138) hx hb dL_refuses_204 (by decide) ?_
          refine lv_iload hx hb dL_refuses_138 (lv_at hl 0 rfl) ?_
          refine lv_iconst (v := (2 : Int32)) hx hb dL_refuses_140 (by decide) ?_
          refine lv_icmp_ge (tgt := 207) hx hb dL_refuses_141 (by decide) (fun c_609 => absurd c_609 (by decide)) (fun c_609 => ?_)
          refine lv_iload hx hb dL_refuses_144 (lv_at hl 1 rfl) ?_
          refine lv_if_eq (tgt := 198) hx hb dL_refuses_146 (by decide) (fun c_610 => absurd c_610 (by decide)) (fun c_610 => ?_)
          refine lv_aload_n hx hb dL_refuses_149 rfl (lv_at hl 9 rfl) ?_
          refine lv_iload hx hb dL_refuses_150 (lv_at hl 0 rfl) ?_
          refine lv_iload hx hb dL_refuses_152 (lv_at hl 6 rfl) ?_
          refine lv_iconst (v := (0 : Int32)) hx hb dL_refuses_154 (by decide) ?_
          refine lv_iconst (v := (0 : Int32)) hx hb dL_refuses_155 (by decide) ?_
          have hFc := frw hD hS hA
          refine vx_calli (SX := Unit) (px := fun _ => False) (BX := fun _ _ _ => True) (AX := A) (vx_runSX0 (vx_runSX (As := [.ref h0, .int (1 : Int32), .int (-2147483648 : Int32), .int (0 : Int32), .int (0 : Int32)]) (rest := []) ⟨hx, hb, hml, hown, hts⟩ (c_L_act l hst dC dI cI h0 h0_1 h0_2 h0_3 h0_4 h0_5 h0_6 h0_7 h0_8 h0_9 h0_10 h0_11 h0_12 h0_13 h0_14 h0_15 h0_16 h0_17 h0_18 h0_19 h0_20 h0_21 h0_22 m_604 m_605 h0_25 h0_26 m_606 m_607 h0_29 h0_30 _ u_602 (1 : Int32) (-2147483648 : Int32) (0 : Int32) (0 : Int32) _ h) (vx_cwSW 5 hts (goodIn_up gB_L_act) rfl rfl rfl (by decide +kernel) ⟨Nat.le_of_ble_eq_true rfl, Nat.le_of_ble_eq_true rfl⟩) (pbl_S hP hK hD hN hX hC hFc hS) rfl rfl hl.1 rfl (lv_room (Nat.le_of_ble_eq_true rfl)) dL_refuses_156 ⟨Nat.le_of_ble_eq_true rfl, Nat.le_of_ble_eq_true rfl⟩)) hS (fun q _ h => hFc q h) hFc (fun q _ h => h) (fun E9 ce9 q9 u t H locs ht hvm h hB hz1 hk1 hS hce hcv hcl => h.elim) (fun r_612 u_611 t H locs ht hvm h hB hz1 hk1 hS => ?_)
          obtain ⟨m_613, m_614, m_615, m_616, hP1, hD1⟩ := hB
          rw [ht] at hP1
          have hP : va_P (dC, dI) vwCl (lwO cI h0 h0_1 h0_2 h0_3 h0_4 h0_5 h0_6 h0_7 h0_8 h0_9 h0_10 h0_11 h0_12 h0_13 h0_14 h0_15 h0_16 h0_17 h0_18 h0_19 h0_20 h0_21 h0_22 m_613 m_614 h0_25 h0_26 m_615 m_616 h0_29 h0_30 u_611) H := hP1
          have hD : va_D A (lwO cI h0 h0_1 h0_2 h0_3 h0_4 h0_5 h0_6 h0_7 h0_8 h0_9 h0_10 h0_11 h0_12 h0_13 h0_14 h0_15 h0_16 h0_17 h0_18 h0_19 h0_20 h0_21 h0_22 m_613 m_614 h0_25 h0_26 m_615 m_616 h0_29 h0_30 u_611) := hD1.weaken (fun _ _ _ h => hFc _ h)
          refine W.widen (k := 152) (n := 912) (Nat.le_of_ble_eq_true rfl) (Nat.le_of_ble_eq_true rfl) ?_
          refine lv_bipush (v := (-92 : Int32)) hx hb dL_refuses_159 (by decide) ?_
          obtain ⟨ht_, hf_⟩ := h
          refine lv_icmp_ne (tgt := 198) hx hb dL_refuses_161 (by decide) (fun c_617 => ?_) (fun c_617 => ?_)
          · have h := ht_ c_617
            exact (show False from h).elim
          · have h := hf_ c_617
            refine lv_aload_n hx hb dL_refuses_164 rfl (lv_at hl 9 rfl) ?_
            refine lv_iload hx hb dL_refuses_165 (lv_at hl 0 rfl) ?_
            refine lv_iconst (v := (0 : Int32)) hx hb dL_refuses_167 (by decide) ?_
            refine lv_iload hx hb dL_refuses_168 (lv_at hl 6 rfl) ?_
            refine lv_iconst (v := (0 : Int32)) hx hb dL_refuses_170 (by decide) ?_
            have hFc := frw hD hS hA
            refine vx_calli (SX := Unit) (px := fun _ => False) (BX := fun _ _ _ => True) (AX := A) (vx_runSX0 (vx_runSX (As := [.ref h0, .int (1 : Int32), .int (0 : Int32), .int (-2147483648 : Int32), .int (0 : Int32)]) (rest := []) ⟨hx, hb, hml, hown, hts⟩ (c_L_act l hst dC dI cI h0 h0_1 h0_2 h0_3 h0_4 h0_5 h0_6 h0_7 h0_8 h0_9 h0_10 h0_11 h0_12 h0_13 h0_14 h0_15 h0_16 h0_17 h0_18 h0_19 h0_20 h0_21 h0_22 m_613 m_614 h0_25 h0_26 m_615 m_616 h0_29 h0_30 _ u_611 (1 : Int32) (0 : Int32) (-2147483648 : Int32) (0 : Int32) _ h) (vx_cwSW 5 hts (goodIn_up gB_L_act) rfl rfl rfl (by decide +kernel) ⟨Nat.le_of_ble_eq_true rfl, Nat.le_of_ble_eq_true rfl⟩) (pbl_S hP hK hD hN hX hC hFc hS) rfl rfl hl.1 rfl (lv_room (Nat.le_of_ble_eq_true rfl)) dL_refuses_171 ⟨Nat.le_of_ble_eq_true rfl, Nat.le_of_ble_eq_true rfl⟩)) hS (fun q _ h => hFc q h) hFc (fun q _ h => h) (fun E9 ce9 q9 u t H locs ht hvm h hB hz1 hk1 hS hce hcv hcl => h.elim) (fun r_619 u_618 t H locs ht hvm h hB hz1 hk1 hS => ?_)
            obtain ⟨m_620, m_621, m_622, m_623, hP1, hD1⟩ := hB
            rw [ht] at hP1
            have hP : va_P (dC, dI) vwCl (lwO cI h0 h0_1 h0_2 h0_3 h0_4 h0_5 h0_6 h0_7 h0_8 h0_9 h0_10 h0_11 h0_12 h0_13 h0_14 h0_15 h0_16 h0_17 h0_18 h0_19 h0_20 h0_21 h0_22 m_620 m_621 h0_25 h0_26 m_622 m_623 h0_29 h0_30 u_618) H := hP1
            have hD : va_D A (lwO cI h0 h0_1 h0_2 h0_3 h0_4 h0_5 h0_6 h0_7 h0_8 h0_9 h0_10 h0_11 h0_12 h0_13 h0_14 h0_15 h0_16 h0_17 h0_18 h0_19 h0_20 h0_21 h0_22 m_620 m_621 h0_25 h0_26 m_622 m_623 h0_29 h0_30 u_618) := hD1.weaken (fun _ _ _ h => hFc _ h)
            refine W.widen (k := 154) (n := 924) (Nat.le_of_ble_eq_true rfl) (Nat.le_of_ble_eq_true rfl) ?_
            refine lv_bipush (v := (-92 : Int32)) hx hb dL_refuses_174 (by decide) ?_
            obtain ⟨ht_, hf_⟩ := h
            refine lv_icmp_ne (tgt := 198) hx hb dL_refuses_176 (by decide) (fun c_624 => ?_) (fun c_624 => ?_)
            · have h := ht_ c_624
              exact (show False from h).elim
            · have h := hf_ c_624
              refine lv_aload_n hx hb dL_refuses_179 rfl (lv_at hl 9 rfl) ?_
              refine lv_iload hx hb dL_refuses_180 (lv_at hl 0 rfl) ?_
              refine lv_iconst (v := (0 : Int32)) hx hb dL_refuses_182 (by decide) ?_
              refine lv_iconst (v := (0 : Int32)) hx hb dL_refuses_183 (by decide) ?_
              refine lv_iload hx hb dL_refuses_184 (lv_at hl 6 rfl) ?_
              have hFc := frw hD hS hA
              refine vx_calli (SX := Unit) (px := fun _ => False) (BX := fun _ _ _ => True) (AX := A) (vx_runSX0 (vx_runSX (As := [.ref h0, .int (1 : Int32), .int (0 : Int32), .int (0 : Int32), .int (-2147483648 : Int32)]) (rest := []) ⟨hx, hb, hml, hown, hts⟩ (c_L_act l hst dC dI cI h0 h0_1 h0_2 h0_3 h0_4 h0_5 h0_6 h0_7 h0_8 h0_9 h0_10 h0_11 h0_12 h0_13 h0_14 h0_15 h0_16 h0_17 h0_18 h0_19 h0_20 h0_21 h0_22 m_620 m_621 h0_25 h0_26 m_622 m_623 h0_29 h0_30 _ u_618 (1 : Int32) (0 : Int32) (0 : Int32) (-2147483648 : Int32) _ h) (vx_cwSW 5 hts (goodIn_up gB_L_act) rfl rfl rfl (by decide +kernel) ⟨Nat.le_of_ble_eq_true rfl, Nat.le_of_ble_eq_true rfl⟩) (pbl_S hP hK hD hN hX hC hFc hS) rfl rfl hl.1 rfl (lv_room (Nat.le_of_ble_eq_true rfl)) dL_refuses_186 ⟨Nat.le_of_ble_eq_true rfl, Nat.le_of_ble_eq_true rfl⟩)) hS (fun q _ h => hFc q h) hFc (fun q _ h => h) (fun E9 ce9 q9 u t H locs ht hvm h hB hz1 hk1 hS hce hcv hcl => h.elim) (fun r_626 u_625 t H locs ht hvm h hB hz1 hk1 hS => ?_)
              obtain ⟨m_627, m_628, m_629, m_630, hP1, hD1⟩ := hB
              rw [ht] at hP1
              have hP : va_P (dC, dI) vwCl (lwO cI h0 h0_1 h0_2 h0_3 h0_4 h0_5 h0_6 h0_7 h0_8 h0_9 h0_10 h0_11 h0_12 h0_13 h0_14 h0_15 h0_16 h0_17 h0_18 h0_19 h0_20 h0_21 h0_22 m_627 m_628 h0_25 h0_26 m_629 m_630 h0_29 h0_30 u_625) H := hP1
              have hD : va_D A (lwO cI h0 h0_1 h0_2 h0_3 h0_4 h0_5 h0_6 h0_7 h0_8 h0_9 h0_10 h0_11 h0_12 h0_13 h0_14 h0_15 h0_16 h0_17 h0_18 h0_19 h0_20 h0_21 h0_22 m_627 m_628 h0_25 h0_26 m_629 m_630 h0_29 h0_30 u_625) := hD1.weaken (fun _ _ _ h => hFc _ h)
              refine W.widen (k := 156) (n := 936) (Nat.le_of_ble_eq_true rfl) (Nat.le_of_ble_eq_true rfl) ?_
              refine lv_bipush (v := (-92 : Int32)) hx hb dL_refuses_189 (by decide) ?_
              obtain ⟨ht_, hf_⟩ := h
              refine lv_icmp_ne (tgt := 198) hx hb dL_refuses_191 (by decide) (fun c_631 => ?_) (fun c_631 => ?_)
              · have h := ht_ c_631
                exact (show False from h).elim
              · have h := hf_ c_631
                have hl : lv_has ls 15 [(0, .ref h0), (1, .int v1), (2, .int v2), (3, .int v3), (4, .int v4), (5, .int (2147483647 : Int32)), (6, .int (3 : Int32)), (7, .int (-2147483648 : Int32)), (8, .int (-2147483648 : Int32)), (9, .int (-2147483648 : Int32)), (10, .int (-2147483648 : Int32)), (11, .int (-2147483648 : Int32)), (12, .int (-2147483648 : Int32)), (14, .int (1 : Int32))] := lv_sub hl [9, 10, 11, 12, 13, 14, 8, 7, 6, 5, 4, 3, 2, 0] rfl
                refine W.widen (k := 156) (n := 936) (Nat.le_of_ble_eq_true rfl) (Nat.le_of_ble_eq_true rfl) ?_
                exact sg_L_refuses_13 l hst C0 hK hN hX hC hA h0_1 h0_2 h0_3 h0_4 h0_5 h0_6 h0_7 h0_8 h0_9 h0_10 h0_11 h0_12 h0_13 h0_14 h0_15 h0_16 h0_17 h0_18 h0_19 h0_20 h0_21 h0_22 h0_25 h0_26 h0_29 h0_30 _ u_625 v1 v2 v3 v4 h m_627 m_628 m_629 m_630 _ _ hP hD hS _ hl
set_option maxHeartbeats 4000000 in
set_option maxRecDepth 100000 in
theorem sg_L_refuses_11 (l : Launch) (hst : l.stackTraces = false) {p : Program} {e : Env} {s : State} {m : MethodId} {below : List Frame} {meth : Method} {c : Code} {h0 : Nat} (C0 : LC p s m (([.ref h0] : List Value).toArray) meth c cL_refuses 15 wq_refuses) {dC : Nat → ClassId} {dI : Nat → Nat → Nat} {cI : ClassId} (hK : va_K (dC, dI) vwCl [(cI, .int)] s) (hN : nk s) {A : Nat → Prop} (hX : xj A s) (hC : xnc s) (hA : ∀ q : Nat, s.heap.size ≤ q → A q) (h0_1 h0_2 h0_3 h0_4 h0_5 h0_6 h0_7 h0_8 h0_9 h0_10 h0_11 h0_12 h0_13 h0_14 h0_15 h0_16 h0_17 h0_18 h0_19 h0_20 h0_21 h0_22 h0_25 h0_26 h0_29 h0_30 : Nat) (post : Int32 → TriS → Prop) (s0 : TriS) (v1 : Int32) (v2 : Int32) (v3 : Int32) (v4 : Int32) (h : P_L_refuses_11 s0 v1 v2 v3 v4 post) (h0_23 h0_24 h0_27 h0_28 : Nat) (H : Heap) (locs : List Loc) (hP : va_P (dC, dI) vwCl (lwO cI h0 h0_1 h0_2 h0_3 h0_4 h0_5 h0_6 h0_7 h0_8 h0_9 h0_10 h0_11 h0_12 h0_13 h0_14 h0_15 h0_16 h0_17 h0_18 h0_19 h0_20 h0_21 h0_22 h0_23 h0_24 h0_25 h0_26 h0_27 h0_28 h0_29 h0_30 s0) H) (hD : va_D A (lwO cI h0 h0_1 h0_2 h0_3 h0_4 h0_5 h0_6 h0_7 h0_8 h0_9 h0_10 h0_11 h0_12 h0_13 h0_14 h0_15 h0_16 h0_17 h0_18 h0_19 h0_20 h0_21 h0_22 h0_23 h0_24 h0_25 h0_26 h0_27 h0_28 h0_29 h0_30 s0)) (hS : va_S A s.heap H locs) (ls : Array Slot) (hl : lv_has ls 15 [(0, .ref h0), (1, .int v1), (2, .int v2), (3, .int v3), (4, .int v4), (5, .int (2147483647 : Int32)), (6, .int (2 : Int32)), (7, .int (2147483647 : Int32)), (12, .int (2147483647 : Int32))]) : W p l e rm_L_refuses s m (([.ref h0] : List Value).toArray) below meth c H locs 136 816 (MQ below (Q_L_refuses dC dI cI h0 h0_1 h0_2 h0_3 h0_4 h0_5 h0_6 h0_7 h0_8 h0_9 h0_10 h0_11 h0_12 h0_13 h0_14 h0_15 h0_16 h0_17 h0_18 h0_19 h0_20 h0_21 h0_22 h0_23 h0_24 h0_25 h0_26 h0_27 h0_28 h0_29 h0_30 A post) (([.ref h0] : List Value).toArray) s mc_L_refuses ms_L_refuses A) (F0 m 456 ls []) := by
  obtain ⟨hx, hb, hr, hml, hown, hts, hlocks⟩ := id C0
  refine lv_aload_n hx hb dL_refuses_456 rfl (lv_at hl 0 rfl) ?_
  refine lv_bipush (v := (9 : Int32)) hx hb dL_refuses_457 (by decide) ?_
  refine lv_iload hx hb dL_refuses_459 (lv_at hl 6 rfl) ?_
  refine lv_iconst (v := (1 : Int32)) hx hb dL_refuses_461 (by decide) ?_
  refine lv_icmp_ne (tgt := 469) hx hb dL_refuses_462 (by decide) (fun c_546 => ?_) (fun c_546 => absurd c_546 (by decide))
  refine lv_iload hx hb dL_refuses_469 (lv_at hl 7 rfl) ?_
  refine lv_iconst (v := (0 : Int32)) hx hb dL_refuses_471 (by decide) ?_
  refine lv_iconst (v := (0 : Int32)) hx hb dL_refuses_472 (by decide) ?_
  have hFc := frw hD hS hA
  refine vx_calli (SX := Unit) (px := fun _ => False) (BX := fun _ _ _ => True) (AX := A) (vx_runSX0 (vx_runSX (As := [.ref h0, .int (9 : Int32), .int (2147483647 : Int32), .int (0 : Int32), .int (0 : Int32)]) (rest := []) ⟨hx, hb, hml, hown, hts⟩ (c_L_act l hst dC dI cI h0 h0_1 h0_2 h0_3 h0_4 h0_5 h0_6 h0_7 h0_8 h0_9 h0_10 h0_11 h0_12 h0_13 h0_14 h0_15 h0_16 h0_17 h0_18 h0_19 h0_20 h0_21 h0_22 h0_23 h0_24 h0_25 h0_26 h0_27 h0_28 h0_29 h0_30 _ s0 (9 : Int32) (2147483647 : Int32) (0 : Int32) (0 : Int32) _ h) (vx_cwSW 5 hts (goodIn_up gB_L_act) rfl rfl rfl (by decide +kernel) ⟨Nat.le_of_ble_eq_true rfl, Nat.le_of_ble_eq_true rfl⟩) (pbl_S hP hK hD hN hX hC hFc hS) rfl rfl hl.1 rfl (lv_room (Nat.le_of_ble_eq_true rfl)) dL_refuses_473 ⟨Nat.le_of_ble_eq_true rfl, Nat.le_of_ble_eq_true rfl⟩)) hS (fun q _ h => hFc q h) hFc (fun q _ h => h) (fun E9 ce9 q9 u t H locs ht hvm h hB hz1 hk1 hS hce hcv hcl => h.elim) (fun r_548 u_547 t H locs ht hvm h hB hz1 hk1 hS => ?_)
  obtain ⟨m_549, m_550, m_551, m_552, hP1, hD1⟩ := hB
  rw [ht] at hP1
  have hP : va_P (dC, dI) vwCl (lwO cI h0 h0_1 h0_2 h0_3 h0_4 h0_5 h0_6 h0_7 h0_8 h0_9 h0_10 h0_11 h0_12 h0_13 h0_14 h0_15 h0_16 h0_17 h0_18 h0_19 h0_20 h0_21 h0_22 m_549 m_550 h0_25 h0_26 m_551 m_552 h0_29 h0_30 u_547) H := hP1
  have hD : va_D A (lwO cI h0 h0_1 h0_2 h0_3 h0_4 h0_5 h0_6 h0_7 h0_8 h0_9 h0_10 h0_11 h0_12 h0_13 h0_14 h0_15 h0_16 h0_17 h0_18 h0_19 h0_20 h0_21 h0_22 m_549 m_550 h0_25 h0_26 m_551 m_552 h0_29 h0_30 u_547) := hD1.weaken (fun _ _ _ h => hFc _ h)
  refine W.widen (k := 138) (n := 828) (Nat.le_of_ble_eq_true rfl) (Nat.le_of_ble_eq_true rfl) ?_
  refine lv_bipush (v := (-91 : Int32)) hx hb dL_refuses_476 (by decide) ?_
  obtain ⟨ht_, hf_⟩ := h
  refine lv_icmp_ne (tgt := 547) hx hb dL_refuses_478 (by decide) (fun c_553 => ?_) (fun c_553 => ?_)
  · have h := ht_ c_553
    exact (show False from h).elim
  · have h := hf_ c_553
    refine lv_aload_n hx hb dL_refuses_481 rfl (lv_at hl 0 rfl) ?_
    refine lv_bipush (v := (13 : Int32)) hx hb dL_refuses_482 (by decide) ?_
    refine lv_iload hx hb dL_refuses_484 (lv_at hl 6 rfl) ?_
    refine lv_iconst (v := (1 : Int32)) hx hb dL_refuses_486 (by decide) ?_
    refine lv_icmp_ne (tgt := 495) hx hb dL_refuses_487 (by decide) (fun c_554 => ?_) (fun c_554 => absurd c_554 (by decide))
    refine lv_iload hx hb dL_refuses_495 (lv_at hl 7 rfl) ?_
    refine lv_iload hx hb dL_refuses_497 (lv_at hl 8 rfl) ?_
    refine lv_iconst (v := (0 : Int32)) hx hb dL_refuses_499 (by decide) ?_
    have hFc := frw hD hS hA
    refine vx_calli (SX := Unit) (px := fun _ => False) (BX := fun _ _ _ => True) (AX := A) (vx_runSX0 (vx_runSX (As := [.ref h0, .int (13 : Int32), .int (2147483647 : Int32), .int (2147483647 : Int32), .int (0 : Int32)]) (rest := []) ⟨hx, hb, hml, hown, hts⟩ (c_L_act l hst dC dI cI h0 h0_1 h0_2 h0_3 h0_4 h0_5 h0_6 h0_7 h0_8 h0_9 h0_10 h0_11 h0_12 h0_13 h0_14 h0_15 h0_16 h0_17 h0_18 h0_19 h0_20 h0_21 h0_22 m_549 m_550 h0_25 h0_26 m_551 m_552 h0_29 h0_30 _ u_547 (13 : Int32) (2147483647 : Int32) (2147483647 : Int32) (0 : Int32) _ h) (vx_cwSW 5 hts (goodIn_up gB_L_act) rfl rfl rfl (by decide +kernel) ⟨Nat.le_of_ble_eq_true rfl, Nat.le_of_ble_eq_true rfl⟩) (pbl_S hP hK hD hN hX hC hFc hS) rfl rfl hl.1 rfl (lv_room (Nat.le_of_ble_eq_true rfl)) dL_refuses_500 ⟨Nat.le_of_ble_eq_true rfl, Nat.le_of_ble_eq_true rfl⟩)) hS (fun q _ h => hFc q h) hFc (fun q _ h => h) (fun E9 ce9 q9 u t H locs ht hvm h hB hz1 hk1 hS hce hcv hcl => h.elim) (fun r_556 u_555 t H locs ht hvm h hB hz1 hk1 hS => ?_)
    obtain ⟨m_557, m_558, m_559, m_560, hP1, hD1⟩ := hB
    rw [ht] at hP1
    have hP : va_P (dC, dI) vwCl (lwO cI h0 h0_1 h0_2 h0_3 h0_4 h0_5 h0_6 h0_7 h0_8 h0_9 h0_10 h0_11 h0_12 h0_13 h0_14 h0_15 h0_16 h0_17 h0_18 h0_19 h0_20 h0_21 h0_22 m_557 m_558 h0_25 h0_26 m_559 m_560 h0_29 h0_30 u_555) H := hP1
    have hD : va_D A (lwO cI h0 h0_1 h0_2 h0_3 h0_4 h0_5 h0_6 h0_7 h0_8 h0_9 h0_10 h0_11 h0_12 h0_13 h0_14 h0_15 h0_16 h0_17 h0_18 h0_19 h0_20 h0_21 h0_22 m_557 m_558 h0_25 h0_26 m_559 m_560 h0_29 h0_30 u_555) := hD1.weaken (fun _ _ _ h => hFc _ h)
    refine W.widen (k := 140) (n := 840) (Nat.le_of_ble_eq_true rfl) (Nat.le_of_ble_eq_true rfl) ?_
    refine lv_bipush (v := (-91 : Int32)) hx hb dL_refuses_503 (by decide) ?_
    obtain ⟨ht_, hf_⟩ := h
    refine lv_icmp_ne (tgt := 547) hx hb dL_refuses_505 (by decide) (fun c_561 => ?_) (fun c_561 => ?_)
    · have h := ht_ c_561
      exact (show False from h).elim
    · have h := hf_ c_561
      refine lv_iload hx hb dL_refuses_508 (lv_at hl 4 rfl) ?_
      obtain ⟨ht_, hf_⟩ := h
      refine lv_if_eq (tgt := 528) hx hb dL_refuses_510 (by decide) (fun c_562 => ?_) (fun c_562 => ?_)
      · have h := ht_ c_562
        have hl : lv_has ls 15 [(0, .ref h0), (1, .int v1), (2, .int v2), (3, .int v3), (4, .int v4), (5, .int (2147483647 : Int32)), (6, .int (2 : Int32)), (12, .int (2147483647 : Int32))] := lv_sub hl [0, 1, 2, 3, 4, 5, 6, 8] rfl
        refine W.widen (k := 142) (n := 852) (Nat.le_of_ble_eq_true rfl) (Nat.le_of_ble_eq_true rfl) ?_
        exact sg_L_refuses_12 l hst C0 hK hN hX hC hA h0_1 h0_2 h0_3 h0_4 h0_5 h0_6 h0_7 h0_8 h0_9 h0_10 h0_11 h0_12 h0_13 h0_14 h0_15 h0_16 h0_17 h0_18 h0_19 h0_20 h0_21 h0_22 h0_25 h0_26 h0_29 h0_30 _ u_555 v1 v2 v3 v4 h m_557 m_558 m_559 m_560 _ _ hP hD hS _ hl
      · have h := hf_ c_562
        refine lv_aload_n hx hb dL_refuses_513 rfl (lv_at hl 0 rfl) ?_
        refine lv_bipush (v := (13 : Int32)) hx hb dL_refuses_514 (by decide) ?_
        refine lv_iconst (v := (0 : Int32)) hx hb dL_refuses_516 (by decide) ?_
        refine lv_iload hx hb dL_refuses_517 (lv_at hl 8 rfl) ?_
        refine lv_iconst (v := (0 : Int32)) hx hb dL_refuses_519 (by decide) ?_
        have hFc := frw hD hS hA
        refine vx_calli (SX := Unit) (px := fun _ => False) (BX := fun _ _ _ => True) (AX := A) (vx_runSX0 (vx_runSX (As := [.ref h0, .int (13 : Int32), .int (0 : Int32), .int (2147483647 : Int32), .int (0 : Int32)]) (rest := []) ⟨hx, hb, hml, hown, hts⟩ (c_L_act l hst dC dI cI h0 h0_1 h0_2 h0_3 h0_4 h0_5 h0_6 h0_7 h0_8 h0_9 h0_10 h0_11 h0_12 h0_13 h0_14 h0_15 h0_16 h0_17 h0_18 h0_19 h0_20 h0_21 h0_22 m_557 m_558 h0_25 h0_26 m_559 m_560 h0_29 h0_30 _ u_555 (13 : Int32) (0 : Int32) (2147483647 : Int32) (0 : Int32) _ h) (vx_cwSW 5 hts (goodIn_up gB_L_act) rfl rfl rfl (by decide +kernel) ⟨Nat.le_of_ble_eq_true rfl, Nat.le_of_ble_eq_true rfl⟩) (pbl_S hP hK hD hN hX hC hFc hS) rfl rfl hl.1 rfl (lv_room (Nat.le_of_ble_eq_true rfl)) dL_refuses_520 ⟨Nat.le_of_ble_eq_true rfl, Nat.le_of_ble_eq_true rfl⟩)) hS (fun q _ h => hFc q h) hFc (fun q _ h => h) (fun E9 ce9 q9 u t H locs ht hvm h hB hz1 hk1 hS hce hcv hcl => h.elim) (fun r_564 u_563 t H locs ht hvm h hB hz1 hk1 hS => ?_)
        obtain ⟨m_565, m_566, m_567, m_568, hP1, hD1⟩ := hB
        rw [ht] at hP1
        have hP : va_P (dC, dI) vwCl (lwO cI h0 h0_1 h0_2 h0_3 h0_4 h0_5 h0_6 h0_7 h0_8 h0_9 h0_10 h0_11 h0_12 h0_13 h0_14 h0_15 h0_16 h0_17 h0_18 h0_19 h0_20 h0_21 h0_22 m_565 m_566 h0_25 h0_26 m_567 m_568 h0_29 h0_30 u_563) H := hP1
        have hD : va_D A (lwO cI h0 h0_1 h0_2 h0_3 h0_4 h0_5 h0_6 h0_7 h0_8 h0_9 h0_10 h0_11 h0_12 h0_13 h0_14 h0_15 h0_16 h0_17 h0_18 h0_19 h0_20 h0_21 h0_22 m_565 m_566 h0_25 h0_26 m_567 m_568 h0_29 h0_30 u_563) := hD1.weaken (fun _ _ _ h => hFc _ h)
        refine W.widen (k := 142) (n := 852) (Nat.le_of_ble_eq_true rfl) (Nat.le_of_ble_eq_true rfl) ?_
        refine lv_bipush (v := (-92 : Int32)) hx hb dL_refuses_523 (by decide) ?_
        obtain ⟨ht_, hf_⟩ := h
        refine lv_icmp_ne (tgt := 547) hx hb dL_refuses_525 (by decide) (fun c_569 => ?_) (fun c_569 => ?_)
        · have h := ht_ c_569
          exact (show False from h).elim
        · have h := hf_ c_569
          have hl : lv_has ls 15 [(0, .ref h0), (1, .int v1), (2, .int v2), (3, .int v3), (4, .int v4), (5, .int (2147483647 : Int32)), (6, .int (2 : Int32)), (12, .int (2147483647 : Int32))] := lv_sub hl [0, 1, 2, 3, 4, 5, 6, 8] rfl
          refine W.widen (k := 142) (n := 852) (Nat.le_of_ble_eq_true rfl) (Nat.le_of_ble_eq_true rfl) ?_
          exact sg_L_refuses_12 l hst C0 hK hN hX hC hA h0_1 h0_2 h0_3 h0_4 h0_5 h0_6 h0_7 h0_8 h0_9 h0_10 h0_11 h0_12 h0_13 h0_14 h0_15 h0_16 h0_17 h0_18 h0_19 h0_20 h0_21 h0_22 h0_25 h0_26 h0_29 h0_30 _ u_563 v1 v2 v3 v4 h m_565 m_566 m_567 m_568 _ _ hP hD hS _ hl
