set_option maxHeartbeats 4000000 in
set_option maxRecDepth 100000 in
theorem c_L_comes (l : Launch) (hst : l.stackTraces = false) (dC : Nat → ClassId) (dI : Nat → Nat → Nat) (cI : ClassId) (h0 h0_1 h0_2 h0_3 h0_4 h0_5 h0_6 h0_7 h0_8 h0_9 h0_10 h0_11 h0_12 h0_13 h0_14 h0_15 h0_16 h0_17 h0_18 h0_19 h0_20 h0_21 h0_22 h0_23 h0_24 h0_25 h0_26 h0_27 h0_28 h0_29 h0_30 : Nat) (sz : Nat) (s0 : TriS) (v1 : Int32) (post : Int32 → TriS → Prop) (h : P_L_comes s0 v1 post) : Met l yL_comes wq_comes rm_L_comes (va_Pc [.ref h0, .int v1] (cprel (dC, dI) [(cI, .int)] (lwO cI h0 h0_1 h0_2 h0_3 h0_4 h0_5 h0_6 h0_7 h0_8 h0_9 h0_10 h0_11 h0_12 h0_13 h0_14 h0_15 h0_16 h0_17 h0_18 h0_19 h0_20 h0_21 h0_22 h0_23 h0_24 h0_25 h0_26 h0_27 h0_28 h0_29 h0_30 s0) sz (va_A (lwO cI h0 h0_1 h0_2 h0_3 h0_4 h0_5 h0_6 h0_7 h0_8 h0_9 h0_10 h0_11 h0_12 h0_13 h0_14 h0_15 h0_16 h0_17 h0_18 h0_19 h0_20 h0_21 h0_22 h0_23 h0_24 h0_25 h0_26 h0_27 h0_28 h0_29 h0_30 s0) sz))) (Q_L_comes dC dI cI h0 h0_1 h0_2 h0_3 h0_4 h0_5 h0_6 h0_7 h0_8 h0_9 h0_10 h0_11 h0_12 h0_13 h0_14 h0_15 h0_16 h0_17 h0_18 h0_19 h0_20 h0_21 h0_22 h0_23 h0_24 h0_25 h0_26 h0_27 h0_28 h0_29 h0_30 (va_A (lwO cI h0 h0_1 h0_2 h0_3 h0_4 h0_5 h0_6 h0_7 h0_8 h0_9 h0_10 h0_11 h0_12 h0_13 h0_14 h0_15 h0_16 h0_17 h0_18 h0_19 h0_20 h0_21 h0_22 h0_23 h0_24 h0_25 h0_26 h0_27 h0_28 h0_29 h0_30 s0) sz) post) mc_L_comes ms_L_comes (va_A (lwO cI h0 h0_1 h0_2 h0_3 h0_4 h0_5 h0_6 h0_7 h0_8 h0_9 h0_10 h0_11 h0_12 h0_13 h0_14 h0_15 h0_16 h0_17 h0_18 h0_19 h0_20 h0_21 h0_22 h0_23 h0_24 h0_25 h0_26 h0_27 h0_28 h0_29 h0_30 s0) sz) := by
  refine Met.ofW (cc := cL_comes) (maxL := 2) (ret := (some .boolean)) (by decide) rfl ?_
  intro p e s m args below meth c s₁ B hml hv
  obtain ⟨rfl, ⟨⟨hsz, hP, hK, hD0, hN⟩, hX⟩, hC⟩ := hv
  have hx := B.exec
  have hb := B.bytes
  have hr := B.returns
  have hts := atoms_spec (ws := wq_comes) B.pre
  have hown : s.vm.findClass RL = some m.cls := findClass_of_methodNamed B.named
  have hlocks := B.notSynchronized
  have C0 : LC p s m ([.ref h0, .int v1] : List Value).toArray meth c cL_comes 2 wq_comes := ⟨hx, hb, hr, hml, hown, hts, hlocks⟩
  subst hsz
  have hD := hD0.self (sz := s.heap.size)
  generalize hAe : va_A (lwO cI h0 h0_1 h0_2 h0_3 h0_4 h0_5 h0_6 h0_7 h0_8 h0_9 h0_10 h0_11 h0_12 h0_13 h0_14 h0_15 h0_16 h0_17 h0_18 h0_19 h0_20 h0_21 h0_22 h0_23 h0_24 h0_25 h0_26 h0_27 h0_28 h0_29 h0_30 s0) s.heap.size = A at hD hX ⊢
  have hA : ∀ q : Nat, s.heap.size ≤ q → A q := fun q h => by rw [← hAe]; exact Or.inr h
  clear hAe hD0
  have hS : va_S A s.heap s.heap [] := va_S.rf
  have hl := lv_entry ([.ref h0, .int v1]) (n := 2) (Nat.le_of_ble_eq_true rfl)
  rw [lg_entry_eq]
  generalize (lg_sl ([.ref h0, .int v1]) ++ List.replicate (2 - (lg_sl ([.ref h0, .int v1])).length) Slot.unset).toArray = ls at hl ⊢
  have hl : lv_has ls 2 [(0, .ref h0), (1, .int v1)] := hl
  refine lv_aload_n hx hb dL_comes_0 rfl (lv_at hl 0 rfl) ?_
  refine lv_bipush (v := (10 : Int32)) hx hb dL_comes_1 (by decide) ?_
  refine lv_iconst (v := (0 : Int32)) hx hb dL_comes_3 (by decide) ?_
  refine lv_iconst (v := (0 : Int32)) hx hb dL_comes_4 (by decide) ?_
  refine lv_iconst (v := (0 : Int32)) hx hb dL_comes_5 (by decide) ?_
  have hFc := frw hD hS hA
  refine vx_calli (SX := Unit) (px := fun _ => False) (BX := fun _ _ _ => True) (AX := A) (vx_runSX0 (vx_runSX (As := [.ref h0, .int (10 : Int32), .int (0 : Int32), .int (0 : Int32), .int (0 : Int32)]) (rest := []) ⟨hx, hb, hml, hown, hts⟩ (c_L_act l hst dC dI cI h0 h0_1 h0_2 h0_3 h0_4 h0_5 h0_6 h0_7 h0_8 h0_9 h0_10 h0_11 h0_12 h0_13 h0_14 h0_15 h0_16 h0_17 h0_18 h0_19 h0_20 h0_21 h0_22 h0_23 h0_24 h0_25 h0_26 h0_27 h0_28 h0_29 h0_30 _ s0 (10 : Int32) (0 : Int32) (0 : Int32) (0 : Int32) _ h) (vx_cwSW 5 hts (goodIn_up gB_L_act) rfl rfl rfl (by decide +kernel) ⟨Nat.le_of_ble_eq_true rfl, Nat.le_of_ble_eq_true rfl⟩) (pbl_S hP hK hD hN hX hC hFc hS) rfl rfl hl.1 rfl (lv_room (Nat.le_of_ble_eq_true rfl)) dL_comes_6 ⟨Nat.le_of_ble_eq_true rfl, Nat.le_of_ble_eq_true rfl⟩)) hS (fun q _ h => hFc q h) hFc (fun q _ h => h) (fun E9 ce9 q9 u t H locs ht hvm h hB hz1 hk1 hS hce hcv hcl => h.elim) (fun r_2 u_1 t H locs ht hvm h hB hz1 hk1 hS => ?_)
  obtain ⟨m_3, m_4, m_5, m_6, hP1, hD1⟩ := hB
  rw [ht] at hP1
  have hP : va_P (dC, dI) vwCl (lwO cI h0 h0_1 h0_2 h0_3 h0_4 h0_5 h0_6 h0_7 h0_8 h0_9 h0_10 h0_11 h0_12 h0_13 h0_14 h0_15 h0_16 h0_17 h0_18 h0_19 h0_20 h0_21 h0_22 m_3 m_4 h0_25 h0_26 m_5 m_6 h0_29 h0_30 u_1) H := hP1
  have hD : va_D A (lwO cI h0 h0_1 h0_2 h0_3 h0_4 h0_5 h0_6 h0_7 h0_8 h0_9 h0_10 h0_11 h0_12 h0_13 h0_14 h0_15 h0_16 h0_17 h0_18 h0_19 h0_20 h0_21 h0_22 m_3 m_4 h0_25 h0_26 m_5 m_6 h0_29 h0_30 u_1) := hD1.weaken (fun _ _ _ h => hFc _ h)
  refine W.widen (k := 2) (n := 12) (Nat.le_of_ble_eq_true rfl) (Nat.le_of_ble_eq_true rfl) ?_
  refine lv_iload_n hx hb dL_comes_9 rfl (lv_at hl 1 rfl) ?_
  obtain ⟨ht_, hf_⟩ := h
  refine lv_icmp_ne (tgt := 43) hx hb dL_comes_10 (by decide) (fun c_7 => ?_) (fun c_7 => ?_)
  · have h := ht_ c_7
    exact (show False from h).elim
  · have h := hf_ c_7
    refine lv_aload_n hx hb dL_comes_13 rfl (lv_at hl 0 rfl) ?_
    refine lv_bipush (v := (11 : Int32)) hx hb dL_comes_14 (by decide) ?_
    refine lv_iconst (v := (0 : Int32)) hx hb dL_comes_16 (by decide) ?_
    refine lv_iconst (v := (0 : Int32)) hx hb dL_comes_17 (by decide) ?_
    refine lv_iconst (v := (0 : Int32)) hx hb dL_comes_18 (by decide) ?_
    have hFc := frw hD hS hA
    refine vx_calli (SX := Unit) (px := fun _ => False) (BX := fun _ _ _ => True) (AX := A) (vx_runSX0 (vx_runSX (As := [.ref h0, .int (11 : Int32), .int (0 : Int32), .int (0 : Int32), .int (0 : Int32)]) (rest := []) ⟨hx, hb, hml, hown, hts⟩ (c_L_act l hst dC dI cI h0 h0_1 h0_2 h0_3 h0_4 h0_5 h0_6 h0_7 h0_8 h0_9 h0_10 h0_11 h0_12 h0_13 h0_14 h0_15 h0_16 h0_17 h0_18 h0_19 h0_20 h0_21 h0_22 m_3 m_4 h0_25 h0_26 m_5 m_6 h0_29 h0_30 _ u_1 (11 : Int32) (0 : Int32) (0 : Int32) (0 : Int32) _ h) (vx_cwSW 5 hts (goodIn_up gB_L_act) rfl rfl rfl (by decide +kernel) ⟨Nat.le_of_ble_eq_true rfl, Nat.le_of_ble_eq_true rfl⟩) (pbl_S hP hK hD hN hX hC hFc hS) rfl rfl hl.1 rfl (lv_room (Nat.le_of_ble_eq_true rfl)) dL_comes_19 ⟨Nat.le_of_ble_eq_true rfl, Nat.le_of_ble_eq_true rfl⟩)) hS (fun q _ h => hFc q h) hFc (fun q _ h => h) (fun E9 ce9 q9 u t H locs ht hvm h hB hz1 hk1 hS hce hcv hcl => h.elim) (fun r_9 u_8 t H locs ht hvm h hB hz1 hk1 hS => ?_)
    obtain ⟨m_10, m_11, m_12, m_13, hP1, hD1⟩ := hB
    rw [ht] at hP1
    have hP : va_P (dC, dI) vwCl (lwO cI h0 h0_1 h0_2 h0_3 h0_4 h0_5 h0_6 h0_7 h0_8 h0_9 h0_10 h0_11 h0_12 h0_13 h0_14 h0_15 h0_16 h0_17 h0_18 h0_19 h0_20 h0_21 h0_22 m_10 m_11 h0_25 h0_26 m_12 m_13 h0_29 h0_30 u_8) H := hP1
    have hD : va_D A (lwO cI h0 h0_1 h0_2 h0_3 h0_4 h0_5 h0_6 h0_7 h0_8 h0_9 h0_10 h0_11 h0_12 h0_13 h0_14 h0_15 h0_16 h0_17 h0_18 h0_19 h0_20 h0_21 h0_22 m_10 m_11 h0_25 h0_26 m_12 m_13 h0_29 h0_30 u_8) := hD1.weaken (fun _ _ _ h => hFc _ h)
    refine W.widen (k := 4) (n := 24) (Nat.le_of_ble_eq_true rfl) (Nat.le_of_ble_eq_true rfl) ?_
    refine lv_iload_n hx hb dL_comes_22 rfl (lv_at hl 1 rfl) ?_
    obtain ⟨ht_, hf_⟩ := h
    refine lv_icmp_ne (tgt := 43) hx hb dL_comes_23 (by decide) (fun c_14 => ?_) (fun c_14 => ?_)
    · have h := ht_ c_14
      exact (show False from h).elim
    · have h := hf_ c_14
      refine lv_aload_n hx hb dL_comes_26 rfl (lv_at hl 0 rfl) ?_
      refine lv_bipush (v := (12 : Int32)) hx hb dL_comes_27 (by decide) ?_
      refine lv_iconst (v := (0 : Int32)) hx hb dL_comes_29 (by decide) ?_
      refine lv_iconst (v := (0 : Int32)) hx hb dL_comes_30 (by decide) ?_
      refine lv_iconst (v := (0 : Int32)) hx hb dL_comes_31 (by decide) ?_
      have hFc := frw hD hS hA
      refine vx_calli (SX := Unit) (px := fun _ => False) (BX := fun _ _ _ => True) (AX := A) (vx_runSX0 (vx_runSX (As := [.ref h0, .int (12 : Int32), .int (0 : Int32), .int (0 : Int32), .int (0 : Int32)]) (rest := []) ⟨hx, hb, hml, hown, hts⟩ (c_L_act l hst dC dI cI h0 h0_1 h0_2 h0_3 h0_4 h0_5 h0_6 h0_7 h0_8 h0_9 h0_10 h0_11 h0_12 h0_13 h0_14 h0_15 h0_16 h0_17 h0_18 h0_19 h0_20 h0_21 h0_22 m_10 m_11 h0_25 h0_26 m_12 m_13 h0_29 h0_30 _ u_8 (12 : Int32) (0 : Int32) (0 : Int32) (0 : Int32) _ h) (vx_cwSW 5 hts (goodIn_up gB_L_act) rfl rfl rfl (by decide +kernel) ⟨Nat.le_of_ble_eq_true rfl, Nat.le_of_ble_eq_true rfl⟩) (pbl_S hP hK hD hN hX hC hFc hS) rfl rfl hl.1 rfl (lv_room (Nat.le_of_ble_eq_true rfl)) dL_comes_32 ⟨Nat.le_of_ble_eq_true rfl, Nat.le_of_ble_eq_true rfl⟩)) hS (fun q _ h => hFc q h) hFc (fun q _ h => h) (fun E9 ce9 q9 u t H locs ht hvm h hB hz1 hk1 hS hce hcv hcl => h.elim) (fun r_16 u_15 t H locs ht hvm h hB hz1 hk1 hS => ?_)
      obtain ⟨m_17, m_18, m_19, m_20, hP1, hD1⟩ := hB
      rw [ht] at hP1
      have hP : va_P (dC, dI) vwCl (lwO cI h0 h0_1 h0_2 h0_3 h0_4 h0_5 h0_6 h0_7 h0_8 h0_9 h0_10 h0_11 h0_12 h0_13 h0_14 h0_15 h0_16 h0_17 h0_18 h0_19 h0_20 h0_21 h0_22 m_17 m_18 h0_25 h0_26 m_19 m_20 h0_29 h0_30 u_15) H := hP1
      have hD : va_D A (lwO cI h0 h0_1 h0_2 h0_3 h0_4 h0_5 h0_6 h0_7 h0_8 h0_9 h0_10 h0_11 h0_12 h0_13 h0_14 h0_15 h0_16 h0_17 h0_18 h0_19 h0_20 h0_21 h0_22 m_17 m_18 h0_25 h0_26 m_19 m_20 h0_29 h0_30 u_15) := hD1.weaken (fun _ _ _ h => hFc _ h)
      refine W.widen (k := 6) (n := 36) (Nat.le_of_ble_eq_true rfl) (Nat.le_of_ble_eq_true rfl) ?_
      refine lv_iload_n hx hb dL_comes_35 rfl (lv_at hl 1 rfl) ?_
      obtain ⟨ht_, hf_⟩ := h
      refine lv_icmp_ne (tgt := 43) hx hb dL_comes_36 (by decide) (fun c_21 => ?_) (fun c_21 => ?_)
      · have h := ht_ c_21
        exact (show False from h).elim
      · have h := hf_ c_21
        refine lv_iconst (v := (1 : Int32)) hx hb dL_comes_39 (by decide) ?_
        refine lv_goto (tgt := 44) hx hb dL_comes_40 (by decide) ?_
        refine W.widen (k := mc_L_comes) (n := ms_L_comes) (Nat.le_of_ble_eq_true rfl) (Nat.le_of_ble_eq_true rfl) ?_
        exact W.zret (v := (1 : Int32)) hx hb hr (by decide +kernel) (fun t ht hW => ⟨⟨(1 : Int32), u_15, rfl, h, ⟨m_17, m_18, m_19, m_20, by rw [ht]; exact hP, hD⟩⟩, hS.F ht⟩) hS.2.2 dL_comes_44
