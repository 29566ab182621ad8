set_option maxHeartbeats 4000000 in
set_option maxRecDepth 100000 in
theorem c_L_queries (l : Launch) (hst : l.stackTraces = false) (dC : Nat → ClassId) (dI : Nat → Nat → Nat) (cI : ClassId) (sz : Nat)  (post : Int32 → Prop) (h : P_L_queries  post) : Met l yL_queries wq_queries rm_L_queries (va_Pc [] (cprel (dC, dI) [(cI, .int)] [] sz (va_A [] sz))) (Q_L_queries dC dI cI (va_A [] sz) post) mc_L_queries ms_L_queries (va_A [] sz) := by
  refine Met.ofW (cc := cL_queries) (maxL := 1) (ret := (some .boolean)) (by decide) rfl ?_
  intro p e s m args below meth c s₁ B hml hv
  obtain ⟨rfl, ⟨⟨hsz, hP, hK, hD0, hN⟩, hX⟩, hC⟩ := hv
  have hx := B.exec
  have hb := B.bytes
  have hr := B.returns
  have hts := atoms_spec (ws := wq_queries) B.pre
  have hown : s.vm.findClass RL = some m.cls := findClass_of_methodNamed B.named
  have hlocks := B.notSynchronized
  have C0 : LC p s m ([] : List Value).toArray meth c cL_queries 1 wq_queries := ⟨hx, hb, hr, hml, hown, hts, hlocks⟩
  subst hsz
  generalize hAe : va_A [] s.heap.size = A at hX ⊢
  have hA : ∀ q : Nat, s.heap.size ≤ q → A q := fun q h => by rw [← hAe]; exact Or.inr h
  clear hAe hD0
  have hS : va_S A s.heap s.heap [] := va_S.rf
  have hl := lv_entry ([]) (n := 1) (Nat.le_of_ble_eq_true rfl)
  rw [lg_entry_eq]
  generalize (lg_sl ([]) ++ List.replicate (1 - (lg_sl ([])).length) Slot.unset).toArray = ls at hl ⊢
  have hl : lv_has ls 1 [] := hl
  have hinX7 : ∀ w ∈ u_ws RX7 TX7 7, w ∈ wq_queries := fun w h => List.mem_cons_of_mem _ (inlX7 w h)
  have hP := vaP0 (dC, dI) (H := s.heap)
  have hD := vaD0 (A := A)
  refine va_new (ci := 7) (fs := [.null, .null, .null, .null, .null, .int (0 : Int32), .int (0 : Int32)]) (C := RX7) (T := TX7) (N := 7) hx hb hts (hinX7) tyX7 tyX7_ok hown (hts (.classLink RL 8 RX7) (by decide +kernel)) (hts (.instantiable RX7 7) (by decide +kernel)) (hts (.initialized RX7) (by decide +kernel)) hK hP hD hS hA rfl (fun j hj => by rcases (show j = 0 ∨ j = 1 ∨ j = 2 ∨ j = 3 ∨ j = 4 ∨ j = 5 ∨ j = 6 by omega) with rfl | rfl | rfl | rfl | rfl | rfl | rfl <;> rfl) (by decide +kernel) (by decide +kernel) dL_queries_0 (fun q_1 H hP hD hS => ?_)
  refine W.widen (k := 1) (n := 7) (by omega) (by omega) ?_
  have hP : va_P (dC, dI) vwCl [(q_1, .inr (7, [.null, .null, .null, .null, .null, .int (0 : Int32), .int (0 : Int32)]))] _ := hP
  have hD : va_D A [(q_1, .inr (7, [.null, .null, .null, .null, .null, .int (0 : Int32), .int (0 : Int32)]))] := hD
  refine lv_dup hx hb dL_queries_3 rfl ?_
  have hFc := frw hD hS hA
  have hkc : 1 + 30 ≤ 549 := by decide +kernel
  have hks : 7 + 9828 ≤ 12943 := by decide +kernel
  refine va_callv (va_runI (As := []) (rest := [.ref q_1]) ⟨hx, hb, hml, hown, hts⟩ (c_X7_init l dC dI cI q_1 _ _ h) (cwI 0 hts (goodIn_up gB_X7_init) rfl rfl rfl (hts (.initialized RX7) (by decide +kernel)) (hts (.methodLink RL 84 yX7_init) (by decide +kernel)) (hts (.instanceMethod yX7_init) (by decide +kernel)) rfl (by decide +kernel) ⟨Nat.le_of_ble_eq_true rfl, Nat.le_of_ble_eq_true rfl⟩) (pb_I hP hK hD hN) rfl rfl hl.1 rfl (lv_room (Nat.le_of_ble_eq_true rfl)) dL_queries_4 ⟨hkc, hks⟩) hS (fun q _ h => hFc q h) hFc (fun u_2 t H locs ht hvm h hB hz1 hk1 hS => ?_)
  obtain ⟨q_4, q_5, q_6, q_7, q_8, q_9, q_10, q_11, q_12, q_13, q_14, q_15, q_16, q_17, q_18, q_19, q_20, q_21, q_22, q_23, q_24, q_25, q_26, q_27, q_28, q_29, q_30, q_31, q_32, q_33, hP1, hD1⟩ := hB
  rw [ht] at hP1
  have hP : va_P (dC, dI) vwCl (lwO cI q_1 q_4 q_5 q_6 q_7 q_8 q_9 q_10 q_11 q_12 q_13 q_14 q_15 q_16 q_17 q_18 q_19 q_20 q_21 q_22 q_23 q_24 q_25 q_26 q_27 q_28 q_29 q_30 q_31 q_32 q_33 u_2) H := hP1
  have hD : va_D A (lwO cI q_1 q_4 q_5 q_6 q_7 q_8 q_9 q_10 q_11 q_12 q_13 q_14 q_15 q_16 q_17 q_18 q_19 q_20 q_21 q_22 q_23 q_24 q_25 q_26 q_27 q_28 q_29 q_30 q_31 q_32 q_33 u_2) := hD1.weaken (fun _ _ _ h => hFc _ h)
  refine W.widen (k := 31) (n := 9835) (by omega) (by omega) ?_
  refine lv_astore_n (lv' := [(0, .ref q_1)]) hx hb dL_queries_7 rfl hl (by decide) rfl (fun ls hl => ?_)
  refine lv_aload_n hx hb dL_queries_8 rfl (lv_at hl 0 rfl) ?_
  refine lv_iconst (v := (5 : Int32)) hx hb dL_queries_9 (by decide) ?_
  refine lv_iconst (v := (1 : Int32)) hx hb dL_queries_10 (by decide) ?_
  refine lv_bipush (v := (7 : Int32)) hx hb dL_queries_11 (by decide) ?_
  have hFc := frw hD hS hA
  refine vx_calli (vx_runV (As := [.int (5 : Int32), .int (1 : Int32), .int (7 : Int32)]) (rest := []) ⟨hx, hb, hml, hown, hts⟩ (c_X7_state l hst dC dI cI q_1 q_4 q_5 q_6 q_7 q_8 q_9 q_10 q_11 q_12 q_13 q_14 q_15 q_16 q_17 q_18 q_19 q_20 q_21 q_22 q_23 q_24 q_25 q_26 q_27 q_28 q_29 q_30 q_31 q_32 q_33 _ u_2 (5 : Int32) (1 : Int32) (7 : Int32) _ _ h) (cwV 3 hts (goodIn_up gB_X7_state) rfl rfl rfl (by decide +kernel) ⟨Nat.le_of_ble_eq_true rfl, Nat.le_of_ble_eq_true rfl⟩) (pbj_V hP hK hD hN hX hFc hS (ci := 7) (q0 := 0) rfl rfl) rfl rfl hl.1 rfl (lv_room (Nat.le_of_ble_eq_true rfl)) dL_queries_13 ⟨Nat.le_of_ble_eq_true rfl, Nat.le_of_ble_eq_true rfl⟩) hS (fun q _ h => hFc q h) hFc (fun q _ h => hFc q h) (fun E9 ce9 q9 u t H locs ht hvm h hB hz1 hk1 hS hce hcv hcl => (show False from h).elim) (fun r_35 u_34 t H locs ht hvm h hB hz1 hk1 hS => ?_)
  obtain ⟨m_36, m_37, m_38, m_39, hP1, hD1⟩ := hB
  rw [ht] at hP1
  have hP : va_P (dC, dI) vwCl (lwO cI q_1 q_4 q_5 q_6 q_7 q_8 q_9 q_10 q_11 q_12 q_13 q_14 q_15 q_16 q_17 q_18 q_19 q_20 q_21 q_22 q_23 q_24 q_25 m_36 m_37 q_28 q_29 m_38 m_39 q_32 q_33 u_34) H := hP1
  have hD : va_D A (lwO cI q_1 q_4 q_5 q_6 q_7 q_8 q_9 q_10 q_11 q_12 q_13 q_14 q_15 q_16 q_17 q_18 q_19 q_20 q_21 q_22 q_23 q_24 q_25 m_36 m_37 q_28 q_29 m_38 m_39 q_32 q_33 u_34) := hD1.weaken (fun _ _ _ h => hFc _ h)
  refine W.widen (k := 32) (n := 9841) (Nat.le_of_ble_eq_true rfl) (Nat.le_of_ble_eq_true rfl) ?_
  obtain ⟨ht_, hf_⟩ := h
  refine lv_if_eq (tgt := 198) hx hb dL_queries_16 (by decide) (fun c_40 => ?_) (fun c_40 => ?_)
  · have h := ht_ c_40
    exact (show False from h).elim
  · have h := hf_ c_40
    refine lv_aload_n hx hb dL_queries_19 rfl (lv_at hl 0 rfl) ?_
    refine lv_bipush (v := (7 : Int32)) hx hb dL_queries_20 (by decide) ?_
    refine lv_iconst (v := (1 : Int32)) hx hb dL_queries_22 (by decide) ?_
    refine lv_bipush (v := (9 : Int32)) hx hb dL_queries_23 (by decide) ?_
    have hFc := frw hD hS hA
    refine vx_calli (vx_runV (As := [.int (7 : Int32), .int (1 : Int32), .int (9 : Int32)]) (rest := []) ⟨hx, hb, hml, hown, hts⟩ (c_X7_state l hst dC dI cI q_1 q_4 q_5 q_6 q_7 q_8 q_9 q_10 q_11 q_12 q_13 q_14 q_15 q_16 q_17 q_18 q_19 q_20 q_21 q_22 q_23 q_24 q_25 m_36 m_37 q_28 q_29 m_38 m_39 q_32 q_33 _ u_34 (7 : Int32) (1 : Int32) (9 : Int32) _ _ h) (cwV 3 hts (goodIn_up gB_X7_state) rfl rfl rfl (by decide +kernel) ⟨Nat.le_of_ble_eq_true rfl, Nat.le_of_ble_eq_true rfl⟩) (pbj_V hP hK hD hN hX hFc hS (ci := 7) (q0 := 0) rfl rfl) rfl rfl hl.1 rfl (lv_room (Nat.le_of_ble_eq_true rfl)) dL_queries_25 ⟨Nat.le_of_ble_eq_true rfl, Nat.le_of_ble_eq_true rfl⟩) hS (fun q _ h => hFc q h) hFc (fun q _ h => hFc q h) (fun E9 ce9 q9 u t H locs ht hvm h hB hz1 hk1 hS hce hcv hcl => (show False from h).elim) (fun r_42 u_41 t H locs ht hvm h hB hz1 hk1 hS => ?_)
    obtain ⟨m_43, m_44, m_45, m_46, hP1, hD1⟩ := hB
    rw [ht] at hP1
    have hP : va_P (dC, dI) vwCl (lwO cI q_1 q_4 q_5 q_6 q_7 q_8 q_9 q_10 q_11 q_12 q_13 q_14 q_15 q_16 q_17 q_18 q_19 q_20 q_21 q_22 q_23 q_24 q_25 m_43 m_44 q_28 q_29 m_45 m_46 q_32 q_33 u_41) H := hP1
    have hD : va_D A (lwO cI q_1 q_4 q_5 q_6 q_7 q_8 q_9 q_10 q_11 q_12 q_13 q_14 q_15 q_16 q_17 q_18 q_19 q_20 q_21 q_22 q_23 q_24 q_25 m_43 m_44 q_28 q_29 m_45 m_46 q_32 q_33 u_41) := hD1.weaken (fun _ _ _ h => hFc _ h)
    refine W.widen (k := 33) (n := 9847) (Nat.le_of_ble_eq_true rfl) (Nat.le_of_ble_eq_true rfl) ?_
    obtain ⟨ht_, hf_⟩ := h
    refine lv_if_eq (tgt := 198) hx hb dL_queries_28 (by decide) (fun c_47 => ?_) (fun c_47 => ?_)
    · have h := ht_ c_47
      exact (show False from h).elim
    · have h := hf_ c_47
      refine lv_aload_n hx hb dL_queries_31 rfl (lv_at hl 0 rfl) ?_
      refine lv_iconst (v := (5 : Int32)) hx hb dL_queries_32 (by decide) ?_
      refine lv_iconst (v := (2 : Int32)) hx hb dL_queries_33 (by decide) ?_
      refine lv_bipush (v := (9 : Int32)) hx hb dL_queries_34 (by decide) ?_
      have hFc := frw hD hS hA
      refine vx_calli (vx_runV (As := [.int (5 : Int32), .int (2 : Int32), .int (9 : Int32)]) (rest := []) ⟨hx, hb, hml, hown, hts⟩ (c_X7_state l hst dC dI cI q_1 q_4 q_5 q_6 q_7 q_8 q_9 q_10 q_11 q_12 q_13 q_14 q_15 q_16 q_17 q_18 q_19 q_20 q_21 q_22 q_23 q_24 q_25 m_43 m_44 q_28 q_29 m_45 m_46 q_32 q_33 _ u_41 (5 : Int32) (2 : Int32) (9 : Int32) _ _ h) (cwV 3 hts (goodIn_up gB_X7_state) rfl rfl rfl (by decide +kernel) ⟨Nat.le_of_ble_eq_true rfl, Nat.le_of_ble_eq_true rfl⟩) (pbj_V hP hK hD hN hX hFc hS (ci := 7) (q0 := 0) rfl rfl) rfl rfl hl.1 rfl (lv_room (Nat.le_of_ble_eq_true rfl)) dL_queries_36 ⟨Nat.le_of_ble_eq_true rfl, Nat.le_of_ble_eq_true rfl⟩) hS (fun q _ h => hFc q h) hFc (fun q _ h => hFc q h) (fun E9 ce9 q9 u t H locs ht hvm h hB hz1 hk1 hS hce hcv hcl => (show False from h).elim) (fun r_49 u_48 t H locs ht hvm h hB hz1 hk1 hS => ?_)
      obtain ⟨m_50, m_51, m_52, m_53, hP1, hD1⟩ := hB
      rw [ht] at hP1
      have hP : va_P (dC, dI) vwCl (lwO cI q_1 q_4 q_5 q_6 q_7 q_8 q_9 q_10 q_11 q_12 q_13 q_14 q_15 q_16 q_17 q_18 q_19 q_20 q_21 q_22 q_23 q_24 q_25 m_50 m_51 q_28 q_29 m_52 m_53 q_32 q_33 u_48) H := hP1
      have hD : va_D A (lwO cI q_1 q_4 q_5 q_6 q_7 q_8 q_9 q_10 q_11 q_12 q_13 q_14 q_15 q_16 q_17 q_18 q_19 q_20 q_21 q_22 q_23 q_24 q_25 m_50 m_51 q_28 q_29 m_52 m_53 q_32 q_33 u_48) := hD1.weaken (fun _ _ _ h => hFc _ h)
      refine W.widen (k := 34) (n := 9853) (Nat.le_of_ble_eq_true rfl) (Nat.le_of_ble_eq_true rfl) ?_
      obtain ⟨ht_, hf_⟩ := h
      refine lv_if_eq (tgt := 198) hx hb dL_queries_39 (by decide) (fun c_54 => ?_) (fun c_54 => ?_)
      · have h := ht_ c_54
        exact (show False from h).elim
      · have h := hf_ c_54
        refine lv_aload_n hx hb dL_queries_42 rfl (lv_at hl 0 rfl) ?_
        refine lv_bipush (v := (9 : Int32)) hx hb dL_queries_43 (by decide) ?_
        refine lv_iconst (v := (1 : Int32)) hx hb dL_queries_45 (by decide) ?_
        refine lv_iconst (v := (5 : Int32)) hx hb dL_queries_46 (by decide) ?_
        have hFc := frw hD hS hA
        refine vx_calli (vx_runV (As := [.int (9 : Int32), .int (1 : Int32), .int (5 : Int32)]) (rest := []) ⟨hx, hb, hml, hown, hts⟩ (c_X7_state l hst dC dI cI q_1 q_4 q_5 q_6 q_7 q_8 q_9 q_10 q_11 q_12 q_13 q_14 q_15 q_16 q_17 q_18 q_19 q_20 q_21 q_22 q_23 q_24 q_25 m_50 m_51 q_28 q_29 m_52 m_53 q_32 q_33 _ u_48 (9 : Int32) (1 : Int32) (5 : Int32) _ _ h) (cwV 3 hts (goodIn_up gB_X7_state) rfl rfl rfl (by decide +kernel) ⟨Nat.le_of_ble_eq_true rfl, Nat.le_of_ble_eq_true rfl⟩) (pbj_V hP hK hD hN hX hFc hS (ci := 7) (q0 := 0) rfl rfl) rfl rfl hl.1 rfl (lv_room (Nat.le_of_ble_eq_true rfl)) dL_queries_47 ⟨Nat.le_of_ble_eq_true rfl, Nat.le_of_ble_eq_true rfl⟩) hS (fun q _ h => hFc q h) hFc (fun q _ h => hFc q h) (fun E9 ce9 q9 u t H locs ht hvm h hB hz1 hk1 hS hce hcv hcl => (show False from h).elim) (fun r_56 u_55 t H locs ht hvm h hB hz1 hk1 hS => ?_)
        obtain ⟨m_57, m_58, m_59, m_60, hP1, hD1⟩ := hB
        rw [ht] at hP1
        have hP : va_P (dC, dI) vwCl (lwO cI q_1 q_4 q_5 q_6 q_7 q_8 q_9 q_10 q_11 q_12 q_13 q_14 q_15 q_16 q_17 q_18 q_19 q_20 q_21 q_22 q_23 q_24 q_25 m_57 m_58 q_28 q_29 m_59 m_60 q_32 q_33 u_55) H := hP1
        have hD : va_D A (lwO cI q_1 q_4 q_5 q_6 q_7 q_8 q_9 q_10 q_11 q_12 q_13 q_14 q_15 q_16 q_17 q_18 q_19 q_20 q_21 q_22 q_23 q_24 q_25 m_57 m_58 q_28 q_29 m_59 m_60 q_32 q_33 u_55) := hD1.weaken (fun _ _ _ h => hFc _ h)
        refine W.widen (k := 35) (n := 9859) (Nat.le_of_ble_eq_true rfl) (Nat.le_of_ble_eq_true rfl) ?_
        obtain ⟨ht_, hf_⟩ := h
        refine lv_if_eq (tgt := 198) hx hb dL_queries_50 (by decide) (fun c_61 => ?_) (fun c_61 => ?_)
        · have h := ht_ c_61
          exact (show False from h).elim
        · have h := hf_ c_61
          refine lv_aload_n hx hb dL_queries_53 rfl (lv_at hl 0 rfl) ?_
          refine lv_iconst (v := (-1 : Int32)) hx hb dL_queries_54 (by decide) ?_
          refine lv_iconst (v := (1 : Int32)) hx hb dL_queries_55 (by decide) ?_
          refine lv_bipush (v := (-2 : Int32)) hx hb dL_queries_56 (by decide) ?_
          have hFc := frw hD hS hA
          refine vx_calli (vx_runV (As := [.int (-1 : Int32), .int (1 : Int32), .int (-2 : Int32)]) (rest := []) ⟨hx, hb, hml, hown, hts⟩ (c_X7_addPattern l hst dC dI cI q_1 q_4 q_5 q_6 q_7 q_8 q_9 q_10 q_11 q_12 q_13 q_14 q_15 q_16 q_17 q_18 q_19 q_20 q_21 q_22 q_23 q_24 q_25 m_57 m_58 q_28 q_29 m_59 m_60 q_32 q_33 _ u_55 (-1 : Int32) (1 : Int32) (-2 : Int32) _ _ h) (cwV 3 hts (goodIn_up gB_X7_addPattern) rfl rfl rfl (by decide +kernel) ⟨Nat.le_of_ble_eq_true rfl, Nat.le_of_ble_eq_true rfl⟩) (pbj_V hP hK hD hN hX hFc hS (ci := 7) (q0 := 0) rfl rfl) rfl rfl hl.1 rfl (lv_room (Nat.le_of_ble_eq_true rfl)) dL_queries_58 ⟨Nat.le_of_ble_eq_true rfl, Nat.le_of_ble_eq_true rfl⟩) hS (fun q _ h => hFc q h) hFc (fun q _ h => hFc q h) (fun E9 ce9 q9 u t H locs ht hvm h hB hz1 hk1 hS hce hcv hcl => (show False from h).elim) (fun r_63 u_62 t H locs ht hvm h hB hz1 hk1 hS => ?_)
          obtain ⟨m_64, m_65, m_66, m_67, hP1, hD1⟩ := hB
          rw [ht] at hP1
          have hP : va_P (dC, dI) vwCl (lwO cI q_1 q_4 q_5 q_6 q_7 q_8 q_9 q_10 q_11 q_12 q_13 q_14 q_15 q_16 q_17 q_18 q_19 q_20 q_21 q_22 q_23 q_24 q_25 m_64 m_65 q_28 q_29 m_66 m_67 q_32 q_33 u_62) H := hP1
          have hD : va_D A (lwO cI q_1 q_4 q_5 q_6 q_7 q_8 q_9 q_10 q_11 q_12 q_13 q_14 q_15 q_16 q_17 q_18 q_19 q_20 q_21 q_22 q_23 q_24 q_25 m_64 m_65 q_28 q_29 m_66 m_67 q_32 q_33 u_62) := hD1.weaken (fun _ _ _ h => hFc _ h)
          refine W.widen (k := 36) (n := 9865) (Nat.le_of_ble_eq_true rfl) (Nat.le_of_ble_eq_true rfl) ?_
          obtain ⟨ht_, hf_⟩ := h
          refine lv_if_ne (tgt := 198) hx hb dL_queries_61 (by decide) (fun c_68 => ?_) (fun c_68 => ?_)
          · have h := ht_ c_68
            exact (show False from h).elim
          · have h := hf_ c_68
            refine lv_aload_n hx hb dL_queries_64 rfl (lv_at hl 0 rfl) ?_
            refine lv_iconst (v := (0 : Int32)) hx hb dL_queries_65 (by decide) ?_
            have hFc := frw hD hS hA
            refine vx_calli (vx_runV (As := [.int (0 : Int32)]) (rest := []) ⟨hx, hb, hml, hown, hts⟩ (c_X7_matches l hst dC dI cI q_1 q_4 q_5 q_6 q_7 q_8 q_9 q_10 q_11 q_12 q_13 q_14 q_15 q_16 q_17 q_18 q_19 q_20 q_21 q_22 q_23 q_24 q_25 m_64 m_65 q_28 q_29 m_66 m_67 q_32 q_33 _ u_62 (0 : Int32) _ _ h) (cwV 1 hts (goodIn_up gB_X7_matches) rfl rfl rfl (by decide +kernel) ⟨Nat.le_of_ble_eq_true rfl, Nat.le_of_ble_eq_true rfl⟩) (pbj_V hP hK hD hN hX hFc hS (ci := 7) (q0 := 0) rfl rfl) rfl rfl hl.1 rfl (lv_room (Nat.le_of_ble_eq_true rfl)) dL_queries_66 ⟨Nat.le_of_ble_eq_true rfl, Nat.le_of_ble_eq_true rfl⟩) hS (fun q _ h => hFc q h) hFc (fun q _ h => hFc q h) (fun E9 ce9 q9 u t H locs ht hvm h hB hz1 hk1 hS hce hcv hcl => (show False from h).elim) (fun r_70 u_69 t H locs ht hvm h hB hz1 hk1 hS => ?_)
            obtain ⟨m_71, m_72, m_73, m_74, hP1, hD1⟩ := hB
            rw [ht] at hP1
            have hP : va_P (dC, dI) vwCl (lwO cI q_1 q_4 q_5 q_6 q_7 q_8 q_9 q_10 q_11 q_12 q_13 q_14 q_15 q_16 q_17 q_18 q_19 q_20 q_21 q_22 q_23 q_24 q_25 m_71 m_72 q_28 q_29 m_73 m_74 q_32 q_33 u_69) H := hP1
            have hD : va_D A (lwO cI q_1 q_4 q_5 q_6 q_7 q_8 q_9 q_10 q_11 q_12 q_13 q_14 q_15 q_16 q_17 q_18 q_19 q_20 q_21 q_22 q_23 q_24 q_25 m_71 m_72 q_28 q_29 m_73 m_74 q_32 q_33 u_69) := hD1.weaken (fun _ _ _ h => hFc _ h)
            refine W.widen (k := 37) (n := 9871) (Nat.le_of_ble_eq_true rfl) (Nat.le_of_ble_eq_true rfl) ?_
            refine lv_iconst (v := (3 : Int32)) hx hb dL_queries_69 (by decide) ?_
            obtain ⟨ht_, hf_⟩ := h
            refine lv_icmp_ne (tgt := 198) hx hb dL_queries_70 (by decide) (fun c_75 => ?_) (fun c_75 => ?_)
            · have h := ht_ c_75
              exact (show False from h).elim
            · have h := hf_ c_75
              refine W.widen (k := 37) (n := 9871) (Nat.le_of_ble_eq_true rfl) (Nat.le_of_ble_eq_true rfl) ?_
              exact sg_L_queries_1 l hst C0 hK hN hX hC hA q_1 q_4 q_5 q_6 q_7 q_8 q_9 q_10 q_11 q_12 q_13 q_14 q_15 q_16 q_17 q_18 q_19 q_20 q_21 q_22 q_23 q_24 q_25 q_28 q_29 q_32 q_33 _ u_69 h m_71 m_72 m_73 m_74 _ _ hP hD hS _ hl
