set_option maxHeartbeats 4000000 in
set_option maxRecDepth 100000 in
theorem sg_L_law_0 (l : Launch) (hst : l.stackTraces = false) {p : Program} {e : Env} {s : State} {m : MethodId} {below : List Frame} {meth : Method} {c : Code} {b L : Nat} {xs : Nat → Int32} (C0 : lw_At p s m meth c b L xs) {dC : Nat → ClassId} {dI : Nat → Nat → Nat} {cI : ClassId} (hK : va_K (dC, dI) vwCl [(cI, .int)] s) (hN : nk s) {A : Nat → Prop} (hX : xj A s) (hC : xnc s) (hA : ∀ q : Nat, s.heap.size ≤ q → A q) (hbA : ¬ A b) (hAi : ∀ q : Nat, A q → s.heap.size ≤ q) (h : P_L_law L xs) (ls : Array Slot) (hl : lv_has ls 4 [(0, .ref b)]) : W p l e room_1 s m #[Value.ref b] below meth c s.heap [] 0 0 (lw_Z below #[Value.ref b] s) (F0 m 0 ls []) := by
  obtain ⟨hx, hb, hr, hml, hown, hts, hXs, hbl, hlocks, hgv⟩ := id C0
  have hts := fun w h => hts w (wsL_law_in w h)
  have hown : s.vm.findClass RL = some m.cls := hown
  have hS : va_S A s.heap s.heap [] := va_S.rf
  have hFc := fr0 hA hS
  refine va_calli (va_runS (As := []) (rest := []) ⟨hx, hb, hml, hown, hts⟩ (c_L_orders l hst dC dI cI  _  _ h) (va_cwS 0 hts gB_L_orders rfl rfl rfl (by decide +kernel) ⟨Nat.le_of_ble_eq_true rfl, Nat.le_of_ble_eq_true rfl⟩) (pbl_S (vaP0 _) hK (vaD0 (A := A)) hN hX hC hFc hS) rfl rfl hl.1 rfl (lv_room (Nat.le_of_ble_eq_true rfl)) dL_law_0 ⟨Nat.le_of_ble_eq_true rfl, Nat.le_of_ble_eq_true rfl⟩) hS (fun q _ h => hFc q h) hFc (fun r_2 u_1 t H locs ht hvm h hB hz1 hk1 hS => ?_)
  refine W.widen (k := 463) (n := 12427) (Nat.le_of_ble_eq_true rfl) (Nat.le_of_ble_eq_true rfl) ?_
  obtain ⟨ht_, hf_⟩ := h
  refine lv_if_eq (tgt := 18) hx hb dL_law_3 (by decide) (fun c_3 => ?_) (fun c_3 => ?_)
  · have h := ht_ c_3
    exact (show False from h).elim
  · have h := hf_ c_3
    have hFc := fr0 hA hS
    refine va_calli (va_runS (As := []) (rest := []) ⟨hx, hb, hml, hown, hts⟩ (c_L_queries l hst dC dI cI  _  _ h) (va_cwS 0 hts gB_L_queries rfl rfl rfl (by decide +kernel) ⟨Nat.le_of_ble_eq_true rfl, Nat.le_of_ble_eq_true rfl⟩) (pbl_S (vaP0 _) hK (vaD0 (A := A)) hN hX hC hFc hS) rfl rfl hl.1 rfl (lv_room (Nat.le_of_ble_eq_true rfl)) dL_law_6 ⟨Nat.le_of_ble_eq_true rfl, Nat.le_of_ble_eq_true rfl⟩) hS (fun q _ h => hFc q h) hFc (fun r_5 u_4 t H locs ht hvm h hB hz1 hk1 hS => ?_)
    refine W.widen (k := 1012) (n := 25370) (Nat.le_of_ble_eq_true rfl) (Nat.le_of_ble_eq_true rfl) ?_
    obtain ⟨ht_, hf_⟩ := h
    refine lv_if_eq (tgt := 18) hx hb dL_law_9 (by decide) (fun c_6 => ?_) (fun c_6 => ?_)
    · have h := ht_ c_6
      exact (show False from h).elim
    · have h := hf_ c_6
      have hFc := fr0 hA hS
      refine va_calli (va_runS (As := []) (rest := []) ⟨hx, hb, hml, hown, hts⟩ (c_L_bounds l hst dC dI cI  _  _ h) (va_cwS 0 hts gB_L_bounds rfl rfl rfl (by decide +kernel) ⟨Nat.le_of_ble_eq_true rfl, Nat.le_of_ble_eq_true rfl⟩) (pbl_S (vaP0 _) hK (vaD0 (A := A)) hN hX hC hFc hS) rfl rfl hl.1 rfl (lv_room (Nat.le_of_ble_eq_true rfl)) dL_law_12 ⟨Nat.le_of_ble_eq_true rfl, Nat.le_of_ble_eq_true rfl⟩) hS (fun q _ h => hFc q h) hFc (fun r_8 u_7 t H locs ht hvm h hB hz1 hk1 hS => ?_)
      refine W.widen (k := 1395) (n := 46966) (Nat.le_of_ble_eq_true rfl) (Nat.le_of_ble_eq_true rfl) ?_
      obtain ⟨ht_, hf_⟩ := h
      refine lv_if_ne (tgt := 20) hx hb dL_law_15 (by decide) (fun c_9 => ?_) (fun c_9 => ?_)
      · have h := ht_ c_9
        have hP := vaP0 (dC, dI) (H := H)
        have hD := vaD0 (A := A)
        refine va_new (ci := 7) (fs := [.null, .null, .null, .null, .null, .int (0 : Int32), .int (0 : Int32)]) (C := RX7) (T := TX7) (N := 7) hx hb hts (inlX7) tyX7 tyX7_ok hown (hts (.classLink RL 8 RX7) (by decide +kernel)) (hts (.instantiable RX7 7) (by decide +kernel)) (hts (.initialized RX7) (by decide +kernel)) hK hP hD hS hA rfl (fun j hj => by rcases (show j = 0 ∨ j = 1 ∨ j = 2 ∨ j = 3 ∨ j = 4 ∨ j = 5 ∨ j = 6 by omega) with rfl | rfl | rfl | rfl | rfl | rfl | rfl <;> rfl) (by decide +kernel) (by decide +kernel) dL_law_20 (fun q_10 H hP hD hS => ?_)
        refine W.widen (k := 1396) (n := 46973) (by omega) (by omega) ?_
        have hP : va_P (dC, dI) vwCl [(q_10, .inr (7, [.null, .null, .null, .null, .null, .int (0 : Int32), .int (0 : Int32)]))] _ := hP
        have hD : va_D A [(q_10, .inr (7, [.null, .null, .null, .null, .null, .int (0 : Int32), .int (0 : Int32)]))] := hD
        refine lv_dup hx hb dL_law_23 rfl ?_
        have hFc := frw hD hS hA
        have hkc : 1396 + 30 ≤ 600130 := by decide +kernel
        have hks : 46973 + 9828 ≤ 7301080 := by decide +kernel
        refine va_callv (va_runI (As := []) (rest := [.ref q_10]) ⟨hx, hb, hml, hown, hts⟩ (c_X7_init l dC dI cI q_10 _ _ h) (cwI 0 hts gB_X7_init rfl rfl rfl (hts (.initialized RX7) (by decide +kernel)) (hts (.methodLink RL 84 yX7_init) (by decide +kernel)) (hts (.instanceMethod yX7_init) (by decide +kernel)) rfl (by decide +kernel) ⟨Nat.le_of_ble_eq_true rfl, Nat.le_of_ble_eq_true rfl⟩) (pb_I hP hK hD hN) rfl rfl hl.1 rfl (lv_room (Nat.le_of_ble_eq_true rfl)) dL_law_24 ⟨hkc, hks⟩) hS (fun q _ h => hFc q h) hFc (fun u_11 t H locs ht hvm h hB hz1 hk1 hS => ?_)
        obtain ⟨q_13, q_14, q_15, q_16, q_17, q_18, q_19, q_20, q_21, q_22, q_23, q_24, q_25, q_26, q_27, q_28, q_29, q_30, q_31, q_32, q_33, q_34, q_35, q_36, q_37, q_38, q_39, q_40, q_41, q_42, hP1, hD1⟩ := hB
        rw [ht] at hP1
        have hP : va_P (dC, dI) vwCl (lwO cI q_10 q_13 q_14 q_15 q_16 q_17 q_18 q_19 q_20 q_21 q_22 q_23 q_24 q_25 q_26 q_27 q_28 q_29 q_30 q_31 q_32 q_33 q_34 q_35 q_36 q_37 q_38 q_39 q_40 q_41 q_42 u_11) H := hP1
        have hD : va_D A (lwO cI q_10 q_13 q_14 q_15 q_16 q_17 q_18 q_19 q_20 q_21 q_22 q_23 q_24 q_25 q_26 q_27 q_28 q_29 q_30 q_31 q_32 q_33 q_34 q_35 q_36 q_37 q_38 q_39 q_40 q_41 q_42 u_11) := hD1.weaken (fun _ _ _ h => hFc _ h)
        refine W.widen (k := 1426) (n := 56801) (by omega) (by omega) ?_
        refine lv_astore_n (lv' := [(1, .ref q_10), (0, .ref b)]) hx hb dL_law_27 rfl hl (by decide) rfl (fun ls hl => ?_)
        refine lv_iconst (v := (0 : Int32)) hx hb dL_law_28 (by decide) ?_
        refine lv_istore_n (lv' := [(2, .int (0 : Int32)), (1, .ref q_10), (0, .ref b)]) hx hb dL_law_29 rfl hl (by decide) rfl (fun ls hl => ?_)
        refine lv_iload_n hx hb dL_law_30 rfl (lv_at hl 0 rfl) ?_
        refine lv_bipush (v := (24 : Int32)) hx hb dL_law_31 (by decide) ?_
        refine lv_icmp_ge (tgt := 147) hx hb dL_law_33 (by decide) (fun c_43 => absurd c_43 (by decide)) (fun c_43 => ?_)
        refine lv_aload_n hx hb dL_law_36 rfl (lv_at hl 2 rfl) ?_
        refine va_slen hx hb hXs hbl hbA hS dL_law_37 ?_
        obtain ⟨ht_, hf_⟩ := h
        refine lv_if_ne (tgt := 48) hx hb dL_law_38 (by decide) (fun c_44 => ?_) (fun c_44 => ?_)
        · have h := ht_ c_44
          have hL0 : ¬ Int32.ofNat L = 0 := c_44
          refine lv_aload_n hx hb dL_law_48 rfl (lv_at hl 2 rfl) ?_
          refine lv_iload_n hx hb dL_law_49 rfl (lv_at hl 0 rfl) ?_
          refine lv_aload_n hx hb dL_law_50 rfl (lv_at hl 2 rfl) ?_
          refine va_slen hx hb hXs hbl hbA hS dL_law_51 ?_
          refine lv_irem hx hb dL_law_52 hL0 ?_
          obtain ⟨hin, h⟩ := h
          refine va_sld hx hb hXs hbl hbA hS hin dL_law_53 ?_
          refine lv_bipush (v := (8 : Int32)) hx hb dL_law_54 (by decide) ?_
          refine lv_iushr (v := (jiushr (xs (((0 : Int32) - (0 : Int32) / (Int32.ofNat L) * (Int32.ofNat L))).toNatClampNeg) (8 : Int32))) hx hb dL_law_56 rfl ?_
          have hl : lv_has ls 4 [(0, .ref b), (1, .ref q_10), (2, .int (0 : Int32))] := lv_sub hl [2, 1, 0] rfl
          refine W.widen (k := 1426) (n := 56801) (Nat.le_of_ble_eq_true rfl) (Nat.le_of_ble_eq_true rfl) ?_
          exact sg_L_law_1 l hst C0 hK hN hX hC hA hbA hAi q_10 q_13 q_14 q_15 q_16 q_17 q_18 q_19 q_20 q_21 q_22 q_23 q_24 q_25 q_26 q_27 q_28 q_29 q_30 q_31 q_32 q_33 q_34 q_37 q_38 q_41 q_42 u_11 (jiushr (xs (((0 : Int32) - (0 : Int32) / (Int32.ofNat L) * (Int32.ofNat L))).toNatClampNeg) (8 : Int32)) h q_35 q_36 q_39 q_40 _ _ hP hD hS _ hl
        · have h := hf_ c_44
          refine lv_bipush (v := (31 : Int32)) hx hb dL_law_41 (by decide) ?_
          refine lv_iload_n hx hb dL_law_43 rfl (lv_at hl 0 rfl) ?_
          refine lv_imul hx hb dL_law_44 ?_
          refine lv_lit (b := (0 : Int32)) (by decide) ?_
          refine lv_goto (tgt := 57) hx hb dL_law_45 (by decide) ?_
          have hl : lv_has ls 4 [(0, .ref b), (1, .ref q_10), (2, .int (0 : Int32))] := lv_sub hl [2, 1, 0] rfl
          refine W.widen (k := 1426) (n := 56801) (Nat.le_of_ble_eq_true rfl) (Nat.le_of_ble_eq_true rfl) ?_
          exact sg_L_law_1 l hst C0 hK hN hX hC hA hbA hAi q_10 q_13 q_14 q_15 q_16 q_17 q_18 q_19 q_20 q_21 q_22 q_23 q_24 q_25 q_26 q_27 q_28 q_29 q_30 q_31 q_32 q_33 q_34 q_37 q_38 q_41 q_42 u_11 (0 : Int32) h q_35 q_36 q_39 q_40 _ _ hP hD hS _ hl
      · have h := hf_ c_9
        exact (show False from h).elim
