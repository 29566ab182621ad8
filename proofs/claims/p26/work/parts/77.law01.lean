set_option maxHeartbeats 4000000 in
set_option maxRecDepth 100000 in
theorem sg_L_law_21 (l : Launch) (hst : l.stackTraces = false) {p : Program} {e : Env} {s : State} {m : MethodId} {below : List Frame} {meth : Method} {c : Code} {b L : Nat} {xs : Nat → Int32} (C0 : lw_At p s m meth c b L xs) {dC : Nat → ClassId} {dI : Nat → Nat → Nat} {cI : ClassId} (hK : va_K (dC, dI) vwCl [(cI, .int)] s) (hN : nk s) {A : Nat → Prop} (hX : xj A s) (hC : xnc s) (hA : ∀ q : Nat, s.heap.size ≤ q → A q) (hbA : ¬ A b) (hAi : ∀ q : Nat, A q → s.heap.size ≤ q) (h0 h0_1 h0_2 h0_3 h0_4 h0_5 h0_6 h0_7 h0_8 h0_9 h0_10 h0_11 h0_12 h0_13 h0_14 h0_15 h0_16 h0_17 h0_18 h0_19 h0_20 h0_21 h0_22 h0_25 h0_26 h0_29 h0_30 : Nat) (s0 : TriS) (x0 : Int32) (h : P_L_law_21 s0 x0 L xs) (h0_23 h0_24 h0_27 h0_28 : Nat) (H : Heap) (locs : List Loc) (hP : va_P (dC, dI) vwCl (lwO cI h0 h0_1 h0_2 h0_3 h0_4 h0_5 h0_6 h0_7 h0_8 h0_9 h0_10 h0_11 h0_12 h0_13 h0_14 h0_15 h0_16 h0_17 h0_18 h0_19 h0_20 h0_21 h0_22 h0_23 h0_24 h0_25 h0_26 h0_27 h0_28 h0_29 h0_30 s0) H) (hD : va_D A (lwO cI h0 h0_1 h0_2 h0_3 h0_4 h0_5 h0_6 h0_7 h0_8 h0_9 h0_10 h0_11 h0_12 h0_13 h0_14 h0_15 h0_16 h0_17 h0_18 h0_19 h0_20 h0_21 h0_22 h0_23 h0_24 h0_25 h0_26 h0_27 h0_28 h0_29 h0_30 s0)) (hS : va_S A s.heap H locs) (ls : Array Slot) (hl : lv_has ls 4 [(0, .ref b), (1, .ref h0), (2, .int (20 : Int32))]) : W p l e room_1 s m #[Value.ref b] below meth c H locs 5314 80129 (lw_Z below #[Value.ref b] s) (F0 m 57 ls [.int x0]) := by
  obtain ⟨hx, hb, hr, hml, hown, hts, hXs, hbl, hlocks, hgv⟩ := id C0
  have hts := fun w h => hts w (wsL_law_in w h)
  have hown : s.vm.findClass RL = some m.cls := hown
  refine lv_istore_n (lv' := [(3, .int x0), (0, .ref b), (1, .ref h0), (2, .int (20 : Int32))]) hx hb dL_law_57 rfl hl (by decide) rfl (fun ls hl => ?_)
  refine lv_aload_n hx hb dL_law_58 rfl (lv_at hl 2 rfl) ?_
  refine lv_iconst (v := (0 : Int32)) hx hb dL_law_59 (by decide) ?_
  refine lv_iload_n hx hb dL_law_60 rfl (lv_at hl 0 rfl) ?_
  refine lv_bipush (v := (6 : Int32)) hx hb dL_law_61 (by decide) ?_
  refine lv_irem hx hb dL_law_63 (by decide) ?_
  refine lv_iload_n hx hb dL_law_64 rfl (lv_at hl 0 rfl) ?_
  refine lv_bipush (v := (6 : Int32)) hx hb dL_law_65 (by decide) ?_
  refine lv_idiv hx hb dL_law_67 (by decide) ?_
  refine lv_iconst (v := (4 : Int32)) hx hb dL_law_68 (by decide) ?_
  refine lv_irem hx hb dL_law_69 (by decide) ?_
  refine lv_iload_n hx hb dL_law_70 rfl (lv_at hl 0 rfl) ?_
  refine lv_bipush (v := (24 : Int32)) hx hb dL_law_71 (by decide) ?_
  refine lv_idiv hx hb dL_law_73 (by decide) ?_
  refine lv_bipush (v := (7 : Int32)) hx hb dL_law_74 (by decide) ?_
  refine lv_irem hx hb dL_law_76 (by decide) ?_
  have hFc := frw hD hS hA
  refine vx_calli (SX := Unit) (px := fun _ => False) (BX := fun _ _ _ => True) (AX := A) (vx_runSX0 (vx_runSX (As := [.ref h0, .int (0 : Int32), .int (x0 - x0 / (6 : Int32) * (6 : Int32)), .int ((x0 / (6 : Int32)) - (x0 / (6 : Int32)) / (4 : Int32) * (4 : Int32)), .int ((x0 / (24 : Int32)) - (x0 / (24 : Int32)) / (7 : Int32) * (7 : Int32))]) (rest := []) ⟨hx, hb, hml, hown, hts⟩ (c_L_act l hst dC dI cI h0 h0_1 h0_2 h0_3 h0_4 h0_5 h0_6 h0_7 h0_8 h0_9 h0_10 h0_11 h0_12 h0_13 h0_14 h0_15 h0_16 h0_17 h0_18 h0_19 h0_20 h0_21 h0_22 h0_23 h0_24 h0_25 h0_26 h0_27 h0_28 h0_29 h0_30 _ s0 (0 : Int32) (x0 - x0 / (6 : Int32) * (6 : Int32)) ((x0 / (6 : Int32)) - (x0 / (6 : Int32)) / (4 : Int32) * (4 : Int32)) ((x0 / (24 : Int32)) - (x0 / (24 : Int32)) / (7 : Int32) * (7 : Int32)) _ h) (vx_cwSW 5 hts gB_L_act rfl rfl rfl (by decide +kernel) ⟨Nat.le_of_ble_eq_true rfl, Nat.le_of_ble_eq_true rfl⟩) (pbl_S hP hK hD hN hX hC hFc hS) rfl rfl hl.1 rfl (lv_room (Nat.le_of_ble_eq_true rfl)) dL_law_77 ⟨Nat.le_of_ble_eq_true rfl, Nat.le_of_ble_eq_true rfl⟩)) hS (fun q _ h => hFc q h) hFc (fun q _ h => h) (fun E9 ce9 q9 u t H locs ht hvm h hB hz1 hk1 hS hce hcv hcl => h.elim) (fun r_418 u_417 t H locs ht hvm h hB hz1 hk1 hS => ?_)
  obtain ⟨m_419, m_420, m_421, m_422, hP1, hD1⟩ := hB
  rw [ht] at hP1
  have hP : va_P (dC, dI) vwCl (lwO cI h0 h0_1 h0_2 h0_3 h0_4 h0_5 h0_6 h0_7 h0_8 h0_9 h0_10 h0_11 h0_12 h0_13 h0_14 h0_15 h0_16 h0_17 h0_18 h0_19 h0_20 h0_21 h0_22 m_419 m_420 h0_25 h0_26 m_421 m_422 h0_29 h0_30 u_417) H := hP1
  have hD : va_D A (lwO cI h0 h0_1 h0_2 h0_3 h0_4 h0_5 h0_6 h0_7 h0_8 h0_9 h0_10 h0_11 h0_12 h0_13 h0_14 h0_15 h0_16 h0_17 h0_18 h0_19 h0_20 h0_21 h0_22 m_419 m_420 h0_25 h0_26 m_421 m_422 h0_29 h0_30 u_417) := hD1.weaken (fun _ _ _ h => hFc _ h)
  refine W.widen (k := 5316) (n := 80141) (Nat.le_of_ble_eq_true rfl) (Nat.le_of_ble_eq_true rfl) ?_
  obtain ⟨ht_, hf_⟩ := h
  refine lv_if_lt (tgt := 139) hx hb dL_law_80 (by decide) (fun c_423 => ?_) (fun c_423 => ?_)
  · have h := ht_ c_423
    exact (show False from h).elim
  · have h := hf_ c_423
    refine lv_iload_n hx hb dL_law_83 rfl (lv_at hl 3 rfl) ?_
    refine lv_iconst (v := (4 : Int32)) hx hb dL_law_84 (by decide) ?_
    refine lv_icmp_ge (tgt := 132) hx hb dL_law_85 (by decide) (fun c_424 => ?_) (fun c_424 => absurd c_424 (by decide))
    refine lv_aload_n hx hb dL_law_132 rfl (lv_at hl 2 rfl) ?_
    have hFc := frw hD hS hA
    refine va_calli (va_runS (As := [.ref h0]) (rest := []) ⟨hx, hb, hml, hown, hts⟩ (c_L_refuses l hst dC dI cI h0 h0_1 h0_2 h0_3 h0_4 h0_5 h0_6 h0_7 h0_8 h0_9 h0_10 h0_11 h0_12 h0_13 h0_14 h0_15 h0_16 h0_17 h0_18 h0_19 h0_20 h0_21 h0_22 m_419 m_420 h0_25 h0_26 m_421 m_422 h0_29 h0_30 _ u_417 _ h) (va_cwS 1 hts gB_L_refuses rfl rfl rfl (by decide +kernel) ⟨Nat.le_of_ble_eq_true rfl, Nat.le_of_ble_eq_true rfl⟩) (pbl_S hP hK hD hN hX hC hFc hS) rfl rfl hl.1 rfl (lv_room (Nat.le_of_ble_eq_true rfl)) dL_law_133 ⟨Nat.le_of_ble_eq_true rfl, Nat.le_of_ble_eq_true rfl⟩) hS (fun q _ h => hFc q h) hFc (fun r_426 u_425 t H locs ht hvm h hB hz1 hk1 hS => ?_)
    obtain ⟨m_427, m_428, m_429, m_430, hP1, hD1⟩ := hB
    rw [ht] at hP1
    have hP : va_P (dC, dI) vwCl (lwO cI h0 h0_1 h0_2 h0_3 h0_4 h0_5 h0_6 h0_7 h0_8 h0_9 h0_10 h0_11 h0_12 h0_13 h0_14 h0_15 h0_16 h0_17 h0_18 h0_19 h0_20 h0_21 h0_22 m_427 m_428 h0_25 h0_26 m_429 m_430 h0_29 h0_30 u_425) H := hP1
    have hD : va_D A (lwO cI h0 h0_1 h0_2 h0_3 h0_4 h0_5 h0_6 h0_7 h0_8 h0_9 h0_10 h0_11 h0_12 h0_13 h0_14 h0_15 h0_16 h0_17 h0_18 h0_19 h0_20 h0_21 h0_22 m_427 m_428 h0_25 h0_26 m_429 m_430 h0_29 h0_30 u_425) := hD1.weaken (fun _ _ _ h => hFc _ h)
    refine W.widen (k := 5508) (n := 81293) (Nat.le_of_ble_eq_true rfl) (Nat.le_of_ble_eq_true rfl) ?_
    obtain ⟨ht_, hf_⟩ := h
    refine lv_if_ne (tgt := 141) hx hb dL_law_136 (by decide) (fun c_431 => ?_) (fun c_431 => ?_)
    · have h := ht_ c_431
      refine lv_iinc (v := (21 : Int32)) (lv' := [(2, .int (21 : Int32)), (3, .int x0), (0, .ref b), (1, .ref h0)]) hx hb dL_law_141 hl (k := 3) rfl (by decide) (by decide) rfl (fun ls hl => ?_)
      refine lv_goto (tgt := 30) hx hb dL_law_144 (by decide) ?_
      refine lv_iload_n hx hb dL_law_30 rfl (lv_at hl 0 rfl) ?_
      refine lv_bipush (v := (24 : Int32)) hx hb dL_law_31 (by decide) ?_
      refine lv_icmp_ge (tgt := 147) hx hb dL_law_33 (by decide) (fun c_432 => absurd c_432 (by decide)) (fun c_432 => ?_)
      refine lv_aload_n hx hb dL_law_36 rfl (lv_at hl 2 rfl) ?_
      refine va_slen hx hb hXs hbl hbA hS dL_law_37 ?_
      obtain ⟨ht_, hf_⟩ := h
      refine lv_if_ne (tgt := 48) hx hb dL_law_38 (by decide) (fun c_433 => ?_) (fun c_433 => ?_)
      · have h := ht_ c_433
        have hL0 : ¬ Int32.ofNat L = 0 := c_433
        refine lv_aload_n hx hb dL_law_48 rfl (lv_at hl 2 rfl) ?_
        refine lv_iload_n hx hb dL_law_49 rfl (lv_at hl 0 rfl) ?_
        refine lv_aload_n hx hb dL_law_50 rfl (lv_at hl 2 rfl) ?_
        refine va_slen hx hb hXs hbl hbA hS dL_law_51 ?_
        refine lv_irem hx hb dL_law_52 hL0 ?_
        obtain ⟨hin, h⟩ := h
        refine va_sld hx hb hXs hbl hbA hS hin dL_law_53 ?_
        refine lv_bipush (v := (8 : Int32)) hx hb dL_law_54 (by decide) ?_
        refine lv_iushr (v := (jiushr (xs (((21 : Int32) - (21 : Int32) / (Int32.ofNat L) * (Int32.ofNat L))).toNatClampNeg) (8 : Int32))) hx hb dL_law_56 rfl ?_
        have hl : lv_has ls 4 [(0, .ref b), (1, .ref h0), (2, .int (21 : Int32))] := lv_sub hl [2, 3, 0] rfl
        refine W.widen (k := 5508) (n := 81293) (Nat.le_of_ble_eq_true rfl) (Nat.le_of_ble_eq_true rfl) ?_
        exact sg_L_law_22 l hst C0 hK hN hX hC hA hbA hAi h0 h0_1 h0_2 h0_3 h0_4 h0_5 h0_6 h0_7 h0_8 h0_9 h0_10 h0_11 h0_12 h0_13 h0_14 h0_15 h0_16 h0_17 h0_18 h0_19 h0_20 h0_21 h0_22 h0_25 h0_26 h0_29 h0_30 u_425 (jiushr (xs (((21 : Int32) - (21 : Int32) / (Int32.ofNat L) * (Int32.ofNat L))).toNatClampNeg) (8 : Int32)) h m_427 m_428 m_429 m_430 _ _ hP hD hS _ hl
      · have h := hf_ c_433
        refine lv_bipush (v := (31 : Int32)) hx hb dL_law_41 (by decide) ?_
        refine lv_iload_n hx hb dL_law_43 rfl (lv_at hl 0 rfl) ?_
        refine lv_imul hx hb dL_law_44 ?_
        refine lv_lit (b := (651 : Int32)) (by decide) ?_
        refine lv_goto (tgt := 57) hx hb dL_law_45 (by decide) ?_
        have hl : lv_has ls 4 [(0, .ref b), (1, .ref h0), (2, .int (21 : Int32))] := lv_sub hl [2, 3, 0] rfl
        refine W.widen (k := 5508) (n := 81293) (Nat.le_of_ble_eq_true rfl) (Nat.le_of_ble_eq_true rfl) ?_
        exact sg_L_law_22 l hst C0 hK hN hX hC hA hbA hAi h0 h0_1 h0_2 h0_3 h0_4 h0_5 h0_6 h0_7 h0_8 h0_9 h0_10 h0_11 h0_12 h0_13 h0_14 h0_15 h0_16 h0_17 h0_18 h0_19 h0_20 h0_21 h0_22 h0_25 h0_26 h0_29 h0_30 u_425 (651 : Int32) h m_427 m_428 m_429 m_430 _ _ hP hD hS _ hl
    · have h := hf_ c_431
      exact (show False from h).elim
set_option maxHeartbeats 4000000 in
set_option maxRecDepth 100000 in
theorem sg_L_law_20 (l : Launch) (hst : l.stackTraces = false) {p : Program} {e : Env} {s : State} {m : MethodId} {below : List Frame} {meth : Method} {c : Code} {b L : Nat} {xs : Nat → Int32} (C0 : lw_At p s m meth c b L xs) {dC : Nat → ClassId} {dI : Nat → Nat → Nat} {cI : ClassId} (hK : va_K (dC, dI) vwCl [(cI, .int)] s) (hN : nk s) {A : Nat → Prop} (hX : xj A s) (hC : xnc s) (hA : ∀ q : Nat, s.heap.size ≤ q → A q) (hbA : ¬ A b) (hAi : ∀ q : Nat, A q → s.heap.size ≤ q) (h0 h0_1 h0_2 h0_3 h0_4 h0_5 h0_6 h0_7 h0_8 h0_9 h0_10 h0_11 h0_12 h0_13 h0_14 h0_15 h0_16 h0_17 h0_18 h0_19 h0_20 h0_21 h0_22 h0_25 h0_26 h0_29 h0_30 : Nat) (s0 : TriS) (x0 : Int32) (h : P_L_law_20 s0 x0 L xs) (h0_23 h0_24 h0_27 h0_28 : Nat) (H : Heap) (locs : List Loc) (hP : va_P (dC, dI) vwCl (lwO cI h0 h0_1 h0_2 h0_3 h0_4 h0_5 h0_6 h0_7 h0_8 h0_9 h0_10 h0_11 h0_12 h0_13 h0_14 h0_15 h0_16 h0_17 h0_18 h0_19 h0_20 h0_21 h0_22 h0_23 h0_24 h0_25 h0_26 h0_27 h0_28 h0_29 h0_30 s0) H) (hD : va_D A (lwO cI h0 h0_1 h0_2 h0_3 h0_4 h0_5 h0_6 h0_7 h0_8 h0_9 h0_10 h0_11 h0_12 h0_13 h0_14 h0_15 h0_16 h0_17 h0_18 h0_19 h0_20 h0_21 h0_22 h0_23 h0_24 h0_25 h0_26 h0_27 h0_28 h0_29 h0_30 s0)) (hS : va_S A s.heap H locs) (ls : Array Slot) (hl : lv_has ls 4 [(0, .ref b), (1, .ref h0), (2, .int (19 : Int32))]) : W p l e room_1 s m #[Value.ref b] below meth c H locs 5120 78965 (lw_Z below #[Value.ref b] s) (F0 m 57 ls [.int x0]) := by
  obtain ⟨hx, hb, hr, hml, hown, hts, hXs, hbl, hlocks, hgv⟩ := id C0
  have hts := fun w h => hts w (wsL_law_in w h)
  have hown : s.vm.findClass RL = some m.cls := hown
  refine lv_istore_n (lv' := [(3, .int x0), (0, .ref b), (1, .ref h0), (2, .int (19 : Int32))]) hx hb dL_law_57 rfl hl (by decide) rfl (fun ls hl => ?_)
  refine lv_aload_n hx hb dL_law_58 rfl (lv_at hl 2 rfl) ?_
  refine lv_iconst (v := (0 : Int32)) hx hb dL_law_59 (by decide) ?_
  refine lv_iload_n hx hb dL_law_60 rfl (lv_at hl 0 rfl) ?_
  refine lv_bipush (v := (6 : Int32)) hx hb dL_law_61 (by decide) ?_
  refine lv_irem hx hb dL_law_63 (by decide) ?_
  refine lv_iload_n hx hb dL_law_64 rfl (lv_at hl 0 rfl) ?_
  refine lv_bipush (v := (6 : Int32)) hx hb dL_law_65 (by decide) ?_
  refine lv_idiv hx hb dL_law_67 (by decide) ?_
  refine lv_iconst (v := (4 : Int32)) hx hb dL_law_68 (by decide) ?_
  refine lv_irem hx hb dL_law_69 (by decide) ?_
  refine lv_iload_n hx hb dL_law_70 rfl (lv_at hl 0 rfl) ?_
  refine lv_bipush (v := (24 : Int32)) hx hb dL_law_71 (by decide) ?_
  refine lv_idiv hx hb dL_law_73 (by decide) ?_
  refine lv_bipush (v := (7 : Int32)) hx hb dL_law_74 (by decide) ?_
  refine lv_irem hx hb dL_law_76 (by decide) ?_
  have hFc := frw hD hS hA
  refine vx_calli (SX := Unit) (px := fun _ => False) (BX := fun _ _ _ => True) (AX := A) (vx_runSX0 (vx_runSX (As := [.ref h0, .int (0 : Int32), .int (x0 - x0 / (6 : Int32) * (6 : Int32)), .int ((x0 / (6 : Int32)) - (x0 / (6 : Int32)) / (4 : Int32) * (4 : Int32)), .int ((x0 / (24 : Int32)) - (x0 / (24 : Int32)) / (7 : Int32) * (7 : Int32))]) (rest := []) ⟨hx, hb, hml, hown, hts⟩ (c_L_act l hst dC dI cI h0 h0_1 h0_2 h0_3 h0_4 h0_5 h0_6 h0_7 h0_8 h0_9 h0_10 h0_11 h0_12 h0_13 h0_14 h0_15 h0_16 h0_17 h0_18 h0_19 h0_20 h0_21 h0_22 h0_23 h0_24 h0_25 h0_26 h0_27 h0_28 h0_29 h0_30 _ s0 (0 : Int32) (x0 - x0 / (6 : Int32) * (6 : Int32)) ((x0 / (6 : Int32)) - (x0 / (6 : Int32)) / (4 : Int32) * (4 : Int32)) ((x0 / (24 : Int32)) - (x0 / (24 : Int32)) / (7 : Int32) * (7 : Int32)) _ h) (vx_cwSW 5 hts gB_L_act rfl rfl rfl (by decide +kernel) ⟨Nat.le_of_ble_eq_true rfl, Nat.le_of_ble_eq_true rfl⟩) (pbl_S hP hK hD hN hX hC hFc hS) rfl rfl hl.1 rfl (lv_room (Nat.le_of_ble_eq_true rfl)) dL_law_77 ⟨Nat.le_of_ble_eq_true rfl, Nat.le_of_ble_eq_true rfl⟩)) hS (fun q _ h => hFc q h) hFc (fun q _ h => h) (fun E9 ce9 q9 u t H locs ht hvm h hB hz1 hk1 hS hce hcv hcl => h.elim) (fun r_401 u_400 t H locs ht hvm h hB hz1 hk1 hS => ?_)
  obtain ⟨m_402, m_403, m_404, m_405, hP1, hD1⟩ := hB
  rw [ht] at hP1
  have hP : va_P (dC, dI) vwCl (lwO cI h0 h0_1 h0_2 h0_3 h0_4 h0_5 h0_6 h0_7 h0_8 h0_9 h0_10 h0_11 h0_12 h0_13 h0_14 h0_15 h0_16 h0_17 h0_18 h0_19 h0_20 h0_21 h0_22 m_402 m_403 h0_25 h0_26 m_404 m_405 h0_29 h0_30 u_400) H := hP1
  have hD : va_D A (lwO cI h0 h0_1 h0_2 h0_3 h0_4 h0_5 h0_6 h0_7 h0_8 h0_9 h0_10 h0_11 h0_12 h0_13 h0_14 h0_15 h0_16 h0_17 h0_18 h0_19 h0_20 h0_21 h0_22 m_402 m_403 h0_25 h0_26 m_404 m_405 h0_29 h0_30 u_400) := hD1.weaken (fun _ _ _ h => hFc _ h)
  refine W.widen (k := 5122) (n := 78977) (Nat.le_of_ble_eq_true rfl) (Nat.le_of_ble_eq_true rfl) ?_
  obtain ⟨ht_, hf_⟩ := h
  refine lv_if_lt (tgt := 139) hx hb dL_law_80 (by decide) (fun c_406 => ?_) (fun c_406 => ?_)
  · have h := ht_ c_406
    exact (show False from h).elim
  · have h := hf_ c_406
    refine lv_iload_n hx hb dL_law_83 rfl (lv_at hl 3 rfl) ?_
    refine lv_iconst (v := (4 : Int32)) hx hb dL_law_84 (by decide) ?_
    refine lv_icmp_ge (tgt := 132) hx hb dL_law_85 (by decide) (fun c_407 => ?_) (fun c_407 => absurd c_407 (by decide))
    refine lv_aload_n hx hb dL_law_132 rfl (lv_at hl 2 rfl) ?_
    have hFc := frw hD hS hA
    refine va_calli (va_runS (As := [.ref h0]) (rest := []) ⟨hx, hb, hml, hown, hts⟩ (c_L_refuses l hst dC dI cI h0 h0_1 h0_2 h0_3 h0_4 h0_5 h0_6 h0_7 h0_8 h0_9 h0_10 h0_11 h0_12 h0_13 h0_14 h0_15 h0_16 h0_17 h0_18 h0_19 h0_20 h0_21 h0_22 m_402 m_403 h0_25 h0_26 m_404 m_405 h0_29 h0_30 _ u_400 _ h) (va_cwS 1 hts gB_L_refuses rfl rfl rfl (by decide +kernel) ⟨Nat.le_of_ble_eq_true rfl, Nat.le_of_ble_eq_true rfl⟩) (pbl_S hP hK hD hN hX hC hFc hS) rfl rfl hl.1 rfl (lv_room (Nat.le_of_ble_eq_true rfl)) dL_law_133 ⟨Nat.le_of_ble_eq_true rfl, Nat.le_of_ble_eq_true rfl⟩) hS (fun q _ h => hFc q h) hFc (fun r_409 u_408 t H locs ht hvm h hB hz1 hk1 hS => ?_)
    obtain ⟨m_410, m_411, m_412, m_413, hP1, hD1⟩ := hB
    rw [ht] at hP1
    have hP : va_P (dC, dI) vwCl (lwO cI h0 h0_1 h0_2 h0_3 h0_4 h0_5 h0_6 h0_7 h0_8 h0_9 h0_10 h0_11 h0_12 h0_13 h0_14 h0_15 h0_16 h0_17 h0_18 h0_19 h0_20 h0_21 h0_22 m_410 m_411 h0_25 h0_26 m_412 m_413 h0_29 h0_30 u_408) H := hP1
    have hD : va_D A (lwO cI h0 h0_1 h0_2 h0_3 h0_4 h0_5 h0_6 h0_7 h0_8 h0_9 h0_10 h0_11 h0_12 h0_13 h0_14 h0_15 h0_16 h0_17 h0_18 h0_19 h0_20 h0_21 h0_22 m_410 m_411 h0_25 h0_26 m_412 m_413 h0_29 h0_30 u_408) := hD1.weaken (fun _ _ _ h => hFc _ h)
    refine W.widen (k := 5314) (n := 80129) (Nat.le_of_ble_eq_true rfl) (Nat.le_of_ble_eq_true rfl) ?_
    obtain ⟨ht_, hf_⟩ := h
    refine lv_if_ne (tgt := 141) hx hb dL_law_136 (by decide) (fun c_414 => ?_) (fun c_414 => ?_)
    · have h := ht_ c_414
      refine lv_iinc (v := (20 : Int32)) (lv' := [(2, .int (20 : Int32)), (3, .int x0), (0, .ref b), (1, .ref h0)]) hx hb dL_law_141 hl (k := 3) rfl (by decide) (by decide) rfl (fun ls hl => ?_)
      refine lv_goto (tgt := 30) hx hb dL_law_144 (by decide) ?_
      refine lv_iload_n hx hb dL_law_30 rfl (lv_at hl 0 rfl) ?_
      refine lv_bipush (v := (24 : Int32)) hx hb dL_law_31 (by decide) ?_
      refine lv_icmp_ge (tgt := 147) hx hb dL_law_33 (by decide) (fun c_415 => absurd c_415 (by decide)) (fun c_415 => ?_)
      refine lv_aload_n hx hb dL_law_36 rfl (lv_at hl 2 rfl) ?_
      refine va_slen hx hb hXs hbl hbA hS dL_law_37 ?_
      obtain ⟨ht_, hf_⟩ := h
      refine lv_if_ne (tgt := 48) hx hb dL_law_38 (by decide) (fun c_416 => ?_) (fun c_416 => ?_)
      · have h := ht_ c_416
        have hL0 : ¬ Int32.ofNat L = 0 := c_416
        refine lv_aload_n hx hb dL_law_48 rfl (lv_at hl 2 rfl) ?_
        refine lv_iload_n hx hb dL_law_49 rfl (lv_at hl 0 rfl) ?_
        refine lv_aload_n hx hb dL_law_50 rfl (lv_at hl 2 rfl) ?_
        refine va_slen hx hb hXs hbl hbA hS dL_law_51 ?_
        refine lv_irem hx hb dL_law_52 hL0 ?_
        obtain ⟨hin, h⟩ := h
        refine va_sld hx hb hXs hbl hbA hS hin dL_law_53 ?_
        refine lv_bipush (v := (8 : Int32)) hx hb dL_law_54 (by decide) ?_
        refine lv_iushr (v := (jiushr (xs (((20 : Int32) - (20 : Int32) / (Int32.ofNat L) * (Int32.ofNat L))).toNatClampNeg) (8 : Int32))) hx hb dL_law_56 rfl ?_
        have hl : lv_has ls 4 [(0, .ref b), (1, .ref h0), (2, .int (20 : Int32))] := lv_sub hl [2, 3, 0] rfl
        refine W.widen (k := 5314) (n := 80129) (Nat.le_of_ble_eq_true rfl) (Nat.le_of_ble_eq_true rfl) ?_
        exact sg_L_law_21 l hst C0 hK hN hX hC hA hbA hAi h0 h0_1 h0_2 h0_3 h0_4 h0_5 h0_6 h0_7 h0_8 h0_9 h0_10 h0_11 h0_12 h0_13 h0_14 h0_15 h0_16 h0_17 h0_18 h0_19 h0_20 h0_21 h0_22 h0_25 h0_26 h0_29 h0_30 u_408 (jiushr (xs (((20 : Int32) - (20 : Int32) / (Int32.ofNat L) * (Int32.ofNat L))).toNatClampNeg) (8 : Int32)) h m_410 m_411 m_412 m_413 _ _ hP hD hS _ hl
      · have h := hf_ c_416
        refine lv_bipush (v := (31 : Int32)) hx hb dL_law_41 (by decide) ?_
        refine lv_iload_n hx hb dL_law_43 rfl (lv_at hl 0 rfl) ?_
        refine lv_imul hx hb dL_law_44 ?_
        refine lv_lit (b := (620 : Int32)) (by decide) ?_
        refine lv_goto (tgt := 57) hx hb dL_law_45 (by decide) ?_
        have hl : lv_has ls 4 [(0, .ref b), (1, .ref h0), (2, .int (20 : Int32))] := lv_sub hl [2, 3, 0] rfl
        refine W.widen (k := 5314) (n := 80129) (Nat.le_of_ble_eq_true rfl) (Nat.le_of_ble_eq_true rfl) ?_
        exact sg_L_law_21 l hst C0 hK hN hX hC hA hbA hAi h0 h0_1 h0_2 h0_3 h0_4 h0_5 h0_6 h0_7 h0_8 h0_9 h0_10 h0_11 h0_12 h0_13 h0_14 h0_15 h0_16 h0_17 h0_18 h0_19 h0_20 h0_21 h0_22 h0_25 h0_26 h0_29 h0_30 u_408 (620 : Int32) h m_410 m_411 m_412 m_413 _ _ hP hD hS _ hl
    · have h := hf_ c_414
      exact (show False from h).elim
set_option maxHeartbeats 4000000 in
set_option maxRecDepth 100000 in
theorem sg_L_law_19 (l : Launch) (hst : l.stackTraces = false) {p : Program} {e : Env} {s : State} {m : MethodId} {below : List Frame} {meth : Method} {c : Code} {b L : Nat} {xs : Nat → Int32} (C0 : lw_At p s m meth c b L xs) {dC : Nat → ClassId} {dI : Nat → Nat → Nat} {cI : ClassId} (hK : va_K (dC, dI) vwCl [(cI, .int)] s) (hN : nk s) {A : Nat → Prop} (hX : xj A s) (hC : xnc s) (hA : ∀ q : Nat, s.heap.size ≤ q → A q) (hbA : ¬ A b) (hAi : ∀ q : Nat, A q → s.heap.size ≤ q) (h0 h0_1 h0_2 h0_3 h0_4 h0_5 h0_6 h0_7 h0_8 h0_9 h0_10 h0_11 h0_12 h0_13 h0_14 h0_15 h0_16 h0_17 h0_18 h0_19 h0_20 h0_21 h0_22 h0_25 h0_26 h0_29 h0_30 : Nat) (s0 : TriS) (x0 : Int32) (h : P_L_law_19 s0 x0 L xs) (h0_23 h0_24 h0_27 h0_28 : Nat) (H : Heap) (locs : List Loc) (hP : va_P (dC, dI) vwCl (lwO cI h0 h0_1 h0_2 h0_3 h0_4 h0_5 h0_6 h0_7 h0_8 h0_9 h0_10 h0_11 h0_12 h0_13 h0_14 h0_15 h0_16 h0_17 h0_18 h0_19 h0_20 h0_21 h0_22 h0_23 h0_24 h0_25 h0_26 h0_27 h0_28 h0_29 h0_30 s0) H) (hD : va_D A (lwO cI h0 h0_1 h0_2 h0_3 h0_4 h0_5 h0_6 h0_7 h0_8 h0_9 h0_10 h0_11 h0_12 h0_13 h0_14 h0_15 h0_16 h0_17 h0_18 h0_19 h0_20 h0_21 h0_22 h0_23 h0_24 h0_25 h0_26 h0_27 h0_28 h0_29 h0_30 s0)) (hS : va_S A s.heap H locs) (ls : Array Slot) (hl : lv_has ls 4 [(0, .ref b), (1, .ref h0), (2, .int (18 : Int32))]) : W p l e room_1 s m #[Value.ref b] below meth c H locs 4926 77801 (lw_Z below #[Value.ref b] s) (F0 m 57 ls [.int x0]) := by
  obtain ⟨hx, hb, hr, hml, hown, hts, hXs, hbl, hlocks, hgv⟩ := id C0
  have hts := fun w h => hts w (wsL_law_in w h)
  have hown : s.vm.findClass RL = some m.cls := hown
  refine lv_istore_n (lv' := [(3, .int x0), (0, .ref b), (1, .ref h0), (2, .int (18 : Int32))]) hx hb dL_law_57 rfl hl (by decide) rfl (fun ls hl => ?_)
  refine lv_aload_n hx hb dL_law_58 rfl (lv_at hl 2 rfl) ?_
  refine lv_iconst (v := (0 : Int32)) hx hb dL_law_59 (by decide) ?_
  refine lv_iload_n hx hb dL_law_60 rfl (lv_at hl 0 rfl) ?_
  refine lv_bipush (v := (6 : Int32)) hx hb dL_law_61 (by decide) ?_
  refine lv_irem hx hb dL_law_63 (by decide) ?_
  refine lv_iload_n hx hb dL_law_64 rfl (lv_at hl 0 rfl) ?_
  refine lv_bipush (v := (6 : Int32)) hx hb dL_law_65 (by decide) ?_
  refine lv_idiv hx hb dL_law_67 (by decide) ?_
  refine lv_iconst (v := (4 : Int32)) hx hb dL_law_68 (by decide) ?_
  refine lv_irem hx hb dL_law_69 (by decide) ?_
  refine lv_iload_n hx hb dL_law_70 rfl (lv_at hl 0 rfl) ?_
  refine lv_bipush (v := (24 : Int32)) hx hb dL_law_71 (by decide) ?_
  refine lv_idiv hx hb dL_law_73 (by decide) ?_
  refine lv_bipush (v := (7 : Int32)) hx hb dL_law_74 (by decide) ?_
  refine lv_irem hx hb dL_law_76 (by decide) ?_
  have hFc := frw hD hS hA
  refine vx_calli (SX := Unit) (px := fun _ => False) (BX := fun _ _ _ => True) (AX := A) (vx_runSX0 (vx_runSX (As := [.ref h0, .int (0 : Int32), .int (x0 - x0 / (6 : Int32) * (6 : Int32)), .int ((x0 / (6 : Int32)) - (x0 / (6 : Int32)) / (4 : Int32) * (4 : Int32)), .int ((x0 / (24 : Int32)) - (x0 / (24 : Int32)) / (7 : Int32) * (7 : Int32))]) (rest := []) ⟨hx, hb, hml, hown, hts⟩ (c_L_act l hst dC dI cI h0 h0_1 h0_2 h0_3 h0_4 h0_5 h0_6 h0_7 h0_8 h0_9 h0_10 h0_11 h0_12 h0_13 h0_14 h0_15 h0_16 h0_17 h0_18 h0_19 h0_20 h0_21 h0_22 h0_23 h0_24 h0_25 h0_26 h0_27 h0_28 h0_29 h0_30 _ s0 (0 : Int32) (x0 - x0 / (6 : Int32) * (6 : Int32)) ((x0 / (6 : Int32)) - (x0 / (6 : Int32)) / (4 : Int32) * (4 : Int32)) ((x0 / (24 : Int32)) - (x0 / (24 : Int32)) / (7 : Int32) * (7 : Int32)) _ h) (vx_cwSW 5 hts gB_L_act rfl rfl rfl (by decide +kernel) ⟨Nat.le_of_ble_eq_true rfl, Nat.le_of_ble_eq_true rfl⟩) (pbl_S hP hK hD hN hX hC hFc hS) rfl rfl hl.1 rfl (lv_room (Nat.le_of_ble_eq_true rfl)) dL_law_77 ⟨Nat.le_of_ble_eq_true rfl, Nat.le_of_ble_eq_true rfl⟩)) hS (fun q _ h => hFc q h) hFc (fun q _ h => h) (fun E9 ce9 q9 u t H locs ht hvm h hB hz1 hk1 hS hce hcv hcl => h.elim) (fun r_384 u_383 t H locs ht hvm h hB hz1 hk1 hS => ?_)
  obtain ⟨m_385, m_386, m_387, m_388, hP1, hD1⟩ := hB
  rw [ht] at hP1
  have hP : va_P (dC, dI) vwCl (lwO cI h0 h0_1 h0_2 h0_3 h0_4 h0_5 h0_6 h0_7 h0_8 h0_9 h0_10 h0_11 h0_12 h0_13 h0_14 h0_15 h0_16 h0_17 h0_18 h0_19 h0_20 h0_21 h0_22 m_385 m_386 h0_25 h0_26 m_387 m_388 h0_29 h0_30 u_383) H := hP1
  have hD : va_D A (lwO cI h0 h0_1 h0_2 h0_3 h0_4 h0_5 h0_6 h0_7 h0_8 h0_9 h0_10 h0_11 h0_12 h0_13 h0_14 h0_15 h0_16 h0_17 h0_18 h0_19 h0_20 h0_21 h0_22 m_385 m_386 h0_25 h0_26 m_387 m_388 h0_29 h0_30 u_383) := hD1.weaken (fun _ _ _ h => hFc _ h)
  refine W.widen (k := 4928) (n := 77813) (Nat.le_of_ble_eq_true rfl) (Nat.le_of_ble_eq_true rfl) ?_
  obtain ⟨ht_, hf_⟩ := h
  refine lv_if_lt (tgt := 139) hx hb dL_law_80 (by decide) (fun c_389 => ?_) (fun c_389 => ?_)
  · have h := ht_ c_389
    exact (show False from h).elim
  · have h := hf_ c_389
    refine lv_iload_n hx hb dL_law_83 rfl (lv_at hl 3 rfl) ?_
    refine lv_iconst (v := (4 : Int32)) hx hb dL_law_84 (by decide) ?_
    refine lv_icmp_ge (tgt := 132) hx hb dL_law_85 (by decide) (fun c_390 => ?_) (fun c_390 => absurd c_390 (by decide))
    refine lv_aload_n hx hb dL_law_132 rfl (lv_at hl 2 rfl) ?_
    have hFc := frw hD hS hA
    refine va_calli (va_runS (As := [.ref h0]) (rest := []) ⟨hx, hb, hml, hown, hts⟩ (c_L_refuses l hst dC dI cI h0 h0_1 h0_2 h0_3 h0_4 h0_5 h0_6 h0_7 h0_8 h0_9 h0_10 h0_11 h0_12 h0_13 h0_14 h0_15 h0_16 h0_17 h0_18 h0_19 h0_20 h0_21 h0_22 m_385 m_386 h0_25 h0_26 m_387 m_388 h0_29 h0_30 _ u_383 _ h) (va_cwS 1 hts gB_L_refuses rfl rfl rfl (by decide +kernel) ⟨Nat.le_of_ble_eq_true rfl, Nat.le_of_ble_eq_true rfl⟩) (pbl_S hP hK hD hN hX hC hFc hS) rfl rfl hl.1 rfl (lv_room (Nat.le_of_ble_eq_true rfl)) dL_law_133 ⟨Nat.le_of_ble_eq_true rfl, Nat.le_of_ble_eq_true rfl⟩) hS (fun q _ h => hFc q h) hFc (fun r_392 u_391 t H locs ht hvm h hB hz1 hk1 hS => ?_)
    obtain ⟨m_393, m_394, m_395, m_396, hP1, hD1⟩ := hB
    rw [ht] at hP1
    have hP : va_P (dC, dI) vwCl (lwO cI h0 h0_1 h0_2 h0_3 h0_4 h0_5 h0_6 h0_7 h0_8 h0_9 h0_10 h0_11 h0_12 h0_13 h0_14 h0_15 h0_16 h0_17 h0_18 h0_19 h0_20 h0_21 h0_22 m_393 m_394 h0_25 h0_26 m_395 m_396 h0_29 h0_30 u_391) H := hP1
    have hD : va_D A (lwO cI h0 h0_1 h0_2 h0_3 h0_4 h0_5 h0_6 h0_7 h0_8 h0_9 h0_10 h0_11 h0_12 h0_13 h0_14 h0_15 h0_16 h0_17 h0_18 h0_19 h0_20 h0_21 h0_22 m_393 m_394 h0_25 h0_26 m_395 m_396 h0_29 h0_30 u_391) := hD1.weaken (fun _ _ _ h => hFc _ h)
    refine W.widen (k := 5120) (n := 78965) (Nat.le_of_ble_eq_true rfl) (Nat.le_of_ble_eq_true rfl) ?_
    obtain ⟨ht_, hf_⟩ := h
    refine lv_if_ne (tgt := 141) hx hb dL_law_136 (by decide) (fun c_397 => ?_) (fun c_397 => ?_)
    · have h := ht_ c_397
      refine lv_iinc (v := (19 : Int32)) (lv' := [(2, .int (19 : Int32)), (3, .int x0), (0, .ref b), (1, .ref h0)]) hx hb dL_law_141 hl (k := 3) rfl (by decide) (by decide) rfl (fun ls hl => ?_)
      refine lv_goto (tgt := 30) hx hb dL_law_144 (by decide) ?_
      refine lv_iload_n hx hb dL_law_30 rfl (lv_at hl 0 rfl) ?_
      refine lv_bipush (v := (24 : Int32)) hx hb dL_law_31 (by decide) ?_
      refine lv_icmp_ge (tgt := 147) hx hb dL_law_33 (by decide) (fun c_398 => absurd c_398 (by decide)) (fun c_398 => ?_)
      refine lv_aload_n hx hb dL_law_36 rfl (lv_at hl 2 rfl) ?_
      refine va_slen hx hb hXs hbl hbA hS dL_law_37 ?_
      obtain ⟨ht_, hf_⟩ := h
      refine lv_if_ne (tgt := 48) hx hb dL_law_38 (by decide) (fun c_399 => ?_) (fun c_399 => ?_)
      · have h := ht_ c_399
        have hL0 : ¬ Int32.ofNat L = 0 := c_399
        refine lv_aload_n hx hb dL_law_48 rfl (lv_at hl 2 rfl) ?_
        refine lv_iload_n hx hb dL_law_49 rfl (lv_at hl 0 rfl) ?_
        refine lv_aload_n hx hb dL_law_50 rfl (lv_at hl 2 rfl) ?_
        refine va_slen hx hb hXs hbl hbA hS dL_law_51 ?_
        refine lv_irem hx hb dL_law_52 hL0 ?_
        obtain ⟨hin, h⟩ := h
        refine va_sld hx hb hXs hbl hbA hS hin dL_law_53 ?_
        refine lv_bipush (v := (8 : Int32)) hx hb dL_law_54 (by decide) ?_
        refine lv_iushr (v := (jiushr (xs (((19 : Int32) - (19 : Int32) / (Int32.ofNat L) * (Int32.ofNat L))).toNatClampNeg) (8 : Int32))) hx hb dL_law_56 rfl ?_
        have hl : lv_has ls 4 [(0, .ref b), (1, .ref h0), (2, .int (19 : Int32))] := lv_sub hl [2, 3, 0] rfl
        refine W.widen (k := 5120) (n := 78965) (Nat.le_of_ble_eq_true rfl) (Nat.le_of_ble_eq_true rfl) ?_
        exact sg_L_law_20 l hst C0 hK hN hX hC hA hbA hAi h0 h0_1 h0_2 h0_3 h0_4 h0_5 h0_6 h0_7 h0_8 h0_9 h0_10 h0_11 h0_12 h0_13 h0_14 h0_15 h0_16 h0_17 h0_18 h0_19 h0_20 h0_21 h0_22 h0_25 h0_26 h0_29 h0_30 u_391 (jiushr (xs (((19 : Int32) - (19 : Int32) / (Int32.ofNat L) * (Int32.ofNat L))).toNatClampNeg) (8 : Int32)) h m_393 m_394 m_395 m_396 _ _ hP hD hS _ hl
      · have h := hf_ c_399
        refine lv_bipush (v := (31 : Int32)) hx hb dL_law_41 (by decide) ?_
        refine lv_iload_n hx hb dL_law_43 rfl (lv_at hl 0 rfl) ?_
        refine lv_imul hx hb dL_law_44 ?_
        refine lv_lit (b := (589 : Int32)) (by decide) ?_
        refine lv_goto (tgt := 57) hx hb dL_law_45 (by decide) ?_
        have hl : lv_has ls 4 [(0, .ref b), (1, .ref h0), (2, .int (19 : Int32))] := lv_sub hl [2, 3, 0] rfl
        refine W.widen (k := 5120) (n := 78965) (Nat.le_of_ble_eq_true rfl) (Nat.le_of_ble_eq_true rfl) ?_
        exact sg_L_law_20 l hst C0 hK hN hX hC hA hbA hAi h0 h0_1 h0_2 h0_3 h0_4 h0_5 h0_6 h0_7 h0_8 h0_9 h0_10 h0_11 h0_12 h0_13 h0_14 h0_15 h0_16 h0_17 h0_18 h0_19 h0_20 h0_21 h0_22 h0_25 h0_26 h0_29 h0_30 u_391 (589 : Int32) h m_393 m_394 m_395 m_396 _ _ hP hD hS _ hl
    · have h := hf_ c_397
      exact (show False from h).elim
