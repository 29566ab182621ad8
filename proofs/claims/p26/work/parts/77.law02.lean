set_option maxHeartbeats 4000000 in
set_option maxRecDepth 100000 in
theorem sg_L_law_18 (l : Launch) (hst : l.stackTraces = false) {p : Program} {e : Env} {s : State} {m : MethodId} {below : List Frame} {meth : Method} {c : Code} {b L : Nat} {xs : Nat → Int32} (C0 : lw_At p s m meth c b L xs) {dC : Nat → ClassId} {dI : Nat → Nat → Nat} {cI : ClassId} (hK : va_K (dC, dI) vwCl [(cI, .int)] s) (hN : nk s) {A : Nat → Prop} (hX : xj A s) (hC : xnc s) (hA : ∀ q : Nat, s.heap.size ≤ q → A q) (hbA : ¬ A b) (hAi : ∀ q : Nat, A q → s.heap.size ≤ q) (h0 h0_1 h0_2 h0_3 h0_4 h0_5 h0_6 h0_7 h0_8 h0_9 h0_10 h0_11 h0_12 h0_13 h0_14 h0_15 h0_16 h0_17 h0_18 h0_19 h0_20 h0_21 h0_22 h0_25 h0_26 h0_29 h0_30 : Nat) (s0 : TriS) (x0 : Int32) (h : P_L_law_18 s0 x0 L xs) (h0_23 h0_24 h0_27 h0_28 : Nat) (H : Heap) (locs : List Loc) (hP : va_P (dC, dI) vwCl (lwO cI h0 h0_1 h0_2 h0_3 h0_4 h0_5 h0_6 h0_7 h0_8 h0_9 h0_10 h0_11 h0_12 h0_13 h0_14 h0_15 h0_16 h0_17 h0_18 h0_19 h0_20 h0_21 h0_22 h0_23 h0_24 h0_25 h0_26 h0_27 h0_28 h0_29 h0_30 s0) H) (hD : va_D A (lwO cI h0 h0_1 h0_2 h0_3 h0_4 h0_5 h0_6 h0_7 h0_8 h0_9 h0_10 h0_11 h0_12 h0_13 h0_14 h0_15 h0_16 h0_17 h0_18 h0_19 h0_20 h0_21 h0_22 h0_23 h0_24 h0_25 h0_26 h0_27 h0_28 h0_29 h0_30 s0)) (hS : va_S A s.heap H locs) (ls : Array Slot) (hl : lv_has ls 4 [(0, .ref b), (1, .ref h0), (2, .int (17 : Int32))]) : W p l e room_1 s m #[Value.ref b] below meth c H locs 4732 76637 (lw_Z below #[Value.ref b] s) (F0 m 57 ls [.int x0]) := by
  obtain ⟨hx, hb, hr, hml, hown, hts, hXs, hbl, hlocks, hgv⟩ := id C0
  have hts := fun w h => hts w (wsL_law_in w h)
  have hown : s.vm.findClass RL = some m.cls := hown
  refine lv_istore_n (lv' := [(3, .int x0), (0, .ref b), (1, .ref h0), (2, .int (17 : Int32))]) hx hb dL_law_57 rfl hl (by decide) rfl (fun ls hl => ?_)
  refine lv_aload_n hx hb dL_law_58 rfl (lv_at hl 2 rfl) ?_
  refine lv_iconst (v := (0 : Int32)) hx hb dL_law_59 (by decide) ?_
  refine lv_iload_n hx hb dL_law_60 rfl (lv_at hl 0 rfl) ?_
  refine lv_bipush (v := (6 : Int32)) hx hb dL_law_61 (by decide) ?_
  refine lv_irem hx hb dL_law_63 (by decide) ?_
  refine lv_iload_n hx hb dL_law_64 rfl (lv_at hl 0 rfl) ?_
  refine lv_bipush (v := (6 : Int32)) hx hb dL_law_65 (by decide) ?_
  refine lv_idiv hx hb dL_law_67 (by decide) ?_
  refine lv_iconst (v := (4 : Int32)) hx hb dL_law_68 (by decide) ?_
  refine lv_irem hx hb dL_law_69 (by decide) ?_
  refine lv_iload_n hx hb dL_law_70 rfl (lv_at hl 0 rfl) ?_
  refine lv_bipush (v := (24 : Int32)) hx hb dL_law_71 (by decide) ?_
  refine lv_idiv hx hb dL_law_73 (by decide) ?_
  refine lv_bipush (v := (7 : Int32)) hx hb dL_law_74 (by decide) ?_
  refine lv_irem hx hb dL_law_76 (by decide) ?_
  have hFc := frw hD hS hA
  refine vx_calli (SX := Unit) (px := fun _ => False) (BX := fun _ _ _ => True) (AX := A) (vx_runSX0 (vx_runSX (As := [.ref h0, .int (0 : Int32), .int (x0 - x0 / (6 : Int32) * (6 : Int32)), .int ((x0 / (6 : Int32)) - (x0 / (6 : Int32)) / (4 : Int32) * (4 : Int32)), .int ((x0 / (24 : Int32)) - (x0 / (24 : Int32)) / (7 : Int32) * (7 : Int32))]) (rest := []) ⟨hx, hb, hml, hown, hts⟩ (c_L_act l hst dC dI cI h0 h0_1 h0_2 h0_3 h0_4 h0_5 h0_6 h0_7 h0_8 h0_9 h0_10 h0_11 h0_12 h0_13 h0_14 h0_15 h0_16 h0_17 h0_18 h0_19 h0_20 h0_21 h0_22 h0_23 h0_24 h0_25 h0_26 h0_27 h0_28 h0_29 h0_30 _ s0 (0 : Int32) (x0 - x0 / (6 : Int32) * (6 : Int32)) ((x0 / (6 : Int32)) - (x0 / (6 : Int32)) / (4 : Int32) * (4 : Int32)) ((x0 / (24 : Int32)) - (x0 / (24 : Int32)) / (7 : Int32) * (7 : Int32)) _ h) (vx_cwSW 5 hts gB_L_act rfl rfl rfl (by decide +kernel) ⟨Nat.le_of_ble_eq_true rfl, Nat.le_of_ble_eq_true rfl⟩) (pbl_S hP hK hD hN hX hC hFc hS) rfl rfl hl.1 rfl (lv_room (Nat.le_of_ble_eq_true rfl)) dL_law_77 ⟨Nat.le_of_ble_eq_true rfl, Nat.le_of_ble_eq_true rfl⟩)) hS (fun q _ h => hFc q h) hFc (fun q _ h => h) (fun E9 ce9 q9 u t H locs ht hvm h hB hz1 hk1 hS hce hcv hcl => h.elim) (fun r_367 u_366 t H locs ht hvm h hB hz1 hk1 hS => ?_)
  obtain ⟨m_368, m_369, m_370, m_371, hP1, hD1⟩ := hB
  rw [ht] at hP1
  have hP : va_P (dC, dI) vwCl (lwO cI h0 h0_1 h0_2 h0_3 h0_4 h0_5 h0_6 h0_7 h0_8 h0_9 h0_10 h0_11 h0_12 h0_13 h0_14 h0_15 h0_16 h0_17 h0_18 h0_19 h0_20 h0_21 h0_22 m_368 m_369 h0_25 h0_26 m_370 m_371 h0_29 h0_30 u_366) H := hP1
  have hD : va_D A (lwO cI h0 h0_1 h0_2 h0_3 h0_4 h0_5 h0_6 h0_7 h0_8 h0_9 h0_10 h0_11 h0_12 h0_13 h0_14 h0_15 h0_16 h0_17 h0_18 h0_19 h0_20 h0_21 h0_22 m_368 m_369 h0_25 h0_26 m_370 m_371 h0_29 h0_30 u_366) := hD1.weaken (fun _ _ _ h => hFc _ h)
  refine W.widen (k := 4734) (n := 76649) (Nat.le_of_ble_eq_true rfl) (Nat.le_of_ble_eq_true rfl) ?_
  obtain ⟨ht_, hf_⟩ := h
  refine lv_if_lt (tgt := 139) hx hb dL_law_80 (by decide) (fun c_372 => ?_) (fun c_372 => ?_)
  · have h := ht_ c_372
    exact (show False from h).elim
  · have h := hf_ c_372
    refine lv_iload_n hx hb dL_law_83 rfl (lv_at hl 3 rfl) ?_
    refine lv_iconst (v := (4 : Int32)) hx hb dL_law_84 (by decide) ?_
    refine lv_icmp_ge (tgt := 132) hx hb dL_law_85 (by decide) (fun c_373 => ?_) (fun c_373 => absurd c_373 (by decide))
    refine lv_aload_n hx hb dL_law_132 rfl (lv_at hl 2 rfl) ?_
    have hFc := frw hD hS hA
    refine va_calli (va_runS (As := [.ref h0]) (rest := []) ⟨hx, hb, hml, hown, hts⟩ (c_L_refuses l hst dC dI cI h0 h0_1 h0_2 h0_3 h0_4 h0_5 h0_6 h0_7 h0_8 h0_9 h0_10 h0_11 h0_12 h0_13 h0_14 h0_15 h0_16 h0_17 h0_18 h0_19 h0_20 h0_21 h0_22 m_368 m_369 h0_25 h0_26 m_370 m_371 h0_29 h0_30 _ u_366 _ h) (va_cwS 1 hts gB_L_refuses rfl rfl rfl (by decide +kernel) ⟨Nat.le_of_ble_eq_true rfl, Nat.le_of_ble_eq_true rfl⟩) (pbl_S hP hK hD hN hX hC hFc hS) rfl rfl hl.1 rfl (lv_room (Nat.le_of_ble_eq_true rfl)) dL_law_133 ⟨Nat.le_of_ble_eq_true rfl, Nat.le_of_ble_eq_true rfl⟩) hS (fun q _ h => hFc q h) hFc (fun r_375 u_374 t H locs ht hvm h hB hz1 hk1 hS => ?_)
    obtain ⟨m_376, m_377, m_378, m_379, hP1, hD1⟩ := hB
    rw [ht] at hP1
    have hP : va_P (dC, dI) vwCl (lwO cI h0 h0_1 h0_2 h0_3 h0_4 h0_5 h0_6 h0_7 h0_8 h0_9 h0_10 h0_11 h0_12 h0_13 h0_14 h0_15 h0_16 h0_17 h0_18 h0_19 h0_20 h0_21 h0_22 m_376 m_377 h0_25 h0_26 m_378 m_379 h0_29 h0_30 u_374) H := hP1
    have hD : va_D A (lwO cI h0 h0_1 h0_2 h0_3 h0_4 h0_5 h0_6 h0_7 h0_8 h0_9 h0_10 h0_11 h0_12 h0_13 h0_14 h0_15 h0_16 h0_17 h0_18 h0_19 h0_20 h0_21 h0_22 m_376 m_377 h0_25 h0_26 m_378 m_379 h0_29 h0_30 u_374) := hD1.weaken (fun _ _ _ h => hFc _ h)
    refine W.widen (k := 4926) (n := 77801) (Nat.le_of_ble_eq_true rfl) (Nat.le_of_ble_eq_true rfl) ?_
    obtain ⟨ht_, hf_⟩ := h
    refine lv_if_ne (tgt := 141) hx hb dL_law_136 (by decide) (fun c_380 => ?_) (fun c_380 => ?_)
    · have h := ht_ c_380
      refine lv_iinc (v := (18 : Int32)) (lv' := [(2, .int (18 : Int32)), (3, .int x0), (0, .ref b), (1, .ref h0)]) hx hb dL_law_141 hl (k := 3) rfl (by decide) (by decide) rfl (fun ls hl => ?_)
      refine lv_goto (tgt := 30) hx hb dL_law_144 (by decide) ?_
      refine lv_iload_n hx hb dL_law_30 rfl (lv_at hl 0 rfl) ?_
      refine lv_bipush (v := (24 : Int32)) hx hb dL_law_31 (by decide) ?_
      refine lv_icmp_ge (tgt := 147) hx hb dL_law_33 (by decide) (fun c_381 => absurd c_381 (by decide)) (fun c_381 => ?_)
      refine lv_aload_n hx hb dL_law_36 rfl (lv_at hl 2 rfl) ?_
      refine va_slen hx hb hXs hbl hbA hS dL_law_37 ?_
      obtain ⟨ht_, hf_⟩ := h
      refine lv_if_ne (tgt := 48) hx hb dL_law_38 (by decide) (fun c_382 => ?_) (fun c_382 => ?_)
      · have h := ht_ c_382
        have hL0 : ¬ Int32.ofNat L = 0 := c_382
        refine lv_aload_n hx hb dL_law_48 rfl (lv_at hl 2 rfl) ?_
        refine lv_iload_n hx hb dL_law_49 rfl (lv_at hl 0 rfl) ?_
        refine lv_aload_n hx hb dL_law_50 rfl (lv_at hl 2 rfl) ?_
        refine va_slen hx hb hXs hbl hbA hS dL_law_51 ?_
        refine lv_irem hx hb dL_law_52 hL0 ?_
        obtain ⟨hin, h⟩ := h
        refine va_sld hx hb hXs hbl hbA hS hin dL_law_53 ?_
        refine lv_bipush (v := (8 : Int32)) hx hb dL_law_54 (by decide) ?_
        refine lv_iushr (v := (jiushr (xs (((18 : Int32) - (18 : Int32) / (Int32.ofNat L) * (Int32.ofNat L))).toNatClampNeg) (8 : Int32))) hx hb dL_law_56 rfl ?_
        have hl : lv_has ls 4 [(0, .ref b), (1, .ref h0), (2, .int (18 : Int32))] := lv_sub hl [2, 3, 0] rfl
        refine W.widen (k := 4926) (n := 77801) (Nat.le_of_ble_eq_true rfl) (Nat.le_of_ble_eq_true rfl) ?_
        exact sg_L_law_19 l hst C0 hK hN hX hC hA hbA hAi h0 h0_1 h0_2 h0_3 h0_4 h0_5 h0_6 h0_7 h0_8 h0_9 h0_10 h0_11 h0_12 h0_13 h0_14 h0_15 h0_16 h0_17 h0_18 h0_19 h0_20 h0_21 h0_22 h0_25 h0_26 h0_29 h0_30 u_374 (jiushr (xs (((18 : Int32) - (18 : Int32) / (Int32.ofNat L) * (Int32.ofNat L))).toNatClampNeg) (8 : Int32)) h m_376 m_377 m_378 m_379 _ _ hP hD hS _ hl
      · have h := hf_ c_382
        refine lv_bipush (v := (31 : Int32)) hx hb dL_law_41 (by decide) ?_
        refine lv_iload_n hx hb dL_law_43 rfl (lv_at hl 0 rfl) ?_
        refine lv_imul hx hb dL_law_44 ?_
        refine lv_lit (b := (558 : Int32)) (by decide) ?_
        refine lv_goto (tgt := 57) hx hb dL_law_45 (by decide) ?_
        have hl : lv_has ls 4 [(0, .ref b), (1, .ref h0), (2, .int (18 : Int32))] := lv_sub hl [2, 3, 0] rfl
        refine W.widen (k := 4926) (n := 77801) (Nat.le_of_ble_eq_true rfl) (Nat.le_of_ble_eq_true rfl) ?_
        exact sg_L_law_19 l hst C0 hK hN hX hC hA hbA hAi h0 h0_1 h0_2 h0_3 h0_4 h0_5 h0_6 h0_7 h0_8 h0_9 h0_10 h0_11 h0_12 h0_13 h0_14 h0_15 h0_16 h0_17 h0_18 h0_19 h0_20 h0_21 h0_22 h0_25 h0_26 h0_29 h0_30 u_374 (558 : Int32) h m_376 m_377 m_378 m_379 _ _ hP hD hS _ hl
    · have h := hf_ c_380
      exact (show False from h).elim
set_option maxHeartbeats 4000000 in
set_option maxRecDepth 100000 in
theorem sg_L_law_17 (l : Launch) (hst : l.stackTraces = false) {p : Program} {e : Env} {s : State} {m : MethodId} {below : List Frame} {meth : Method} {c : Code} {b L : Nat} {xs : Nat → Int32} (C0 : lw_At p s m meth c b L xs) {dC : Nat → ClassId} {dI : Nat → Nat → Nat} {cI : ClassId} (hK : va_K (dC, dI) vwCl [(cI, .int)] s) (hN : nk s) {A : Nat → Prop} (hX : xj A s) (hC : xnc s) (hA : ∀ q : Nat, s.heap.size ≤ q → A q) (hbA : ¬ A b) (hAi : ∀ q : Nat, A q → s.heap.size ≤ q) (h0 h0_1 h0_2 h0_3 h0_4 h0_5 h0_6 h0_7 h0_8 h0_9 h0_10 h0_11 h0_12 h0_13 h0_14 h0_15 h0_16 h0_17 h0_18 h0_19 h0_20 h0_21 h0_22 h0_25 h0_26 h0_29 h0_30 : Nat) (s0 : TriS) (x0 : Int32) (h : P_L_law_17 s0 x0 L xs) (h0_23 h0_24 h0_27 h0_28 : Nat) (H : Heap) (locs : List Loc) (hP : va_P (dC, dI) vwCl (lwO cI h0 h0_1 h0_2 h0_3 h0_4 h0_5 h0_6 h0_7 h0_8 h0_9 h0_10 h0_11 h0_12 h0_13 h0_14 h0_15 h0_16 h0_17 h0_18 h0_19 h0_20 h0_21 h0_22 h0_23 h0_24 h0_25 h0_26 h0_27 h0_28 h0_29 h0_30 s0) H) (hD : va_D A (lwO cI h0 h0_1 h0_2 h0_3 h0_4 h0_5 h0_6 h0_7 h0_8 h0_9 h0_10 h0_11 h0_12 h0_13 h0_14 h0_15 h0_16 h0_17 h0_18 h0_19 h0_20 h0_21 h0_22 h0_23 h0_24 h0_25 h0_26 h0_27 h0_28 h0_29 h0_30 s0)) (hS : va_S A s.heap H locs) (ls : Array Slot) (hl : lv_has ls 4 [(0, .ref b), (1, .ref h0), (2, .int (16 : Int32))]) : W p l e room_1 s m #[Value.ref b] below meth c H locs 4538 75473 (lw_Z below #[Value.ref b] s) (F0 m 57 ls [.int x0]) := by
  obtain ⟨hx, hb, hr, hml, hown, hts, hXs, hbl, hlocks, hgv⟩ := id C0
  have hts := fun w h => hts w (wsL_law_in w h)
  have hown : s.vm.findClass RL = some m.cls := hown
  refine lv_istore_n (lv' := [(3, .int x0), (0, .ref b), (1, .ref h0), (2, .int (16 : Int32))]) hx hb dL_law_57 rfl hl (by decide) rfl (fun ls hl => ?_)
  refine lv_aload_n hx hb dL_law_58 rfl (lv_at hl 2 rfl) ?_
  refine lv_iconst (v := (0 : Int32)) hx hb dL_law_59 (by decide) ?_
  refine lv_iload_n hx hb dL_law_60 rfl (lv_at hl 0 rfl) ?_
  refine lv_bipush (v := (6 : Int32)) hx hb dL_law_61 (by decide) ?_
  refine lv_irem hx hb dL_law_63 (by decide) ?_
  refine lv_iload_n hx hb dL_law_64 rfl (lv_at hl 0 rfl) ?_
  refine lv_bipush (v := (6 : Int32)) hx hb dL_law_65 (by decide) ?_
  refine lv_idiv hx hb dL_law_67 (by decide) ?_
  refine lv_iconst (v := (4 : Int32)) hx hb dL_law_68 (by decide) ?_
  refine lv_irem hx hb dL_law_69 (by decide) ?_
  refine lv_iload_n hx hb dL_law_70 rfl (lv_at hl 0 rfl) ?_
  refine lv_bipush (v := (24 : Int32)) hx hb dL_law_71 (by decide) ?_
  refine lv_idiv hx hb dL_law_73 (by decide) ?_
  refine lv_bipush (v := (7 : Int32)) hx hb dL_law_74 (by decide) ?_
  refine lv_irem hx hb dL_law_76 (by decide) ?_
  have hFc := frw hD hS hA
  refine vx_calli (SX := Unit) (px := fun _ => False) (BX := fun _ _ _ => True) (AX := A) (vx_runSX0 (vx_runSX (As := [.ref h0, .int (0 : Int32), .int (x0 - x0 / (6 : Int32) * (6 : Int32)), .int ((x0 / (6 : Int32)) - (x0 / (6 : Int32)) / (4 : Int32) * (4 : Int32)), .int ((x0 / (24 : Int32)) - (x0 / (24 : Int32)) / (7 : Int32) * (7 : Int32))]) (rest := []) ⟨hx, hb, hml, hown, hts⟩ (c_L_act l hst dC dI cI h0 h0_1 h0_2 h0_3 h0_4 h0_5 h0_6 h0_7 h0_8 h0_9 h0_10 h0_11 h0_12 h0_13 h0_14 h0_15 h0_16 h0_17 h0_18 h0_19 h0_20 h0_21 h0_22 h0_23 h0_24 h0_25 h0_26 h0_27 h0_28 h0_29 h0_30 _ s0 (0 : Int32) (x0 - x0 / (6 : Int32) * (6 : Int32)) ((x0 / (6 : Int32)) - (x0 / (6 : Int32)) / (4 : Int32) * (4 : Int32)) ((x0 / (24 : Int32)) - (x0 / (24 : Int32)) / (7 : Int32) * (7 : Int32)) _ h) (vx_cwSW 5 hts gB_L_act rfl rfl rfl (by decide +kernel) ⟨Nat.le_of_ble_eq_true rfl, Nat.le_of_ble_eq_true rfl⟩) (pbl_S hP hK hD hN hX hC hFc hS) rfl rfl hl.1 rfl (lv_room (Nat.le_of_ble_eq_true rfl)) dL_law_77 ⟨Nat.le_of_ble_eq_true rfl, Nat.le_of_ble_eq_true rfl⟩)) hS (fun q _ h => hFc q h) hFc (fun q _ h => h) (fun E9 ce9 q9 u t H locs ht hvm h hB hz1 hk1 hS hce hcv hcl => h.elim) (fun r_350 u_349 t H locs ht hvm h hB hz1 hk1 hS => ?_)
  obtain ⟨m_351, m_352, m_353, m_354, hP1, hD1⟩ := hB
  rw [ht] at hP1
  have hP : va_P (dC, dI) vwCl (lwO cI h0 h0_1 h0_2 h0_3 h0_4 h0_5 h0_6 h0_7 h0_8 h0_9 h0_10 h0_11 h0_12 h0_13 h0_14 h0_15 h0_16 h0_17 h0_18 h0_19 h0_20 h0_21 h0_22 m_351 m_352 h0_25 h0_26 m_353 m_354 h0_29 h0_30 u_349) H := hP1
  have hD : va_D A (lwO cI h0 h0_1 h0_2 h0_3 h0_4 h0_5 h0_6 h0_7 h0_8 h0_9 h0_10 h0_11 h0_12 h0_13 h0_14 h0_15 h0_16 h0_17 h0_18 h0_19 h0_20 h0_21 h0_22 m_351 m_352 h0_25 h0_26 m_353 m_354 h0_29 h0_30 u_349) := hD1.weaken (fun _ _ _ h => hFc _ h)
  refine W.widen (k := 4540) (n := 75485) (Nat.le_of_ble_eq_true rfl) (Nat.le_of_ble_eq_true rfl) ?_
  obtain ⟨ht_, hf_⟩ := h
  refine lv_if_lt (tgt := 139) hx hb dL_law_80 (by decide) (fun c_355 => ?_) (fun c_355 => ?_)
  · have h := ht_ c_355
    exact (show False from h).elim
  · have h := hf_ c_355
    refine lv_iload_n hx hb dL_law_83 rfl (lv_at hl 3 rfl) ?_
    refine lv_iconst (v := (4 : Int32)) hx hb dL_law_84 (by decide) ?_
    refine lv_icmp_ge (tgt := 132) hx hb dL_law_85 (by decide) (fun c_356 => ?_) (fun c_356 => absurd c_356 (by decide))
    refine lv_aload_n hx hb dL_law_132 rfl (lv_at hl 2 rfl) ?_
    have hFc := frw hD hS hA
    refine va_calli (va_runS (As := [.ref h0]) (rest := []) ⟨hx, hb, hml, hown, hts⟩ (c_L_refuses l hst dC dI cI h0 h0_1 h0_2 h0_3 h0_4 h0_5 h0_6 h0_7 h0_8 h0_9 h0_10 h0_11 h0_12 h0_13 h0_14 h0_15 h0_16 h0_17 h0_18 h0_19 h0_20 h0_21 h0_22 m_351 m_352 h0_25 h0_26 m_353 m_354 h0_29 h0_30 _ u_349 _ h) (va_cwS 1 hts gB_L_refuses rfl rfl rfl (by decide +kernel) ⟨Nat.le_of_ble_eq_true rfl, Nat.le_of_ble_eq_true rfl⟩) (pbl_S hP hK hD hN hX hC hFc hS) rfl rfl hl.1 rfl (lv_room (Nat.le_of_ble_eq_true rfl)) dL_law_133 ⟨Nat.le_of_ble_eq_true rfl, Nat.le_of_ble_eq_true rfl⟩) hS (fun q _ h => hFc q h) hFc (fun r_358 u_357 t H locs ht hvm h hB hz1 hk1 hS => ?_)
    obtain ⟨m_359, m_360, m_361, m_362, hP1, hD1⟩ := hB
    rw [ht] at hP1
    have hP : va_P (dC, dI) vwCl (lwO cI h0 h0_1 h0_2 h0_3 h0_4 h0_5 h0_6 h0_7 h0_8 h0_9 h0_10 h0_11 h0_12 h0_13 h0_14 h0_15 h0_16 h0_17 h0_18 h0_19 h0_20 h0_21 h0_22 m_359 m_360 h0_25 h0_26 m_361 m_362 h0_29 h0_30 u_357) H := hP1
    have hD : va_D A (lwO cI h0 h0_1 h0_2 h0_3 h0_4 h0_5 h0_6 h0_7 h0_8 h0_9 h0_10 h0_11 h0_12 h0_13 h0_14 h0_15 h0_16 h0_17 h0_18 h0_19 h0_20 h0_21 h0_22 m_359 m_360 h0_25 h0_26 m_361 m_362 h0_29 h0_30 u_357) := hD1.weaken (fun _ _ _ h => hFc _ h)
    refine W.widen (k := 4732) (n := 76637) (Nat.le_of_ble_eq_true rfl) (Nat.le_of_ble_eq_true rfl) ?_
    obtain ⟨ht_, hf_⟩ := h
    refine lv_if_ne (tgt := 141) hx hb dL_law_136 (by decide) (fun c_363 => ?_) (fun c_363 => ?_)
    · have h := ht_ c_363
      refine lv_iinc (v := (17 : Int32)) (lv' := [(2, .int (17 : Int32)), (3, .int x0), (0, .ref b), (1, .ref h0)]) hx hb dL_law_141 hl (k := 3) rfl (by decide) (by decide) rfl (fun ls hl => ?_)
      refine lv_goto (tgt := 30) hx hb dL_law_144 (by decide) ?_
      refine lv_iload_n hx hb dL_law_30 rfl (lv_at hl 0 rfl) ?_
      refine lv_bipush (v := (24 : Int32)) hx hb dL_law_31 (by decide) ?_
      refine lv_icmp_ge (tgt := 147) hx hb dL_law_33 (by decide) (fun c_364 => absurd c_364 (by decide)) (fun c_364 => ?_)
      refine lv_aload_n hx hb dL_law_36 rfl (lv_at hl 2 rfl) ?_
      refine va_slen hx hb hXs hbl hbA hS dL_law_37 ?_
      obtain ⟨ht_, hf_⟩ := h
      refine lv_if_ne (tgt := 48) hx hb dL_law_38 (by decide) (fun c_365 => ?_) (fun c_365 => ?_)
      · have h := ht_ c_365
        have hL0 : ¬ Int32.ofNat L = 0 := c_365
        refine lv_aload_n hx hb dL_law_48 rfl (lv_at hl 2 rfl) ?_
        refine lv_iload_n hx hb dL_law_49 rfl (lv_at hl 0 rfl) ?_
        refine lv_aload_n hx hb dL_law_50 rfl (lv_at hl 2 rfl) ?_
        refine va_slen hx hb hXs hbl hbA hS dL_law_51 ?_
        refine lv_irem hx hb dL_law_52 hL0 ?_
        obtain ⟨hin, h⟩ := h
        refine va_sld hx hb hXs hbl hbA hS hin dL_law_53 ?_
        refine lv_bipush (v := (8 : Int32)) hx hb dL_law_54 (by decide) ?_
        refine lv_iushr (v := (jiushr (xs (((17 : Int32) - (17 : Int32) / (Int32.ofNat L) * (Int32.ofNat L))).toNatClampNeg) (8 : Int32))) hx hb dL_law_56 rfl ?_
        have hl : lv_has ls 4 [(0, .ref b), (1, .ref h0), (2, .int (17 : Int32))] := lv_sub hl [2, 3, 0] rfl
        refine W.widen (k := 4732) (n := 76637) (Nat.le_of_ble_eq_true rfl) (Nat.le_of_ble_eq_true rfl) ?_
        exact sg_L_law_18 l hst C0 hK hN hX hC hA hbA hAi h0 h0_1 h0_2 h0_3 h0_4 h0_5 h0_6 h0_7 h0_8 h0_9 h0_10 h0_11 h0_12 h0_13 h0_14 h0_15 h0_16 h0_17 h0_18 h0_19 h0_20 h0_21 h0_22 h0_25 h0_26 h0_29 h0_30 u_357 (jiushr (xs (((17 : Int32) - (17 : Int32) / (Int32.ofNat L) * (Int32.ofNat L))).toNatClampNeg) (8 : Int32)) h m_359 m_360 m_361 m_362 _ _ hP hD hS _ hl
      · have h := hf_ c_365
        refine lv_bipush (v := (31 : Int32)) hx hb dL_law_41 (by decide) ?_
        refine lv_iload_n hx hb dL_law_43 rfl (lv_at hl 0 rfl) ?_
        refine lv_imul hx hb dL_law_44 ?_
        refine lv_lit (b := (527 : Int32)) (by decide) ?_
        refine lv_goto (tgt := 57) hx hb dL_law_45 (by decide) ?_
        have hl : lv_has ls 4 [(0, .ref b), (1, .ref h0), (2, .int (17 : Int32))] := lv_sub hl [2, 3, 0] rfl
        refine W.widen (k := 4732) (n := 76637) (Nat.le_of_ble_eq_true rfl) (Nat.le_of_ble_eq_true rfl) ?_
        exact sg_L_law_18 l hst C0 hK hN hX hC hA hbA hAi h0 h0_1 h0_2 h0_3 h0_4 h0_5 h0_6 h0_7 h0_8 h0_9 h0_10 h0_11 h0_12 h0_13 h0_14 h0_15 h0_16 h0_17 h0_18 h0_19 h0_20 h0_21 h0_22 h0_25 h0_26 h0_29 h0_30 u_357 (527 : Int32) h m_359 m_360 m_361 m_362 _ _ hP hD hS _ hl
    · have h := hf_ c_363
      exact (show False from h).elim
set_option maxHeartbeats 4000000 in
set_option maxRecDepth 100000 in
theorem sg_L_law_16 (l : Launch) (hst : l.stackTraces = false) {p : Program} {e : Env} {s : State} {m : MethodId} {below : List Frame} {meth : Method} {c : Code} {b L : Nat} {xs : Nat → Int32} (C0 : lw_At p s m meth c b L xs) {dC : Nat → ClassId} {dI : Nat → Nat → Nat} {cI : ClassId} (hK : va_K (dC, dI) vwCl [(cI, .int)] s) (hN : nk s) {A : Nat → Prop} (hX : xj A s) (hC : xnc s) (hA : ∀ q : Nat, s.heap.size ≤ q → A q) (hbA : ¬ A b) (hAi : ∀ q : Nat, A q → s.heap.size ≤ q) (h0 h0_1 h0_2 h0_3 h0_4 h0_5 h0_6 h0_7 h0_8 h0_9 h0_10 h0_11 h0_12 h0_13 h0_14 h0_15 h0_16 h0_17 h0_18 h0_19 h0_20 h0_21 h0_22 h0_25 h0_26 h0_29 h0_30 : Nat) (s0 : TriS) (x0 : Int32) (h : P_L_law_16 s0 x0 L xs) (h0_23 h0_24 h0_27 h0_28 : Nat) (H : Heap) (locs : List Loc) (hP : va_P (dC, dI) vwCl (lwO cI h0 h0_1 h0_2 h0_3 h0_4 h0_5 h0_6 h0_7 h0_8 h0_9 h0_10 h0_11 h0_12 h0_13 h0_14 h0_15 h0_16 h0_17 h0_18 h0_19 h0_20 h0_21 h0_22 h0_23 h0_24 h0_25 h0_26 h0_27 h0_28 h0_29 h0_30 s0) H) (hD : va_D A (lwO cI h0 h0_1 h0_2 h0_3 h0_4 h0_5 h0_6 h0_7 h0_8 h0_9 h0_10 h0_11 h0_12 h0_13 h0_14 h0_15 h0_16 h0_17 h0_18 h0_19 h0_20 h0_21 h0_22 h0_23 h0_24 h0_25 h0_26 h0_27 h0_28 h0_29 h0_30 s0)) (hS : va_S A s.heap H locs) (ls : Array Slot) (hl : lv_has ls 4 [(0, .ref b), (1, .ref h0), (2, .int (15 : Int32))]) : W p l e room_1 s m #[Value.ref b] below meth c H locs 4344 74309 (lw_Z below #[Value.ref b] s) (F0 m 57 ls [.int x0]) := by
  obtain ⟨hx, hb, hr, hml, hown, hts, hXs, hbl, hlocks, hgv⟩ := id C0
  have hts := fun w h => hts w (wsL_law_in w h)
  have hown : s.vm.findClass RL = some m.cls := hown
  refine lv_istore_n (lv' := [(3, .int x0), (0, .ref b), (1, .ref h0), (2, .int (15 : Int32))]) hx hb dL_law_57 rfl hl (by decide) rfl (fun ls hl => ?_)
  refine lv_aload_n hx hb dL_law_58 rfl (lv_at hl 2 rfl) ?_
  refine lv_iconst (v := (0 : Int32)) hx hb dL_law_59 (by decide) ?_
  refine lv_iload_n hx hb dL_law_60 rfl (lv_at hl 0 rfl) ?_
  refine lv_bipush (v := (6 : Int32)) hx hb dL_law_61 (by decide) ?_
  refine lv_irem hx hb dL_law_63 (by decide) ?_
  refine lv_iload_n hx hb dL_law_64 rfl (lv_at hl 0 rfl) ?_
  refine lv_bipush (v := (6 : Int32)) hx hb dL_law_65 (by decide) ?_
  refine lv_idiv hx hb dL_law_67 (by decide) ?_
  refine lv_iconst (v := (4 : Int32)) hx hb dL_law_68 (by decide) ?_
  refine lv_irem hx hb dL_law_69 (by decide) ?_
  refine lv_iload_n hx hb dL_law_70 rfl (lv_at hl 0 rfl) ?_
  refine lv_bipush (v := (24 : Int32)) hx hb dL_law_71 (by decide) ?_
  refine lv_idiv hx hb dL_law_73 (by decide) ?_
  refine lv_bipush (v := (7 : Int32)) hx hb dL_law_74 (by decide) ?_
  refine lv_irem hx hb dL_law_76 (by decide) ?_
  have hFc := frw hD hS hA
  refine vx_calli (SX := Unit) (px := fun _ => False) (BX := fun _ _ _ => True) (AX := A) (vx_runSX0 (vx_runSX (As := [.ref h0, .int (0 : Int32), .int (x0 - x0 / (6 : Int32) * (6 : Int32)), .int ((x0 / (6 : Int32)) - (x0 / (6 : Int32)) / (4 : Int32) * (4 : Int32)), .int ((x0 / (24 : Int32)) - (x0 / (24 : Int32)) / (7 : Int32) * (7 : Int32))]) (rest := []) ⟨hx, hb, hml, hown, hts⟩ (c_L_act l hst dC dI cI h0 h0_1 h0_2 h0_3 h0_4 h0_5 h0_6 h0_7 h0_8 h0_9 h0_10 h0_11 h0_12 h0_13 h0_14 h0_15 h0_16 h0_17 h0_18 h0_19 h0_20 h0_21 h0_22 h0_23 h0_24 h0_25 h0_26 h0_27 h0_28 h0_29 h0_30 _ s0 (0 : Int32) (x0 - x0 / (6 : Int32) * (6 : Int32)) ((x0 / (6 : Int32)) - (x0 / (6 : Int32)) / (4 : Int32) * (4 : Int32)) ((x0 / (24 : Int32)) - (x0 / (24 : Int32)) / (7 : Int32) * (7 : Int32)) _ h) (vx_cwSW 5 hts gB_L_act rfl rfl rfl (by decide +kernel) ⟨Nat.le_of_ble_eq_true rfl, Nat.le_of_ble_eq_true rfl⟩) (pbl_S hP hK hD hN hX hC hFc hS) rfl rfl hl.1 rfl (lv_room (Nat.le_of_ble_eq_true rfl)) dL_law_77 ⟨Nat.le_of_ble_eq_true rfl, Nat.le_of_ble_eq_true rfl⟩)) hS (fun q _ h => hFc q h) hFc (fun q _ h => h) (fun E9 ce9 q9 u t H locs ht hvm h hB hz1 hk1 hS hce hcv hcl => h.elim) (fun r_333 u_332 t H locs ht hvm h hB hz1 hk1 hS => ?_)
  obtain ⟨m_334, m_335, m_336, m_337, hP1, hD1⟩ := hB
  rw [ht] at hP1
  have hP : va_P (dC, dI) vwCl (lwO cI h0 h0_1 h0_2 h0_3 h0_4 h0_5 h0_6 h0_7 h0_8 h0_9 h0_10 h0_11 h0_12 h0_13 h0_14 h0_15 h0_16 h0_17 h0_18 h0_19 h0_20 h0_21 h0_22 m_334 m_335 h0_25 h0_26 m_336 m_337 h0_29 h0_30 u_332) H := hP1
  have hD : va_D A (lwO cI h0 h0_1 h0_2 h0_3 h0_4 h0_5 h0_6 h0_7 h0_8 h0_9 h0_10 h0_11 h0_12 h0_13 h0_14 h0_15 h0_16 h0_17 h0_18 h0_19 h0_20 h0_21 h0_22 m_334 m_335 h0_25 h0_26 m_336 m_337 h0_29 h0_30 u_332) := hD1.weaken (fun _ _ _ h => hFc _ h)
  refine W.widen (k := 4346) (n := 74321) (Nat.le_of_ble_eq_true rfl) (Nat.le_of_ble_eq_true rfl) ?_
  obtain ⟨ht_, hf_⟩ := h
  refine lv_if_lt (tgt := 139) hx hb dL_law_80 (by decide) (fun c_338 => ?_) (fun c_338 => ?_)
  · have h := ht_ c_338
    exact (show False from h).elim
  · have h := hf_ c_338
    refine lv_iload_n hx hb dL_law_83 rfl (lv_at hl 3 rfl) ?_
    refine lv_iconst (v := (4 : Int32)) hx hb dL_law_84 (by decide) ?_
    refine lv_icmp_ge (tgt := 132) hx hb dL_law_85 (by decide) (fun c_339 => ?_) (fun c_339 => absurd c_339 (by decide))
    refine lv_aload_n hx hb dL_law_132 rfl (lv_at hl 2 rfl) ?_
    have hFc := frw hD hS hA
    refine va_calli (va_runS (As := [.ref h0]) (rest := []) ⟨hx, hb, hml, hown, hts⟩ (c_L_refuses l hst dC dI cI h0 h0_1 h0_2 h0_3 h0_4 h0_5 h0_6 h0_7 h0_8 h0_9 h0_10 h0_11 h0_12 h0_13 h0_14 h0_15 h0_16 h0_17 h0_18 h0_19 h0_20 h0_21 h0_22 m_334 m_335 h0_25 h0_26 m_336 m_337 h0_29 h0_30 _ u_332 _ h) (va_cwS 1 hts gB_L_refuses rfl rfl rfl (by decide +kernel) ⟨Nat.le_of_ble_eq_true rfl, Nat.le_of_ble_eq_true rfl⟩) (pbl_S hP hK hD hN hX hC hFc hS) rfl rfl hl.1 rfl (lv_room (Nat.le_of_ble_eq_true rfl)) dL_law_133 ⟨Nat.le_of_ble_eq_true rfl, Nat.le_of_ble_eq_true rfl⟩) hS (fun q _ h => hFc q h) hFc (fun r_341 u_340 t H locs ht hvm h hB hz1 hk1 hS => ?_)
    obtain ⟨m_342, m_343, m_344, m_345, hP1, hD1⟩ := hB
    rw [ht] at hP1
    have hP : va_P (dC, dI) vwCl (lwO cI h0 h0_1 h0_2 h0_3 h0_4 h0_5 h0_6 h0_7 h0_8 h0_9 h0_10 h0_11 h0_12 h0_13 h0_14 h0_15 h0_16 h0_17 h0_18 h0_19 h0_20 h0_21 h0_22 m_342 m_343 h0_25 h0_26 m_344 m_345 h0_29 h0_30 u_340) H := hP1
    have hD : va_D A (lwO cI h0 h0_1 h0_2 h0_3 h0_4 h0_5 h0_6 h0_7 h0_8 h0_9 h0_10 h0_11 h0_12 h0_13 h0_14 h0_15 h0_16 h0_17 h0_18 h0_19 h0_20 h0_21 h0_22 m_342 m_343 h0_25 h0_26 m_344 m_345 h0_29 h0_30 u_340) := hD1.weaken (fun _ _ _ h => hFc _ h)
    refine W.widen (k := 4538) (n := 75473) (Nat.le_of_ble_eq_true rfl) (Nat.le_of_ble_eq_true rfl) ?_
    obtain ⟨ht_, hf_⟩ := h
    refine lv_if_ne (tgt := 141) hx hb dL_law_136 (by decide) (fun c_346 => ?_) (fun c_346 => ?_)
    · have h := ht_ c_346
      refine lv_iinc (v := (16 : Int32)) (lv' := [(2, .int (16 : Int32)), (3, .int x0), (0, .ref b), (1, .ref h0)]) hx hb dL_law_141 hl (k := 3) rfl (by decide) (by decide) rfl (fun ls hl => ?_)
      refine lv_goto (tgt := 30) hx hb dL_law_144 (by decide) ?_
      refine lv_iload_n hx hb dL_law_30 rfl (lv_at hl 0 rfl) ?_
      refine lv_bipush (v := (24 : Int32)) hx hb dL_law_31 (by decide) ?_
      refine lv_icmp_ge (tgt := 147) hx hb dL_law_33 (by decide) (fun c_347 => absurd c_347 (by decide)) (fun c_347 => ?_)
      refine lv_aload_n hx hb dL_law_36 rfl (lv_at hl 2 rfl) ?_
      refine va_slen hx hb hXs hbl hbA hS dL_law_37 ?_
      obtain ⟨ht_, hf_⟩ := h
      refine lv_if_ne (tgt := 48) hx hb dL_law_38 (by decide) (fun c_348 => ?_) (fun c_348 => ?_)
      · have h := ht_ c_348
        have hL0 : ¬ Int32.ofNat L = 0 := c_348
        refine lv_aload_n hx hb dL_law_48 rfl (lv_at hl 2 rfl) ?_
        refine lv_iload_n hx hb dL_law_49 rfl (lv_at hl 0 rfl) ?_
        refine lv_aload_n hx hb dL_law_50 rfl (lv_at hl 2 rfl) ?_
        refine va_slen hx hb hXs hbl hbA hS dL_law_51 ?_
        refine lv_irem hx hb dL_law_52 hL0 ?_
        obtain ⟨hin, h⟩ := h
        refine va_sld hx hb hXs hbl hbA hS hin dL_law_53 ?_
        refine lv_bipush (v := (8 : Int32)) hx hb dL_law_54 (by decide) ?_
        refine lv_iushr (v := (jiushr (xs (((16 : Int32) - (16 : Int32) / (Int32.ofNat L) * (Int32.ofNat L))).toNatClampNeg) (8 : Int32))) hx hb dL_law_56 rfl ?_
        have hl : lv_has ls 4 [(0, .ref b), (1, .ref h0), (2, .int (16 : Int32))] := lv_sub hl [2, 3, 0] rfl
        refine W.widen (k := 4538) (n := 75473) (Nat.le_of_ble_eq_true rfl) (Nat.le_of_ble_eq_true rfl) ?_
        exact sg_L_law_17 l hst C0 hK hN hX hC hA hbA hAi h0 h0_1 h0_2 h0_3 h0_4 h0_5 h0_6 h0_7 h0_8 h0_9 h0_10 h0_11 h0_12 h0_13 h0_14 h0_15 h0_16 h0_17 h0_18 h0_19 h0_20 h0_21 h0_22 h0_25 h0_26 h0_29 h0_30 u_340 (jiushr (xs (((16 : Int32) - (16 : Int32) / (Int32.ofNat L) * (Int32.ofNat L))).toNatClampNeg) (8 : Int32)) h m_342 m_343 m_344 m_345 _ _ hP hD hS _ hl
      · have h := hf_ c_348
        refine lv_bipush (v := (31 : Int32)) hx hb dL_law_41 (by decide) ?_
        refine lv_iload_n hx hb dL_law_43 rfl (lv_at hl 0 rfl) ?_
        refine lv_imul hx hb dL_law_44 ?_
        refine lv_lit (b := (496 : Int32)) (by decide) ?_
        refine lv_goto (tgt := 57) hx hb dL_law_45 (by decide) ?_
        have hl : lv_has ls 4 [(0, .ref b), (1, .ref h0), (2, .int (16 : Int32))] := lv_sub hl [2, 3, 0] rfl
        refine W.widen (k := 4538) (n := 75473) (Nat.le_of_ble_eq_true rfl) (Nat.le_of_ble_eq_true rfl) ?_
        exact sg_L_law_17 l hst C0 hK hN hX hC hA hbA hAi h0 h0_1 h0_2 h0_3 h0_4 h0_5 h0_6 h0_7 h0_8 h0_9 h0_10 h0_11 h0_12 h0_13 h0_14 h0_15 h0_16 h0_17 h0_18 h0_19 h0_20 h0_21 h0_22 h0_25 h0_26 h0_29 h0_30 u_340 (496 : Int32) h m_342 m_343 m_344 m_345 _ _ hP hD hS _ hl
    · have h := hf_ c_346
      exact (show False from h).elim
