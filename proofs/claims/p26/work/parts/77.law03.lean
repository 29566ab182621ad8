set_option maxHeartbeats 4000000 in
set_option maxRecDepth 100000 in
theorem sg_L_law_15 (l : Launch) (hst : l.stackTraces = false) {p : Program} {e : Env} {s : State} {m : MethodId} {below : List Frame} {meth : Method} {c : Code} {b L : Nat} {xs : Nat → Int32} (C0 : lw_At p s m meth c b L xs) {dC : Nat → ClassId} {dI : Nat → Nat → Nat} {cI : ClassId} (hK : va_K (dC, dI) vwCl [(cI, .int)] s) (hN : nk s) {A : Nat → Prop} (hX : xj A s) (hC : xnc s) (hA : ∀ q : Nat, s.heap.size ≤ q → A q) (hbA : ¬ A b) (hAi : ∀ q : Nat, A q → s.heap.size ≤ q) (h0 h0_1 h0_2 h0_3 h0_4 h0_5 h0_6 h0_7 h0_8 h0_9 h0_10 h0_11 h0_12 h0_13 h0_14 h0_15 h0_16 h0_17 h0_18 h0_19 h0_20 h0_21 h0_22 h0_25 h0_26 h0_29 h0_30 : Nat) (s0 : TriS) (x0 : Int32) (h : P_L_law_15 s0 x0 L xs) (h0_23 h0_24 h0_27 h0_28 : Nat) (H : Heap) (locs : List Loc) (hP : va_P (dC, dI) vwCl (lwO cI h0 h0_1 h0_2 h0_3 h0_4 h0_5 h0_6 h0_7 h0_8 h0_9 h0_10 h0_11 h0_12 h0_13 h0_14 h0_15 h0_16 h0_17 h0_18 h0_19 h0_20 h0_21 h0_22 h0_23 h0_24 h0_25 h0_26 h0_27 h0_28 h0_29 h0_30 s0) H) (hD : va_D A (lwO cI h0 h0_1 h0_2 h0_3 h0_4 h0_5 h0_6 h0_7 h0_8 h0_9 h0_10 h0_11 h0_12 h0_13 h0_14 h0_15 h0_16 h0_17 h0_18 h0_19 h0_20 h0_21 h0_22 h0_23 h0_24 h0_25 h0_26 h0_27 h0_28 h0_29 h0_30 s0)) (hS : va_S A s.heap H locs) (ls : Array Slot) (hl : lv_has ls 4 [(0, .ref b), (1, .ref h0), (2, .int (14 : Int32))]) : W p l e room_1 s m #[Value.ref b] below meth c H locs 4150 73145 (lw_Z below #[Value.ref b] s) (F0 m 57 ls [.int x0]) := by
  obtain ⟨hx, hb, hr, hml, hown, hts, hXs, hbl, hlocks, hgv⟩ := id C0
  have hts := fun w h => hts w (wsL_law_in w h)
  have hown : s.vm.findClass RL = some m.cls := hown
  refine lv_istore_n (lv' := [(3, .int x0), (0, .ref b), (1, .ref h0), (2, .int (14 : Int32))]) hx hb dL_law_57 rfl hl (by decide) rfl (fun ls hl => ?_)
  refine lv_aload_n hx hb dL_law_58 rfl (lv_at hl 2 rfl) ?_
  refine lv_iconst (v := (0 : Int32)) hx hb dL_law_59 (by decide) ?_
  refine lv_iload_n hx hb dL_law_60 rfl (lv_at hl 0 rfl) ?_
  refine lv_bipush (v := (6 : Int32)) hx hb dL_law_61 (by decide) ?_
  refine lv_irem hx hb dL_law_63 (by decide) ?_
  refine lv_iload_n hx hb dL_law_64 rfl (lv_at hl 0 rfl) ?_
  refine lv_bipush (v := (6 : Int32)) hx hb dL_law_65 (by decide) ?_
  refine lv_idiv hx hb dL_law_67 (by decide) ?_
  refine lv_iconst (v := (4 : Int32)) hx hb dL_law_68 (by decide) ?_
  refine lv_irem hx hb dL_law_69 (by decide) ?_
  refine lv_iload_n hx hb dL_law_70 rfl (lv_at hl 0 rfl) ?_
  refine lv_bipush (v := (24 : Int32)) hx hb dL_law_71 (by decide) ?_
  refine lv_idiv hx hb dL_law_73 (by decide) ?_
  refine lv_bipush (v := (7 : Int32)) hx hb dL_law_74 (by decide) ?_
  refine lv_irem hx hb dL_law_76 (by decide) ?_
  have hFc := frw hD hS hA
  refine vx_calli (SX := Unit) (px := fun _ => False) (BX := fun _ _ _ => True) (AX := A) (vx_runSX0 (vx_runSX (As := [.ref h0, .int (0 : Int32), .int (x0 - x0 / (6 : Int32) * (6 : Int32)), .int ((x0 / (6 : Int32)) - (x0 / (6 : Int32)) / (4 : Int32) * (4 : Int32)), .int ((x0 / (24 : Int32)) - (x0 / (24 : Int32)) / (7 : Int32) * (7 : Int32))]) (rest := []) ⟨hx, hb, hml, hown, hts⟩ (c_L_act l hst dC dI cI h0 h0_1 h0_2 h0_3 h0_4 h0_5 h0_6 h0_7 h0_8 h0_9 h0_10 h0_11 h0_12 h0_13 h0_14 h0_15 h0_16 h0_17 h0_18 h0_19 h0_20 h0_21 h0_22 h0_23 h0_24 h0_25 h0_26 h0_27 h0_28 h0_29 h0_30 _ s0 (0 : Int32) (x0 - x0 / (6 : Int32) * (6 : Int32)) ((x0 / (6 : Int32)) - (x0 / (6 : Int32)) / (4 : Int32) * (4 : Int32)) ((x0 / (24 : Int32)) - (x0 / (24 : Int32)) / (7 : Int32) * (7 : Int32)) _ h) (vx_cwSW 5 hts gB_L_act rfl rfl rfl (by decide +kernel) ⟨Nat.le_of_ble_eq_true rfl, Nat.le_of_ble_eq_true rfl⟩) (pbl_S hP hK hD hN hX hC hFc hS) rfl rfl hl.1 rfl (lv_room (Nat.le_of_ble_eq_true rfl)) dL_law_77 ⟨Nat.le_of_ble_eq_true rfl, Nat.le_of_ble_eq_true rfl⟩)) hS (fun q _ h => hFc q h) hFc (fun q _ h => h) (fun E9 ce9 q9 u t H locs ht hvm h hB hz1 hk1 hS hce hcv hcl => h.elim) (fun r_316 u_315 t H locs ht hvm h hB hz1 hk1 hS => ?_)
  obtain ⟨m_317, m_318, m_319, m_320, hP1, hD1⟩ := hB
  rw [ht] at hP1
  have hP : va_P (dC, dI) vwCl (lwO cI h0 h0_1 h0_2 h0_3 h0_4 h0_5 h0_6 h0_7 h0_8 h0_9 h0_10 h0_11 h0_12 h0_13 h0_14 h0_15 h0_16 h0_17 h0_18 h0_19 h0_20 h0_21 h0_22 m_317 m_318 h0_25 h0_26 m_319 m_320 h0_29 h0_30 u_315) H := hP1
  have hD : va_D A (lwO cI h0 h0_1 h0_2 h0_3 h0_4 h0_5 h0_6 h0_7 h0_8 h0_9 h0_10 h0_11 h0_12 h0_13 h0_14 h0_15 h0_16 h0_17 h0_18 h0_19 h0_20 h0_21 h0_22 m_317 m_318 h0_25 h0_26 m_319 m_320 h0_29 h0_30 u_315) := hD1.weaken (fun _ _ _ h => hFc _ h)
  refine W.widen (k := 4152) (n := 73157) (Nat.le_of_ble_eq_true rfl) (Nat.le_of_ble_eq_true rfl) ?_
  obtain ⟨ht_, hf_⟩ := h
  refine lv_if_lt (tgt := 139) hx hb dL_law_80 (by decide) (fun c_321 => ?_) (fun c_321 => ?_)
  · have h := ht_ c_321
    exact (show False from h).elim
  · have h := hf_ c_321
    refine lv_iload_n hx hb dL_law_83 rfl (lv_at hl 3 rfl) ?_
    refine lv_iconst (v := (4 : Int32)) hx hb dL_law_84 (by decide) ?_
    refine lv_icmp_ge (tgt := 132) hx hb dL_law_85 (by decide) (fun c_322 => ?_) (fun c_322 => absurd c_322 (by decide))
    refine lv_aload_n hx hb dL_law_132 rfl (lv_at hl 2 rfl) ?_
    have hFc := frw hD hS hA
    refine va_calli (va_runS (As := [.ref h0]) (rest := []) ⟨hx, hb, hml, hown, hts⟩ (c_L_refuses l hst dC dI cI h0 h0_1 h0_2 h0_3 h0_4 h0_5 h0_6 h0_7 h0_8 h0_9 h0_10 h0_11 h0_12 h0_13 h0_14 h0_15 h0_16 h0_17 h0_18 h0_19 h0_20 h0_21 h0_22 m_317 m_318 h0_25 h0_26 m_319 m_320 h0_29 h0_30 _ u_315 _ h) (va_cwS 1 hts gB_L_refuses rfl rfl rfl (by decide +kernel) ⟨Nat.le_of_ble_eq_true rfl, Nat.le_of_ble_eq_true rfl⟩) (pbl_S hP hK hD hN hX hC hFc hS) rfl rfl hl.1 rfl (lv_room (Nat.le_of_ble_eq_true rfl)) dL_law_133 ⟨Nat.le_of_ble_eq_true rfl, Nat.le_of_ble_eq_true rfl⟩) hS (fun q _ h => hFc q h) hFc (fun r_324 u_323 t H locs ht hvm h hB hz1 hk1 hS => ?_)
    obtain ⟨m_325, m_326, m_327, m_328, hP1, hD1⟩ := hB
    rw [ht] at hP1
    have hP : va_P (dC, dI) vwCl (lwO cI h0 h0_1 h0_2 h0_3 h0_4 h0_5 h0_6 h0_7 h0_8 h0_9 h0_10 h0_11 h0_12 h0_13 h0_14 h0_15 h0_16 h0_17 h0_18 h0_19 h0_20 h0_21 h0_22 m_325 m_326 h0_25 h0_26 m_327 m_328 h0_29 h0_30 u_323) H := hP1
    have hD : va_D A (lwO cI h0 h0_1 h0_2 h0_3 h0_4 h0_5 h0_6 h0_7 h0_8 h0_9 h0_10 h0_11 h0_12 h0_13 h0_14 h0_15 h0_16 h0_17 h0_18 h0_19 h0_20 h0_21 h0_22 m_325 m_326 h0_25 h0_26 m_327 m_328 h0_29 h0_30 u_323) := hD1.weaken (fun _ _ _ h => hFc _ h)
    refine W.widen (k := 4344) (n := 74309) (Nat.le_of_ble_eq_true rfl) (Nat.le_of_ble_eq_true rfl) ?_
    obtain ⟨ht_, hf_⟩ := h
    refine lv_if_ne (tgt := 141) hx hb dL_law_136 (by decide) (fun c_329 => ?_) (fun c_329 => ?_)
    · have h := ht_ c_329
      refine lv_iinc (v := (15 : Int32)) (lv' := [(2, .int (15 : Int32)), (3, .int x0), (0, .ref b), (1, .ref h0)]) hx hb dL_law_141 hl (k := 3) rfl (by decide) (by decide) rfl (fun ls hl => ?_)
      refine lv_goto (tgt := 30) hx hb dL_law_144 (by decide) ?_
      refine lv_iload_n hx hb dL_law_30 rfl (lv_at hl 0 rfl) ?_
      refine lv_bipush (v := (24 : Int32)) hx hb dL_law_31 (by decide) ?_
      refine lv_icmp_ge (tgt := 147) hx hb dL_law_33 (by decide) (fun c_330 => absurd c_330 (by decide)) (fun c_330 => ?_)
      refine lv_aload_n hx hb dL_law_36 rfl (lv_at hl 2 rfl) ?_
      refine va_slen hx hb hXs hbl hbA hS dL_law_37 ?_
      obtain ⟨ht_, hf_⟩ := h
      refine lv_if_ne (tgt := 48) hx hb dL_law_38 (by decide) (fun c_331 => ?_) (fun c_331 => ?_)
      · have h := ht_ c_331
        have hL0 : ¬ Int32.ofNat L = 0 := c_331
        refine lv_aload_n hx hb dL_law_48 rfl (lv_at hl 2 rfl) ?_
        refine lv_iload_n hx hb dL_law_49 rfl (lv_at hl 0 rfl) ?_
        refine lv_aload_n hx hb dL_law_50 rfl (lv_at hl 2 rfl) ?_
        refine va_slen hx hb hXs hbl hbA hS dL_law_51 ?_
        refine lv_irem hx hb dL_law_52 hL0 ?_
        obtain ⟨hin, h⟩ := h
        refine va_sld hx hb hXs hbl hbA hS hin dL_law_53 ?_
        refine lv_bipush (v := (8 : Int32)) hx hb dL_law_54 (by decide) ?_
        refine lv_iushr (v := (jiushr (xs (((15 : Int32) - (15 : Int32) / (Int32.ofNat L) * (Int32.ofNat L))).toNatClampNeg) (8 : Int32))) hx hb dL_law_56 rfl ?_
        have hl : lv_has ls 4 [(0, .ref b), (1, .ref h0), (2, .int (15 : Int32))] := lv_sub hl [2, 3, 0] rfl
        refine W.widen (k := 4344) (n := 74309) (Nat.le_of_ble_eq_true rfl) (Nat.le_of_ble_eq_true rfl) ?_
        exact sg_L_law_16 l hst C0 hK hN hX hC hA hbA hAi h0 h0_1 h0_2 h0_3 h0_4 h0_5 h0_6 h0_7 h0_8 h0_9 h0_10 h0_11 h0_12 h0_13 h0_14 h0_15 h0_16 h0_17 h0_18 h0_19 h0_20 h0_21 h0_22 h0_25 h0_26 h0_29 h0_30 u_323 (jiushr (xs (((15 : Int32) - (15 : Int32) / (Int32.ofNat L) * (Int32.ofNat L))).toNatClampNeg) (8 : Int32)) h m_325 m_326 m_327 m_328 _ _ hP hD hS _ hl
      · have h := hf_ c_331
        refine lv_bipush (v := (31 : Int32)) hx hb dL_law_41 (by decide) ?_
        refine lv_iload_n hx hb dL_law_43 rfl (lv_at hl 0 rfl) ?_
        refine lv_imul hx hb dL_law_44 ?_
        refine lv_lit (b := (465 : Int32)) (by decide) ?_
        refine lv_goto (tgt := 57) hx hb dL_law_45 (by decide) ?_
        have hl : lv_has ls 4 [(0, .ref b), (1, .ref h0), (2, .int (15 : Int32))] := lv_sub hl [2, 3, 0] rfl
        refine W.widen (k := 4344) (n := 74309) (Nat.le_of_ble_eq_true rfl) (Nat.le_of_ble_eq_true rfl) ?_
        exact sg_L_law_16 l hst C0 hK hN hX hC hA hbA hAi h0 h0_1 h0_2 h0_3 h0_4 h0_5 h0_6 h0_7 h0_8 h0_9 h0_10 h0_11 h0_12 h0_13 h0_14 h0_15 h0_16 h0_17 h0_18 h0_19 h0_20 h0_21 h0_22 h0_25 h0_26 h0_29 h0_30 u_323 (465 : Int32) h m_325 m_326 m_327 m_328 _ _ hP hD hS _ hl
    · have h := hf_ c_329
      exact (show False from h).elim
set_option maxHeartbeats 4000000 in
set_option maxRecDepth 100000 in
theorem sg_L_law_14 (l : Launch) (hst : l.stackTraces = false) {p : Program} {e : Env} {s : State} {m : MethodId} {below : List Frame} {meth : Method} {c : Code} {b L : Nat} {xs : Nat → Int32} (C0 : lw_At p s m meth c b L xs) {dC : Nat → ClassId} {dI : Nat → Nat → Nat} {cI : ClassId} (hK : va_K (dC, dI) vwCl [(cI, .int)] s) (hN : nk s) {A : Nat → Prop} (hX : xj A s) (hC : xnc s) (hA : ∀ q : Nat, s.heap.size ≤ q → A q) (hbA : ¬ A b) (hAi : ∀ q : Nat, A q → s.heap.size ≤ q) (h0 h0_1 h0_2 h0_3 h0_4 h0_5 h0_6 h0_7 h0_8 h0_9 h0_10 h0_11 h0_12 h0_13 h0_14 h0_15 h0_16 h0_17 h0_18 h0_19 h0_20 h0_21 h0_22 h0_25 h0_26 h0_29 h0_30 : Nat) (s0 : TriS) (x0 : Int32) (h : P_L_law_14 s0 x0 L xs) (h0_23 h0_24 h0_27 h0_28 : Nat) (H : Heap) (locs : List Loc) (hP : va_P (dC, dI) vwCl (lwO cI h0 h0_1 h0_2 h0_3 h0_4 h0_5 h0_6 h0_7 h0_8 h0_9 h0_10 h0_11 h0_12 h0_13 h0_14 h0_15 h0_16 h0_17 h0_18 h0_19 h0_20 h0_21 h0_22 h0_23 h0_24 h0_25 h0_26 h0_27 h0_28 h0_29 h0_30 s0) H) (hD : va_D A (lwO cI h0 h0_1 h0_2 h0_3 h0_4 h0_5 h0_6 h0_7 h0_8 h0_9 h0_10 h0_11 h0_12 h0_13 h0_14 h0_15 h0_16 h0_17 h0_18 h0_19 h0_20 h0_21 h0_22 h0_23 h0_24 h0_25 h0_26 h0_27 h0_28 h0_29 h0_30 s0)) (hS : va_S A s.heap H locs) (ls : Array Slot) (hl : lv_has ls 4 [(0, .ref b), (1, .ref h0), (2, .int (13 : Int32))]) : W p l e room_1 s m #[Value.ref b] below meth c H locs 3956 71981 (lw_Z below #[Value.ref b] s) (F0 m 57 ls [.int x0]) := by
  obtain ⟨hx, hb, hr, hml, hown, hts, hXs, hbl, hlocks, hgv⟩ := id C0
  have hts := fun w h => hts w (wsL_law_in w h)
  have hown : s.vm.findClass RL = some m.cls := hown
  refine lv_istore_n (lv' := [(3, .int x0), (0, .ref b), (1, .ref h0), (2, .int (13 : Int32))]) hx hb dL_law_57 rfl hl (by decide) rfl (fun ls hl => ?_)
  refine lv_aload_n hx hb dL_law_58 rfl (lv_at hl 2 rfl) ?_
  refine lv_iconst (v := (0 : Int32)) hx hb dL_law_59 (by decide) ?_
  refine lv_iload_n hx hb dL_law_60 rfl (lv_at hl 0 rfl) ?_
  refine lv_bipush (v := (6 : Int32)) hx hb dL_law_61 (by decide) ?_
  refine lv_irem hx hb dL_law_63 (by decide) ?_
  refine lv_iload_n hx hb dL_law_64 rfl (lv_at hl 0 rfl) ?_
  refine lv_bipush (v := (6 : Int32)) hx hb dL_law_65 (by decide) ?_
  refine lv_idiv hx hb dL_law_67 (by decide) ?_
  refine lv_iconst (v := (4 : Int32)) hx hb dL_law_68 (by decide) ?_
  refine lv_irem hx hb dL_law_69 (by decide) ?_
  refine lv_iload_n hx hb dL_law_70 rfl (lv_at hl 0 rfl) ?_
  refine lv_bipush (v := (24 : Int32)) hx hb dL_law_71 (by decide) ?_
  refine lv_idiv hx hb dL_law_73 (by decide) ?_
  refine lv_bipush (v := (7 : Int32)) hx hb dL_law_74 (by decide) ?_
  refine lv_irem hx hb dL_law_76 (by decide) ?_
  have hFc := frw hD hS hA
  refine vx_calli (SX := Unit) (px := fun _ => False) (BX := fun _ _ _ => True) (AX := A) (vx_runSX0 (vx_runSX (As := [.ref h0, .int (0 : Int32), .int (x0 - x0 / (6 : Int32) * (6 : Int32)), .int ((x0 / (6 : Int32)) - (x0 / (6 : Int32)) / (4 : Int32) * (4 : Int32)), .int ((x0 / (24 : Int32)) - (x0 / (24 : Int32)) / (7 : Int32) * (7 : Int32))]) (rest := []) ⟨hx, hb, hml, hown, hts⟩ (c_L_act l hst dC dI cI h0 h0_1 h0_2 h0_3 h0_4 h0_5 h0_6 h0_7 h0_8 h0_9 h0_10 h0_11 h0_12 h0_13 h0_14 h0_15 h0_16 h0_17 h0_18 h0_19 h0_20 h0_21 h0_22 h0_23 h0_24 h0_25 h0_26 h0_27 h0_28 h0_29 h0_30 _ s0 (0 : Int32) (x0 - x0 / (6 : Int32) * (6 : Int32)) ((x0 / (6 : Int32)) - (x0 / (6 : Int32)) / (4 : Int32) * (4 : Int32)) ((x0 / (24 : Int32)) - (x0 / (24 : Int32)) / (7 : Int32) * (7 : Int32)) _ h) (vx_cwSW 5 hts gB_L_act rfl rfl rfl (by decide +kernel) ⟨Nat.le_of_ble_eq_true rfl, Nat.le_of_ble_eq_true rfl⟩) (pbl_S hP hK hD hN hX hC hFc hS) rfl rfl hl.1 rfl (lv_room (Nat.le_of_ble_eq_true rfl)) dL_law_77 ⟨Nat.le_of_ble_eq_true rfl, Nat.le_of_ble_eq_true rfl⟩)) hS (fun q _ h => hFc q h) hFc (fun q _ h => h) (fun E9 ce9 q9 u t H locs ht hvm h hB hz1 hk1 hS hce hcv hcl => h.elim) (fun r_299 u_298 t H locs ht hvm h hB hz1 hk1 hS => ?_)
  obtain ⟨m_300, m_301, m_302, m_303, hP1, hD1⟩ := hB
  rw [ht] at hP1
  have hP : va_P (dC, dI) vwCl (lwO cI h0 h0_1 h0_2 h0_3 h0_4 h0_5 h0_6 h0_7 h0_8 h0_9 h0_10 h0_11 h0_12 h0_13 h0_14 h0_15 h0_16 h0_17 h0_18 h0_19 h0_20 h0_21 h0_22 m_300 m_301 h0_25 h0_26 m_302 m_303 h0_29 h0_30 u_298) H := hP1
  have hD : va_D A (lwO cI h0 h0_1 h0_2 h0_3 h0_4 h0_5 h0_6 h0_7 h0_8 h0_9 h0_10 h0_11 h0_12 h0_13 h0_14 h0_15 h0_16 h0_17 h0_18 h0_19 h0_20 h0_21 h0_22 m_300 m_301 h0_25 h0_26 m_302 m_303 h0_29 h0_30 u_298) := hD1.weaken (fun _ _ _ h => hFc _ h)
  refine W.widen (k := 3958) (n := 71993) (Nat.le_of_ble_eq_true rfl) (Nat.le_of_ble_eq_true rfl) ?_
  obtain ⟨ht_, hf_⟩ := h
  refine lv_if_lt (tgt := 139) hx hb dL_law_80 (by decide) (fun c_304 => ?_) (fun c_304 => ?_)
  · have h := ht_ c_304
    exact (show False from h).elim
  · have h := hf_ c_304
    refine lv_iload_n hx hb dL_law_83 rfl (lv_at hl 3 rfl) ?_
    refine lv_iconst (v := (4 : Int32)) hx hb dL_law_84 (by decide) ?_
    refine lv_icmp_ge (tgt := 132) hx hb dL_law_85 (by decide) (fun c_305 => ?_) (fun c_305 => absurd c_305 (by decide))
    refine lv_aload_n hx hb dL_law_132 rfl (lv_at hl 2 rfl) ?_
    have hFc := frw hD hS hA
    refine va_calli (va_runS (As := [.ref h0]) (rest := []) ⟨hx, hb, hml, hown, hts⟩ (c_L_refuses l hst dC dI cI h0 h0_1 h0_2 h0_3 h0_4 h0_5 h0_6 h0_7 h0_8 h0_9 h0_10 h0_11 h0_12 h0_13 h0_14 h0_15 h0_16 h0_17 h0_18 h0_19 h0_20 h0_21 h0_22 m_300 m_301 h0_25 h0_26 m_302 m_303 h0_29 h0_30 _ u_298 _ h) (va_cwS 1 hts gB_L_refuses rfl rfl rfl (by decide +kernel) ⟨Nat.le_of_ble_eq_true rfl, Nat.le_of_ble_eq_true rfl⟩) (pbl_S hP hK hD hN hX hC hFc hS) rfl rfl hl.1 rfl (lv_room (Nat.le_of_ble_eq_true rfl)) dL_law_133 ⟨Nat.le_of_ble_eq_true rfl, Nat.le_of_ble_eq_true rfl⟩) hS (fun q _ h => hFc q h) hFc (fun r_307 u_306 t H locs ht hvm h hB hz1 hk1 hS => ?_)
    obtain ⟨m_308, m_309, m_310, m_311, hP1, hD1⟩ := hB
    rw [ht] at hP1
    have hP : va_P (dC, dI) vwCl (lwO cI h0 h0_1 h0_2 h0_3 h0_4 h0_5 h0_6 h0_7 h0_8 h0_9 h0_10 h0_11 h0_12 h0_13 h0_14 h0_15 h0_16 h0_17 h0_18 h0_19 h0_20 h0_21 h0_22 m_308 m_309 h0_25 h0_26 m_310 m_311 h0_29 h0_30 u_306) H := hP1
    have hD : va_D A (lwO cI h0 h0_1 h0_2 h0_3 h0_4 h0_5 h0_6 h0_7 h0_8 h0_9 h0_10 h0_11 h0_12 h0_13 h0_14 h0_15 h0_16 h0_17 h0_18 h0_19 h0_20 h0_21 h0_22 m_308 m_309 h0_25 h0_26 m_310 m_311 h0_29 h0_30 u_306) := hD1.weaken (fun _ _ _ h => hFc _ h)
    refine W.widen (k := 4150) (n := 73145) (Nat.le_of_ble_eq_true rfl) (Nat.le_of_ble_eq_true rfl) ?_
    obtain ⟨ht_, hf_⟩ := h
    refine lv_if_ne (tgt := 141) hx hb dL_law_136 (by decide) (fun c_312 => ?_) (fun c_312 => ?_)
    · have h := ht_ c_312
      refine lv_iinc (v := (14 : Int32)) (lv' := [(2, .int (14 : Int32)), (3, .int x0), (0, .ref b), (1, .ref h0)]) hx hb dL_law_141 hl (k := 3) rfl (by decide) (by decide) rfl (fun ls hl => ?_)
      refine lv_goto (tgt := 30) hx hb dL_law_144 (by decide) ?_
      refine lv_iload_n hx hb dL_law_30 rfl (lv_at hl 0 rfl) ?_
      refine lv_bipush (v := (24 : Int32)) hx hb dL_law_31 (by decide) ?_
      refine lv_icmp_ge (tgt := 147) hx hb dL_law_33 (by decide) (fun c_313 => absurd c_313 (by decide)) (fun c_313 => ?_)
      refine lv_aload_n hx hb dL_law_36 rfl (lv_at hl 2 rfl) ?_
      refine va_slen hx hb hXs hbl hbA hS dL_law_37 ?_
      obtain ⟨ht_, hf_⟩ := h
      refine lv_if_ne (tgt := 48) hx hb dL_law_38 (by decide) (fun c_314 => ?_) (fun c_314 => ?_)
      · have h := ht_ c_314
        have hL0 : ¬ Int32.ofNat L = 0 := c_314
        refine lv_aload_n hx hb dL_law_48 rfl (lv_at hl 2 rfl) ?_
        refine lv_iload_n hx hb dL_law_49 rfl (lv_at hl 0 rfl) ?_
        refine lv_aload_n hx hb dL_law_50 rfl (lv_at hl 2 rfl) ?_
        refine va_slen hx hb hXs hbl hbA hS dL_law_51 ?_
        refine lv_irem hx hb dL_law_52 hL0 ?_
        obtain ⟨hin, h⟩ := h
        refine va_sld hx hb hXs hbl hbA hS hin dL_law_53 ?_
        refine lv_bipush (v := (8 : Int32)) hx hb dL_law_54 (by decide) ?_
        refine lv_iushr (v := (jiushr (xs (((14 : Int32) - (14 : Int32) / (Int32.ofNat L) * (Int32.ofNat L))).toNatClampNeg) (8 : Int32))) hx hb dL_law_56 rfl ?_
        have hl : lv_has ls 4 [(0, .ref b), (1, .ref h0), (2, .int (14 : Int32))] := lv_sub hl [2, 3, 0] rfl
        refine W.widen (k := 4150) (n := 73145) (Nat.le_of_ble_eq_true rfl) (Nat.le_of_ble_eq_true rfl) ?_
        exact sg_L_law_15 l hst C0 hK hN hX hC hA hbA hAi h0 h0_1 h0_2 h0_3 h0_4 h0_5 h0_6 h0_7 h0_8 h0_9 h0_10 h0_11 h0_12 h0_13 h0_14 h0_15 h0_16 h0_17 h0_18 h0_19 h0_20 h0_21 h0_22 h0_25 h0_26 h0_29 h0_30 u_306 (jiushr (xs (((14 : Int32) - (14 : Int32) / (Int32.ofNat L) * (Int32.ofNat L))).toNatClampNeg) (8 : Int32)) h m_308 m_309 m_310 m_311 _ _ hP hD hS _ hl
      · have h := hf_ c_314
        refine lv_bipush (v := (31 : Int32)) hx hb dL_law_41 (by decide) ?_
        refine lv_iload_n hx hb dL_law_43 rfl (lv_at hl 0 rfl) ?_
        refine lv_imul hx hb dL_law_44 ?_
        refine lv_lit (b := (434 : Int32)) (by decide) ?_
        refine lv_goto (tgt := 57) hx hb dL_law_45 (by decide) ?_
        have hl : lv_has ls 4 [(0, .ref b), (1, .ref h0), (2, .int (14 : Int32))] := lv_sub hl [2, 3, 0] rfl
        refine W.widen (k := 4150) (n := 73145) (Nat.le_of_ble_eq_true rfl) (Nat.le_of_ble_eq_true rfl) ?_
        exact sg_L_law_15 l hst C0 hK hN hX hC hA hbA hAi h0 h0_1 h0_2 h0_3 h0_4 h0_5 h0_6 h0_7 h0_8 h0_9 h0_10 h0_11 h0_12 h0_13 h0_14 h0_15 h0_16 h0_17 h0_18 h0_19 h0_20 h0_21 h0_22 h0_25 h0_26 h0_29 h0_30 u_306 (434 : Int32) h m_308 m_309 m_310 m_311 _ _ hP hD hS _ hl
    · have h := hf_ c_312
      exact (show False from h).elim
set_option maxHeartbeats 4000000 in
set_option maxRecDepth 100000 in
theorem sg_L_law_13 (l : Launch) (hst : l.stackTraces = false) {p : Program} {e : Env} {s : State} {m : MethodId} {below : List Frame} {meth : Method} {c : Code} {b L : Nat} {xs : Nat → Int32} (C0 : lw_At p s m meth c b L xs) {dC : Nat → ClassId} {dI : Nat → Nat → Nat} {cI : ClassId} (hK : va_K (dC, dI) vwCl [(cI, .int)] s) (hN : nk s) {A : Nat → Prop} (hX : xj A s) (hC : xnc s) (hA : ∀ q : Nat, s.heap.size ≤ q → A q) (hbA : ¬ A b) (hAi : ∀ q : Nat, A q → s.heap.size ≤ q) (h0 h0_1 h0_2 h0_3 h0_4 h0_5 h0_6 h0_7 h0_8 h0_9 h0_10 h0_11 h0_12 h0_13 h0_14 h0_15 h0_16 h0_17 h0_18 h0_19 h0_20 h0_21 h0_22 h0_25 h0_26 h0_29 h0_30 : Nat) (s0 : TriS) (x0 : Int32) (h : P_L_law_13 s0 x0 L xs) (h0_23 h0_24 h0_27 h0_28 : Nat) (H : Heap) (locs : List Loc) (hP : va_P (dC, dI) vwCl (lwO cI h0 h0_1 h0_2 h0_3 h0_4 h0_5 h0_6 h0_7 h0_8 h0_9 h0_10 h0_11 h0_12 h0_13 h0_14 h0_15 h0_16 h0_17 h0_18 h0_19 h0_20 h0_21 h0_22 h0_23 h0_24 h0_25 h0_26 h0_27 h0_28 h0_29 h0_30 s0) H) (hD : va_D A (lwO cI h0 h0_1 h0_2 h0_3 h0_4 h0_5 h0_6 h0_7 h0_8 h0_9 h0_10 h0_11 h0_12 h0_13 h0_14 h0_15 h0_16 h0_17 h0_18 h0_19 h0_20 h0_21 h0_22 h0_23 h0_24 h0_25 h0_26 h0_27 h0_28 h0_29 h0_30 s0)) (hS : va_S A s.heap H locs) (ls : Array Slot) (hl : lv_has ls 4 [(0, .ref b), (1, .ref h0), (2, .int (12 : Int32))]) : W p l e room_1 s m #[Value.ref b] below meth c H locs 3762 70817 (lw_Z below #[Value.ref b] s) (F0 m 57 ls [.int x0]) := by
  obtain ⟨hx, hb, hr, hml, hown, hts, hXs, hbl, hlocks, hgv⟩ := id C0
  have hts := fun w h => hts w (wsL_law_in w h)
  have hown : s.vm.findClass RL = some m.cls := hown
  refine lv_istore_n (lv' := [(3, .int x0), (0, .ref b), (1, .ref h0), (2, .int (12 : Int32))]) hx hb dL_law_57 rfl hl (by decide) rfl (fun ls hl => ?_)
  refine lv_aload_n hx hb dL_law_58 rfl (lv_at hl 2 rfl) ?_
  refine lv_iconst (v := (0 : Int32)) hx hb dL_law_59 (by decide) ?_
  refine lv_iload_n hx hb dL_law_60 rfl (lv_at hl 0 rfl) ?_
  refine lv_bipush (v := (6 : Int32)) hx hb dL_law_61 (by decide) ?_
  refine lv_irem hx hb dL_law_63 (by decide) ?_
  refine lv_iload_n hx hb dL_law_64 rfl (lv_at hl 0 rfl) ?_
  refine lv_bipush (v := (6 : Int32)) hx hb dL_law_65 (by decide) ?_
  refine lv_idiv hx hb dL_law_67 (by decide) ?_
  refine lv_iconst (v := (4 : Int32)) hx hb dL_law_68 (by decide) ?_
  refine lv_irem hx hb dL_law_69 (by decide) ?_
  refine lv_iload_n hx hb dL_law_70 rfl (lv_at hl 0 rfl) ?_
  refine lv_bipush (v := (24 : Int32)) hx hb dL_law_71 (by decide) ?_
  refine lv_idiv hx hb dL_law_73 (by decide) ?_
  refine lv_bipush (v := (7 : Int32)) hx hb dL_law_74 (by decide) ?_
  refine lv_irem hx hb dL_law_76 (by decide) ?_
  have hFc := frw hD hS hA
  refine vx_calli (SX := Unit) (px := fun _ => False) (BX := fun _ _ _ => True) (AX := A) (vx_runSX0 (vx_runSX (As := [.ref h0, .int (0 : Int32), .int (x0 - x0 / (6 : Int32) * (6 : Int32)), .int ((x0 / (6 : Int32)) - (x0 / (6 : Int32)) / (4 : Int32) * (4 : Int32)), .int ((x0 / (24 : Int32)) - (x0 / (24 : Int32)) / (7 : Int32) * (7 : Int32))]) (rest := []) ⟨hx, hb, hml, hown, hts⟩ (c_L_act l hst dC dI cI h0 h0_1 h0_2 h0_3 h0_4 h0_5 h0_6 h0_7 h0_8 h0_9 h0_10 h0_11 h0_12 h0_13 h0_14 h0_15 h0_16 h0_17 h0_18 h0_19 h0_20 h0_21 h0_22 h0_23 h0_24 h0_25 h0_26 h0_27 h0_28 h0_29 h0_30 _ s0 (0 : Int32) (x0 - x0 / (6 : Int32) * (6 : Int32)) ((x0 / (6 : Int32)) - (x0 / (6 : Int32)) / (4 : Int32) * (4 : Int32)) ((x0 / (24 : Int32)) - (x0 / (24 : Int32)) / (7 : Int32) * (7 : Int32)) _ h) (vx_cwSW 5 hts gB_L_act rfl rfl rfl (by decide +kernel) ⟨Nat.le_of_ble_eq_true rfl, Nat.le_of_ble_eq_true rfl⟩) (pbl_S hP hK hD hN hX hC hFc hS) rfl rfl hl.1 rfl (lv_room (Nat.le_of_ble_eq_true rfl)) dL_law_77 ⟨Nat.le_of_ble_eq_true rfl, Nat.le_of_ble_eq_true rfl⟩)) hS (fun q _ h => hFc q h) hFc (fun q _ h => h) (fun E9 ce9 q9 u t H locs ht hvm h hB hz1 hk1 hS hce hcv hcl => h.elim) (fun r_282 u_281 t H locs ht hvm h hB hz1 hk1 hS => ?_)
  obtain ⟨m_283, m_284, m_285, m_286, hP1, hD1⟩ := hB
  rw [ht] at hP1
  have hP : va_P (dC, dI) vwCl (lwO cI h0 h0_1 h0_2 h0_3 h0_4 h0_5 h0_6 h0_7 h0_8 h0_9 h0_10 h0_11 h0_12 h0_13 h0_14 h0_15 h0_16 h0_17 h0_18 h0_19 h0_20 h0_21 h0_22 m_283 m_284 h0_25 h0_26 m_285 m_286 h0_29 h0_30 u_281) H := hP1
  have hD : va_D A (lwO cI h0 h0_1 h0_2 h0_3 h0_4 h0_5 h0_6 h0_7 h0_8 h0_9 h0_10 h0_11 h0_12 h0_13 h0_14 h0_15 h0_16 h0_17 h0_18 h0_19 h0_20 h0_21 h0_22 m_283 m_284 h0_25 h0_26 m_285 m_286 h0_29 h0_30 u_281) := hD1.weaken (fun _ _ _ h => hFc _ h)
  refine W.widen (k := 3764) (n := 70829) (Nat.le_of_ble_eq_true rfl) (Nat.le_of_ble_eq_true rfl) ?_
  obtain ⟨ht_, hf_⟩ := h
  refine lv_if_lt (tgt := 139) hx hb dL_law_80 (by decide) (fun c_287 => ?_) (fun c_287 => ?_)
  · have h := ht_ c_287
    exact (show False from h).elim
  · have h := hf_ c_287
    refine lv_iload_n hx hb dL_law_83 rfl (lv_at hl 3 rfl) ?_
    refine lv_iconst (v := (4 : Int32)) hx hb dL_law_84 (by decide) ?_
    refine lv_icmp_ge (tgt := 132) hx hb dL_law_85 (by decide) (fun c_288 => ?_) (fun c_288 => absurd c_288 (by decide))
    refine lv_aload_n hx hb dL_law_132 rfl (lv_at hl 2 rfl) ?_
    have hFc := frw hD hS hA
    refine va_calli (va_runS (As := [.ref h0]) (rest := []) ⟨hx, hb, hml, hown, hts⟩ (c_L_refuses l hst dC dI cI h0 h0_1 h0_2 h0_3 h0_4 h0_5 h0_6 h0_7 h0_8 h0_9 h0_10 h0_11 h0_12 h0_13 h0_14 h0_15 h0_16 h0_17 h0_18 h0_19 h0_20 h0_21 h0_22 m_283 m_284 h0_25 h0_26 m_285 m_286 h0_29 h0_30 _ u_281 _ h) (va_cwS 1 hts gB_L_refuses rfl rfl rfl (by decide +kernel) ⟨Nat.le_of_ble_eq_true rfl, Nat.le_of_ble_eq_true rfl⟩) (pbl_S hP hK hD hN hX hC hFc hS) rfl rfl hl.1 rfl (lv_room (Nat.le_of_ble_eq_true rfl)) dL_law_133 ⟨Nat.le_of_ble_eq_true rfl, Nat.le_of_ble_eq_true rfl⟩) hS (fun q _ h => hFc q h) hFc (fun r_290 u_289 t H locs ht hvm h hB hz1 hk1 hS => ?_)
    obtain ⟨m_291, m_292, m_293, m_294, hP1, hD1⟩ := hB
    rw [ht] at hP1
    have hP : va_P (dC, dI) vwCl (lwO cI h0 h0_1 h0_2 h0_3 h0_4 h0_5 h0_6 h0_7 h0_8 h0_9 h0_10 h0_11 h0_12 h0_13 h0_14 h0_15 h0_16 h0_17 h0_18 h0_19 h0_20 h0_21 h0_22 m_291 m_292 h0_25 h0_26 m_293 m_294 h0_29 h0_30 u_289) H := hP1
    have hD : va_D A (lwO cI h0 h0_1 h0_2 h0_3 h0_4 h0_5 h0_6 h0_7 h0_8 h0_9 h0_10 h0_11 h0_12 h0_13 h0_14 h0_15 h0_16 h0_17 h0_18 h0_19 h0_20 h0_21 h0_22 m_291 m_292 h0_25 h0_26 m_293 m_294 h0_29 h0_30 u_289) := hD1.weaken (fun _ _ _ h => hFc _ h)
    refine W.widen (k := 3956) (n := 71981) (Nat.le_of_ble_eq_true rfl) (Nat.le_of_ble_eq_true rfl) ?_
    obtain ⟨ht_, hf_⟩ := h
    refine lv_if_ne (tgt := 141) hx hb dL_law_136 (by decide) (fun c_295 => ?_) (fun c_295 => ?_)
    · have h := ht_ c_295
      refine lv_iinc (v := (13 : Int32)) (lv' := [(2, .int (13 : Int32)), (3, .int x0), (0, .ref b), (1, .ref h0)]) hx hb dL_law_141 hl (k := 3) rfl (by decide) (by decide) rfl (fun ls hl => ?_)
      refine lv_goto (tgt := 30) hx hb dL_law_144 (by decide) ?_
      refine lv_iload_n hx hb dL_law_30 rfl (lv_at hl 0 rfl) ?_
      refine lv_bipush (v := (24 : Int32)) hx hb dL_law_31 (by decide) ?_
      refine lv_icmp_ge (tgt := 147) hx hb dL_law_33 (by decide) (fun c_296 => absurd c_296 (by decide)) (fun c_296 => ?_)
      refine lv_aload_n hx hb dL_law_36 rfl (lv_at hl 2 rfl) ?_
      refine va_slen hx hb hXs hbl hbA hS dL_law_37 ?_
      obtain ⟨ht_, hf_⟩ := h
      refine lv_if_ne (tgt := 48) hx hb dL_law_38 (by decide) (fun c_297 => ?_) (fun c_297 => ?_)
      · have h := ht_ c_297
        have hL0 : ¬ Int32.ofNat L = 0 := c_297
        refine lv_aload_n hx hb dL_law_48 rfl (lv_at hl 2 rfl) ?_
        refine lv_iload_n hx hb dL_law_49 rfl (lv_at hl 0 rfl) ?_
        refine lv_aload_n hx hb dL_law_50 rfl (lv_at hl 2 rfl) ?_
        refine va_slen hx hb hXs hbl hbA hS dL_law_51 ?_
        refine lv_irem hx hb dL_law_52 hL0 ?_
        obtain ⟨hin, h⟩ := h
        refine va_sld hx hb hXs hbl hbA hS hin dL_law_53 ?_
        refine lv_bipush (v := (8 : Int32)) hx hb dL_law_54 (by decide) ?_
        refine lv_iushr (v := (jiushr (xs (((13 : Int32) - (13 : Int32) / (Int32.ofNat L) * (Int32.ofNat L))).toNatClampNeg) (8 : Int32))) hx hb dL_law_56 rfl ?_
        have hl : lv_has ls 4 [(0, .ref b), (1, .ref h0), (2, .int (13 : Int32))] := lv_sub hl [2, 3, 0] rfl
        refine W.widen (k := 3956) (n := 71981) (Nat.le_of_ble_eq_true rfl) (Nat.le_of_ble_eq_true rfl) ?_
        exact sg_L_law_14 l hst C0 hK hN hX hC hA hbA hAi h0 h0_1 h0_2 h0_3 h0_4 h0_5 h0_6 h0_7 h0_8 h0_9 h0_10 h0_11 h0_12 h0_13 h0_14 h0_15 h0_16 h0_17 h0_18 h0_19 h0_20 h0_21 h0_22 h0_25 h0_26 h0_29 h0_30 u_289 (jiushr (xs (((13 : Int32) - (13 : Int32) / (Int32.ofNat L) * (Int32.ofNat L))).toNatClampNeg) (8 : Int32)) h m_291 m_292 m_293 m_294 _ _ hP hD hS _ hl
      · have h := hf_ c_297
        refine lv_bipush (v := (31 : Int32)) hx hb dL_law_41 (by decide) ?_
        refine lv_iload_n hx hb dL_law_43 rfl (lv_at hl 0 rfl) ?_
        refine lv_imul hx hb dL_law_44 ?_
        refine lv_lit (b := (403 : Int32)) (by decide) ?_
        refine lv_goto (tgt := 57) hx hb dL_law_45 (by decide) ?_
        have hl : lv_has ls 4 [(0, .ref b), (1, .ref h0), (2, .int (13 : Int32))] := lv_sub hl [2, 3, 0] rfl
        refine W.widen (k := 3956) (n := 71981) (Nat.le_of_ble_eq_true rfl) (Nat.le_of_ble_eq_true rfl) ?_
        exact sg_L_law_14 l hst C0 hK hN hX hC hA hbA hAi h0 h0_1 h0_2 h0_3 h0_4 h0_5 h0_6 h0_7 h0_8 h0_9 h0_10 h0_11 h0_12 h0_13 h0_14 h0_15 h0_16 h0_17 h0_18 h0_19 h0_20 h0_21 h0_22 h0_25 h0_26 h0_29 h0_30 u_289 (403 : Int32) h m_291 m_292 m_293 m_294 _ _ hP hD hS _ hl
    · have h := hf_ c_295
      exact (show False from h).elim
