set_option maxHeartbeats 4000000 in
set_option maxRecDepth 100000 in
theorem sg_L_law_24 (l : Launch) (hst : l.stackTraces = false) {p : Program} {e : Env} {s : State} {m : MethodId} {below : List Frame} {meth : Method} {c : Code} {b L : Nat} {xs : Nat → Int32} (C0 : lw_At p s m meth c b L xs) {dC : Nat → ClassId} {dI : Nat → Nat → Nat} {cI : ClassId} (hK : va_K (dC, dI) vwCl [(cI, .int)] s) (hN : nk s) {A : Nat → Prop} (hX : xj A s) (hC : xnc s) (hA : ∀ q : Nat, s.heap.size ≤ q → A q) (hbA : ¬ A b) (hAi : ∀ q : Nat, A q → s.heap.size ≤ q) (h0 h0_1 h0_2 h0_3 h0_4 h0_5 h0_6 h0_7 h0_8 h0_9 h0_10 h0_11 h0_12 h0_13 h0_14 h0_15 h0_16 h0_17 h0_18 h0_19 h0_20 h0_21 h0_22 h0_25 h0_26 h0_29 h0_30 : Nat) (s0 : TriS) (x0 : Int32) (h : P_L_law_24 s0 x0 L xs) (h0_23 h0_24 h0_27 h0_28 : Nat) (H : Heap) (locs : List Loc) (hP : va_P (dC, dI) vwCl (lwO cI h0 h0_1 h0_2 h0_3 h0_4 h0_5 h0_6 h0_7 h0_8 h0_9 h0_10 h0_11 h0_12 h0_13 h0_14 h0_15 h0_16 h0_17 h0_18 h0_19 h0_20 h0_21 h0_22 h0_23 h0_24 h0_25 h0_26 h0_27 h0_28 h0_29 h0_30 s0) H) (hD : va_D A (lwO cI h0 h0_1 h0_2 h0_3 h0_4 h0_5 h0_6 h0_7 h0_8 h0_9 h0_10 h0_11 h0_12 h0_13 h0_14 h0_15 h0_16 h0_17 h0_18 h0_19 h0_20 h0_21 h0_22 h0_23 h0_24 h0_25 h0_26 h0_27 h0_28 h0_29 h0_30 s0)) (hS : va_S A s.heap H locs) (ls : Array Slot) (hl : lv_has ls 4 [(0, .ref b), (1, .ref h0), (2, .int (23 : Int32))]) : W p l e room_1 s m #[Value.ref b] below meth c H locs 5896 83621 (lw_Z below #[Value.ref b] s) (F0 m 57 ls [.int x0]) := by
  obtain ⟨hx, hb, hr, hml, hown, hts, hXs, hbl, hlocks, hgv⟩ := id C0
  have hts := fun w h => hts w (wsL_law_in w h)
  have hown : s.vm.findClass RL = some m.cls := hown
  refine lv_istore_n (lv' := [(3, .int x0), (0, .ref b), (1, .ref h0), (2, .int (23 : Int32))]) hx hb dL_law_57 rfl hl (by decide) rfl (fun ls hl => ?_)
  refine lv_aload_n hx hb dL_law_58 rfl (lv_at hl 2 rfl) ?_
  refine lv_iconst (v := (0 : Int32)) hx hb dL_law_59 (by decide) ?_
  refine lv_iload_n hx hb dL_law_60 rfl (lv_at hl 0 rfl) ?_
  refine lv_bipush (v := (6 : Int32)) hx hb dL_law_61 (by decide) ?_
  refine lv_irem hx hb dL_law_63 (by decide) ?_
  refine lv_iload_n hx hb dL_law_64 rfl (lv_at hl 0 rfl) ?_
  refine lv_bipush (v := (6 : Int32)) hx hb dL_law_65 (by decide) ?_
  refine lv_idiv hx hb dL_law_67 (by decide) ?_
  refine lv_iconst (v := (4 : Int32)) hx hb dL_law_68 (by decide) ?_
  refine lv_irem hx hb dL_law_69 (by decide) ?_
  refine lv_iload_n hx hb dL_law_70 rfl (lv_at hl 0 rfl) ?_
  refine lv_bipush (v := (24 : Int32)) hx hb dL_law_71 (by decide) ?_
  refine lv_idiv hx hb dL_law_73 (by decide) ?_
  refine lv_bipush (v := (7 : Int32)) hx hb dL_law_74 (by decide) ?_
  refine lv_irem hx hb dL_law_76 (by decide) ?_
  have hFc := frw hD hS hA
  refine vx_calli (SX := Unit) (px := fun _ => False) (BX := fun _ _ _ => True) (AX := A) (vx_runSX0 (vx_runSX (As := [.ref h0, .int (0 : Int32), .int (x0 - x0 / (6 : Int32) * (6 : Int32)), .int ((x0 / (6 : Int32)) - (x0 / (6 : Int32)) / (4 : Int32) * (4 : Int32)), .int ((x0 / (24 : Int32)) - (x0 / (24 : Int32)) / (7 : Int32) * (7 : Int32))]) (rest := []) ⟨hx, hb, hml, hown, hts⟩ (c_L_act l hst dC dI cI h0 h0_1 h0_2 h0_3 h0_4 h0_5 h0_6 h0_7 h0_8 h0_9 h0_10 h0_11 h0_12 h0_13 h0_14 h0_15 h0_16 h0_17 h0_18 h0_19 h0_20 h0_21 h0_22 h0_23 h0_24 h0_25 h0_26 h0_27 h0_28 h0_29 h0_30 _ s0 (0 : Int32) (x0 - x0 / (6 : Int32) * (6 : Int32)) ((x0 / (6 : Int32)) - (x0 / (6 : Int32)) / (4 : Int32) * (4 : Int32)) ((x0 / (24 : Int32)) - (x0 / (24 : Int32)) / (7 : Int32) * (7 : Int32)) _ h) (vx_cwSW 5 hts gB_L_act rfl rfl rfl (by decide +kernel) ⟨Nat.le_of_ble_eq_true rfl, Nat.le_of_ble_eq_true rfl⟩) (pbl_S hP hK hD hN hX hC hFc hS) rfl rfl hl.1 rfl (lv_room (Nat.le_of_ble_eq_true rfl)) dL_law_77 ⟨Nat.le_of_ble_eq_true rfl, Nat.le_of_ble_eq_true rfl⟩)) hS (fun q _ h => hFc q h) hFc (fun q _ h => h) (fun E9 ce9 q9 u t H locs ht hvm h hB hz1 hk1 hS hce hcv hcl => h.elim) (fun r_469 u_468 t H locs ht hvm h hB hz1 hk1 hS => ?_)
  obtain ⟨m_470, m_471, m_472, m_473, hP1, hD1⟩ := hB
  rw [ht] at hP1
  have hP : va_P (dC, dI) vwCl (lwO cI h0 h0_1 h0_2 h0_3 h0_4 h0_5 h0_6 h0_7 h0_8 h0_9 h0_10 h0_11 h0_12 h0_13 h0_14 h0_15 h0_16 h0_17 h0_18 h0_19 h0_20 h0_21 h0_22 m_470 m_471 h0_25 h0_26 m_472 m_473 h0_29 h0_30 u_468) H := hP1
  have hD : va_D A (lwO cI h0 h0_1 h0_2 h0_3 h0_4 h0_5 h0_6 h0_7 h0_8 h0_9 h0_10 h0_11 h0_12 h0_13 h0_14 h0_15 h0_16 h0_17 h0_18 h0_19 h0_20 h0_21 h0_22 m_470 m_471 h0_25 h0_26 m_472 m_473 h0_29 h0_30 u_468) := hD1.weaken (fun _ _ _ h => hFc _ h)
  refine W.widen (k := 5898) (n := 83633) (Nat.le_of_ble_eq_true rfl) (Nat.le_of_ble_eq_true rfl) ?_
  obtain ⟨ht_, hf_⟩ := h
  refine lv_if_lt (tgt := 139) hx hb dL_law_80 (by decide) (fun c_474 => ?_) (fun c_474 => ?_)
  · have h := ht_ c_474
    exact (show False from h).elim
  · have h := hf_ c_474
    refine lv_iload_n hx hb dL_law_83 rfl (lv_at hl 3 rfl) ?_
    refine lv_iconst (v := (4 : Int32)) hx hb dL_law_84 (by decide) ?_
    refine lv_icmp_ge (tgt := 132) hx hb dL_law_85 (by decide) (fun c_475 => ?_) (fun c_475 => absurd c_475 (by decide))
    refine lv_aload_n hx hb dL_law_132 rfl (lv_at hl 2 rfl) ?_
    have hFc := frw hD hS hA
    refine va_calli (va_runS (As := [.ref h0]) (rest := []) ⟨hx, hb, hml, hown, hts⟩ (c_L_refuses l hst dC dI cI h0 h0_1 h0_2 h0_3 h0_4 h0_5 h0_6 h0_7 h0_8 h0_9 h0_10 h0_11 h0_12 h0_13 h0_14 h0_15 h0_16 h0_17 h0_18 h0_19 h0_20 h0_21 h0_22 m_470 m_471 h0_25 h0_26 m_472 m_473 h0_29 h0_30 _ u_468 _ h) (va_cwS 1 hts gB_L_refuses rfl rfl rfl (by decide +kernel) ⟨Nat.le_of_ble_eq_true rfl, Nat.le_of_ble_eq_true rfl⟩) (pbl_S hP hK hD hN hX hC hFc hS) rfl rfl hl.1 rfl (lv_room (Nat.le_of_ble_eq_true rfl)) dL_law_133 ⟨Nat.le_of_ble_eq_true rfl, Nat.le_of_ble_eq_true rfl⟩) hS (fun q _ h => hFc q h) hFc (fun r_477 u_476 t H locs ht hvm h hB hz1 hk1 hS => ?_)
    obtain ⟨m_478, m_479, m_480, m_481, hP1, hD1⟩ := hB
    rw [ht] at hP1
    have hP : va_P (dC, dI) vwCl (lwO cI h0 h0_1 h0_2 h0_3 h0_4 h0_5 h0_6 h0_7 h0_8 h0_9 h0_10 h0_11 h0_12 h0_13 h0_14 h0_15 h0_16 h0_17 h0_18 h0_19 h0_20 h0_21 h0_22 m_478 m_479 h0_25 h0_26 m_480 m_481 h0_29 h0_30 u_476) H := hP1
    have hD : va_D A (lwO cI h0 h0_1 h0_2 h0_3 h0_4 h0_5 h0_6 h0_7 h0_8 h0_9 h0_10 h0_11 h0_12 h0_13 h0_14 h0_15 h0_16 h0_17 h0_18 h0_19 h0_20 h0_21 h0_22 m_478 m_479 h0_25 h0_26 m_480 m_481 h0_29 h0_30 u_476) := hD1.weaken (fun _ _ _ h => hFc _ h)
    refine W.widen (k := 6090) (n := 84785) (Nat.le_of_ble_eq_true rfl) (Nat.le_of_ble_eq_true rfl) ?_
    obtain ⟨ht_, hf_⟩ := h
    refine lv_if_ne (tgt := 141) hx hb dL_law_136 (by decide) (fun c_482 => ?_) (fun c_482 => ?_)
    · have h := ht_ c_482
      refine lv_iinc (v := (24 : Int32)) (lv' := [(2, .int (24 : Int32)), (3, .int x0), (0, .ref b), (1, .ref h0)]) hx hb dL_law_141 hl (k := 3) rfl (by decide) (by decide) rfl (fun ls hl => ?_)
      refine lv_goto (tgt := 30) hx hb dL_law_144 (by decide) ?_
      refine lv_iload_n hx hb dL_law_30 rfl (lv_at hl 0 rfl) ?_
      refine lv_bipush (v := (24 : Int32)) hx hb dL_law_31 (by decide) ?_
      refine lv_icmp_ge (tgt := 147) hx hb dL_law_33 (by decide) (fun c_483 => ?_) (fun c_483 => absurd c_483 (by decide))
      refine lv_aload_n hx hb dL_law_147 rfl (lv_at hl 3 rfl) ?_
      refine lv_bipush (v := (10 : Int32)) hx hb dL_law_148 (by decide) ?_
      refine lv_iconst (v := (0 : Int32)) hx hb dL_law_150 (by decide) ?_
      refine lv_iconst (v := (0 : Int32)) hx hb dL_law_151 (by decide) ?_
      refine lv_iconst (v := (0 : Int32)) hx hb dL_law_152 (by decide) ?_
      have hFc := frw hD hS hA
      refine vx_calli (SX := Unit) (px := fun _ => False) (BX := fun _ _ _ => True) (AX := A) (vx_runSX0 (vx_runSX (As := [.ref h0, .int (10 : Int32), .int (0 : Int32), .int (0 : Int32), .int (0 : Int32)]) (rest := []) ⟨hx, hb, hml, hown, hts⟩ (c_L_act l hst dC dI cI h0 h0_1 h0_2 h0_3 h0_4 h0_5 h0_6 h0_7 h0_8 h0_9 h0_10 h0_11 h0_12 h0_13 h0_14 h0_15 h0_16 h0_17 h0_18 h0_19 h0_20 h0_21 h0_22 m_478 m_479 h0_25 h0_26 m_480 m_481 h0_29 h0_30 _ u_476 (10 : Int32) (0 : Int32) (0 : Int32) (0 : Int32) _ h) (vx_cwSW 5 hts gB_L_act rfl rfl rfl (by decide +kernel) ⟨Nat.le_of_ble_eq_true rfl, Nat.le_of_ble_eq_true rfl⟩) (pbl_S hP hK hD hN hX hC hFc hS) rfl rfl hl.1 rfl (lv_room (Nat.le_of_ble_eq_true rfl)) dL_law_153 ⟨Nat.le_of_ble_eq_true rfl, Nat.le_of_ble_eq_true rfl⟩)) hS (fun q _ h => hFc q h) hFc (fun q _ h => h) (fun E9 ce9 q9 u t H locs ht hvm h hB hz1 hk1 hS hce hcv hcl => h.elim) (fun r_485 u_484 t H locs ht hvm h hB hz1 hk1 hS => ?_)
      obtain ⟨m_486, m_487, m_488, m_489, hP1, hD1⟩ := hB
      rw [ht] at hP1
      have hP : va_P (dC, dI) vwCl (lwO cI h0 h0_1 h0_2 h0_3 h0_4 h0_5 h0_6 h0_7 h0_8 h0_9 h0_10 h0_11 h0_12 h0_13 h0_14 h0_15 h0_16 h0_17 h0_18 h0_19 h0_20 h0_21 h0_22 m_486 m_487 h0_25 h0_26 m_488 m_489 h0_29 h0_30 u_484) H := hP1
      have hD : va_D A (lwO cI h0 h0_1 h0_2 h0_3 h0_4 h0_5 h0_6 h0_7 h0_8 h0_9 h0_10 h0_11 h0_12 h0_13 h0_14 h0_15 h0_16 h0_17 h0_18 h0_19 h0_20 h0_21 h0_22 m_486 m_487 h0_25 h0_26 m_488 m_489 h0_29 h0_30 u_484) := hD1.weaken (fun _ _ _ h => hFc _ h)
      refine W.widen (k := 6092) (n := 84797) (Nat.le_of_ble_eq_true rfl) (Nat.le_of_ble_eq_true rfl) ?_
      refine lv_aload_n hx hb dL_law_156 rfl (lv_at hl 3 rfl) ?_
      refine lv_bipush (v := (12 : Int32)) hx hb dL_law_157 (by decide) ?_
      refine lv_iconst (v := (0 : Int32)) hx hb dL_law_159 (by decide) ?_
      refine lv_iconst (v := (0 : Int32)) hx hb dL_law_160 (by decide) ?_
      refine lv_iconst (v := (0 : Int32)) hx hb dL_law_161 (by decide) ?_
      have hFc := frw hD hS hA
      refine vx_calli (SX := Unit) (px := fun _ => False) (BX := fun _ _ _ => True) (AX := A) (vx_runSX0 (vx_runSX (As := [.ref h0, .int (12 : Int32), .int (0 : Int32), .int (0 : Int32), .int (0 : Int32)]) (rest := [.int r_485]) ⟨hx, hb, hml, hown, hts⟩ (c_L_act l hst dC dI cI h0 h0_1 h0_2 h0_3 h0_4 h0_5 h0_6 h0_7 h0_8 h0_9 h0_10 h0_11 h0_12 h0_13 h0_14 h0_15 h0_16 h0_17 h0_18 h0_19 h0_20 h0_21 h0_22 m_486 m_487 h0_25 h0_26 m_488 m_489 h0_29 h0_30 _ u_484 (12 : Int32) (0 : Int32) (0 : Int32) (0 : Int32) _ h) (vx_cwSW 5 hts gB_L_act rfl rfl rfl (by decide +kernel) ⟨Nat.le_of_ble_eq_true rfl, Nat.le_of_ble_eq_true rfl⟩) (pbl_S hP hK hD hN hX hC hFc hS) rfl rfl hl.1 rfl (lv_room (Nat.le_of_ble_eq_true rfl)) dL_law_162 ⟨Nat.le_of_ble_eq_true rfl, Nat.le_of_ble_eq_true rfl⟩)) hS (fun q _ h => hFc q h) hFc (fun q _ h => h) (fun E9 ce9 q9 u t H locs ht hvm h hB hz1 hk1 hS hce hcv hcl => h.elim) (fun r_491 u_490 t H locs ht hvm h hB hz1 hk1 hS => ?_)
      obtain ⟨m_492, m_493, m_494, m_495, hP1, hD1⟩ := hB
      rw [ht] at hP1
      have hP : va_P (dC, dI) vwCl (lwO cI h0 h0_1 h0_2 h0_3 h0_4 h0_5 h0_6 h0_7 h0_8 h0_9 h0_10 h0_11 h0_12 h0_13 h0_14 h0_15 h0_16 h0_17 h0_18 h0_19 h0_20 h0_21 h0_22 m_492 m_493 h0_25 h0_26 m_494 m_495 h0_29 h0_30 u_490) H := hP1
      have hD : va_D A (lwO cI h0 h0_1 h0_2 h0_3 h0_4 h0_5 h0_6 h0_7 h0_8 h0_9 h0_10 h0_11 h0_12 h0_13 h0_14 h0_15 h0_16 h0_17 h0_18 h0_19 h0_20 h0_21 h0_22 m_492 m_493 h0_25 h0_26 m_494 m_495 h0_29 h0_30 u_490) := hD1.weaken (fun _ _ _ h => hFc _ h)
      refine W.widen (k := 6094) (n := 84809) (Nat.le_of_ble_eq_true rfl) (Nat.le_of_ble_eq_true rfl) ?_
      obtain ⟨ht_, hf_⟩ := h
      refine lv_icmp_ne (tgt := 193) hx hb dL_law_165 (by decide) (fun c_496 => ?_) (fun c_496 => ?_)
      · have h := ht_ c_496
        exact (show False from h).elim
      · have h := hf_ c_496
        refine lv_aload_n hx hb dL_law_168 rfl (lv_at hl 3 rfl) ?_
        refine lv_bipush (v := (11 : Int32)) hx hb dL_law_169 (by decide) ?_
        refine lv_iconst (v := (0 : Int32)) hx hb dL_law_171 (by decide) ?_
        refine lv_iconst (v := (0 : Int32)) hx hb dL_law_172 (by decide) ?_
        refine lv_iconst (v := (0 : Int32)) hx hb dL_law_173 (by decide) ?_
        have hFc := frw hD hS hA
        refine vx_calli (SX := Unit) (px := fun _ => False) (BX := fun _ _ _ => True) (AX := A) (vx_runSX0 (vx_runSX (As := [.ref h0, .int (11 : Int32), .int (0 : Int32), .int (0 : Int32), .int (0 : Int32)]) (rest := []) ⟨hx, hb, hml, hown, hts⟩ (c_L_act l hst dC dI cI h0 h0_1 h0_2 h0_3 h0_4 h0_5 h0_6 h0_7 h0_8 h0_9 h0_10 h0_11 h0_12 h0_13 h0_14 h0_15 h0_16 h0_17 h0_18 h0_19 h0_20 h0_21 h0_22 m_492 m_493 h0_25 h0_26 m_494 m_495 h0_29 h0_30 _ u_490 (11 : Int32) (0 : Int32) (0 : Int32) (0 : Int32) _ h) (vx_cwSW 5 hts gB_L_act rfl rfl rfl (by decide +kernel) ⟨Nat.le_of_ble_eq_true rfl, Nat.le_of_ble_eq_true rfl⟩) (pbl_S hP hK hD hN hX hC hFc hS) rfl rfl hl.1 rfl (lv_room (Nat.le_of_ble_eq_true rfl)) dL_law_174 ⟨Nat.le_of_ble_eq_true rfl, Nat.le_of_ble_eq_true rfl⟩)) hS (fun q _ h => hFc q h) hFc (fun q _ h => h) (fun E9 ce9 q9 u t H locs ht hvm h hB hz1 hk1 hS hce hcv hcl => h.elim) (fun r_498 u_497 t H locs ht hvm h hB hz1 hk1 hS => ?_)
        obtain ⟨m_499, m_500, m_501, m_502, hP1, hD1⟩ := hB
        rw [ht] at hP1
        have hP : va_P (dC, dI) vwCl (lwO cI h0 h0_1 h0_2 h0_3 h0_4 h0_5 h0_6 h0_7 h0_8 h0_9 h0_10 h0_11 h0_12 h0_13 h0_14 h0_15 h0_16 h0_17 h0_18 h0_19 h0_20 h0_21 h0_22 m_499 m_500 h0_25 h0_26 m_501 m_502 h0_29 h0_30 u_497) H := hP1
        have hD : va_D A (lwO cI h0 h0_1 h0_2 h0_3 h0_4 h0_5 h0_6 h0_7 h0_8 h0_9 h0_10 h0_11 h0_12 h0_13 h0_14 h0_15 h0_16 h0_17 h0_18 h0_19 h0_20 h0_21 h0_22 m_499 m_500 h0_25 h0_26 m_501 m_502 h0_29 h0_30 u_497) := hD1.weaken (fun _ _ _ h => hFc _ h)
        refine W.widen (k := 6096) (n := 84821) (Nat.le_of_ble_eq_true rfl) (Nat.le_of_ble_eq_true rfl) ?_
        refine lv_aload_n hx hb dL_law_177 rfl (lv_at hl 3 rfl) ?_
        refine lv_bipush (v := (12 : Int32)) hx hb dL_law_178 (by decide) ?_
        refine lv_iconst (v := (0 : Int32)) hx hb dL_law_180 (by decide) ?_
        refine lv_iconst (v := (0 : Int32)) hx hb dL_law_181 (by decide) ?_
        refine lv_iconst (v := (0 : Int32)) hx hb dL_law_182 (by decide) ?_
        have hFc := frw hD hS hA
        refine vx_calli (SX := Unit) (px := fun _ => False) (BX := fun _ _ _ => True) (AX := A) (vx_runSX0 (vx_runSX (As := [.ref h0, .int (12 : Int32), .int (0 : Int32), .int (0 : Int32), .int (0 : Int32)]) (rest := [.int r_498]) ⟨hx, hb, hml, hown, hts⟩ (c_L_act l hst dC dI cI h0 h0_1 h0_2 h0_3 h0_4 h0_5 h0_6 h0_7 h0_8 h0_9 h0_10 h0_11 h0_12 h0_13 h0_14 h0_15 h0_16 h0_17 h0_18 h0_19 h0_20 h0_21 h0_22 m_499 m_500 h0_25 h0_26 m_501 m_502 h0_29 h0_30 _ u_497 (12 : Int32) (0 : Int32) (0 : Int32) (0 : Int32) _ h) (vx_cwSW 5 hts gB_L_act rfl rfl rfl (by decide +kernel) ⟨Nat.le_of_ble_eq_true rfl, Nat.le_of_ble_eq_true rfl⟩) (pbl_S hP hK hD hN hX hC hFc hS) rfl rfl hl.1 rfl (lv_room (Nat.le_of_ble_eq_true rfl)) dL_law_183 ⟨Nat.le_of_ble_eq_true rfl, Nat.le_of_ble_eq_true rfl⟩)) hS (fun q _ h => hFc q h) hFc (fun q _ h => h) (fun E9 ce9 q9 u t H locs ht hvm h hB hz1 hk1 hS hce hcv hcl => h.elim) (fun r_504 u_503 t H locs ht hvm h hB hz1 hk1 hS => ?_)
        obtain ⟨m_505, m_506, m_507, m_508, hP1, hD1⟩ := hB
        rw [ht] at hP1
        have hP : va_P (dC, dI) vwCl (lwO cI h0 h0_1 h0_2 h0_3 h0_4 h0_5 h0_6 h0_7 h0_8 h0_9 h0_10 h0_11 h0_12 h0_13 h0_14 h0_15 h0_16 h0_17 h0_18 h0_19 h0_20 h0_21 h0_22 m_505 m_506 h0_25 h0_26 m_507 m_508 h0_29 h0_30 u_503) H := hP1
        have hD : va_D A (lwO cI h0 h0_1 h0_2 h0_3 h0_4 h0_5 h0_6 h0_7 h0_8 h0_9 h0_10 h0_11 h0_12 h0_13 h0_14 h0_15 h0_16 h0_17 h0_18 h0_19 h0_20 h0_21 h0_22 m_505 m_506 h0_25 h0_26 m_507 m_508 h0_29 h0_30 u_503) := hD1.weaken (fun _ _ _ h => hFc _ h)
        refine W.widen (k := 6098) (n := 84833) (Nat.le_of_ble_eq_true rfl) (Nat.le_of_ble_eq_true rfl) ?_
        obtain ⟨ht_, hf_⟩ := h
        refine lv_icmp_ne (tgt := 193) hx hb dL_law_186 (by decide) (fun c_509 => ?_) (fun c_509 => ?_)
        · have h := ht_ c_509
          exact (show False from h).elim
        · have h := hf_ c_509
          refine lv_iconst (v := (1 : Int32)) hx hb dL_law_189 (by decide) ?_
          refine lv_goto (tgt := 194) hx hb dL_law_190 (by decide) ?_
          refine va_forget (fun q hq => hAi _ (hS.2.2 q hq)) ?_
          refine W.widen (k := 600130) (n := 7301080) (Nat.le_of_ble_eq_true rfl) (Nat.le_of_ble_eq_true rfl) ?_
          exact lw_ret hx hb hr hlocks dL_law_194
    · have h := hf_ c_482
      exact (show False from h).elim
set_option maxHeartbeats 4000000 in
set_option maxRecDepth 100000 in
theorem sg_L_law_23 (l : Launch) (hst : l.stackTraces = false) {p : Program} {e : Env} {s : State} {m : MethodId} {below : List Frame} {meth : Method} {c : Code} {b L : Nat} {xs : Nat → Int32} (C0 : lw_At p s m meth c b L xs) {dC : Nat → ClassId} {dI : Nat → Nat → Nat} {cI : ClassId} (hK : va_K (dC, dI) vwCl [(cI, .int)] s) (hN : nk s) {A : Nat → Prop} (hX : xj A s) (hC : xnc s) (hA : ∀ q : Nat, s.heap.size ≤ q → A q) (hbA : ¬ A b) (hAi : ∀ q : Nat, A q → s.heap.size ≤ q) (h0 h0_1 h0_2 h0_3 h0_4 h0_5 h0_6 h0_7 h0_8 h0_9 h0_10 h0_11 h0_12 h0_13 h0_14 h0_15 h0_16 h0_17 h0_18 h0_19 h0_20 h0_21 h0_22 h0_25 h0_26 h0_29 h0_30 : Nat) (s0 : TriS) (x0 : Int32) (h : P_L_law_23 s0 x0 L xs) (h0_23 h0_24 h0_27 h0_28 : Nat) (H : Heap) (locs : List Loc) (hP : va_P (dC, dI) vwCl (lwO cI h0 h0_1 h0_2 h0_3 h0_4 h0_5 h0_6 h0_7 h0_8 h0_9 h0_10 h0_11 h0_12 h0_13 h0_14 h0_15 h0_16 h0_17 h0_18 h0_19 h0_20 h0_21 h0_22 h0_23 h0_24 h0_25 h0_26 h0_27 h0_28 h0_29 h0_30 s0) H) (hD : va_D A (lwO cI h0 h0_1 h0_2 h0_3 h0_4 h0_5 h0_6 h0_7 h0_8 h0_9 h0_10 h0_11 h0_12 h0_13 h0_14 h0_15 h0_16 h0_17 h0_18 h0_19 h0_20 h0_21 h0_22 h0_23 h0_24 h0_25 h0_26 h0_27 h0_28 h0_29 h0_30 s0)) (hS : va_S A s.heap H locs) (ls : Array Slot) (hl : lv_has ls 4 [(0, .ref b), (1, .ref h0), (2, .int (22 : Int32))]) : W p l e room_1 s m #[Value.ref b] below meth c H locs 5702 82457 (lw_Z below #[Value.ref b] s) (F0 m 57 ls [.int x0]) := by
  obtain ⟨hx, hb, hr, hml, hown, hts, hXs, hbl, hlocks, hgv⟩ := id C0
  have hts := fun w h => hts w (wsL_law_in w h)
  have hown : s.vm.findClass RL = some m.cls := hown
  refine lv_istore_n (lv' := [(3, .int x0), (0, .ref b), (1, .ref h0), (2, .int (22 : Int32))]) hx hb dL_law_57 rfl hl (by decide) rfl (fun ls hl => ?_)
  refine lv_aload_n hx hb dL_law_58 rfl (lv_at hl 2 rfl) ?_
  refine lv_iconst (v := (0 : Int32)) hx hb dL_law_59 (by decide) ?_
  refine lv_iload_n hx hb dL_law_60 rfl (lv_at hl 0 rfl) ?_
  refine lv_bipush (v := (6 : Int32)) hx hb dL_law_61 (by decide) ?_
  refine lv_irem hx hb dL_law_63 (by decide) ?_
  refine lv_iload_n hx hb dL_law_64 rfl (lv_at hl 0 rfl) ?_
  refine lv_bipush (v := (6 : Int32)) hx hb dL_law_65 (by decide) ?_
  refine lv_idiv hx hb dL_law_67 (by decide) ?_
  refine lv_iconst (v := (4 : Int32)) hx hb dL_law_68 (by decide) ?_
  refine lv_irem hx hb dL_law_69 (by decide) ?_
  refine lv_iload_n hx hb dL_law_70 rfl (lv_at hl 0 rfl) ?_
  refine lv_bipush (v := (24 : Int32)) hx hb dL_law_71 (by decide) ?_
  refine lv_idiv hx hb dL_law_73 (by decide) ?_
  refine lv_bipush (v := (7 : Int32)) hx hb dL_law_74 (by decide) ?_
  refine lv_irem hx hb dL_law_76 (by decide) ?_
  have hFc := frw hD hS hA
  refine vx_calli (SX := Unit) (px := fun _ => False) (BX := fun _ _ _ => True) (AX := A) (vx_runSX0 (vx_runSX (As := [.ref h0, .int (0 : Int32), .int (x0 - x0 / (6 : Int32) * (6 : Int32)), .int ((x0 / (6 : Int32)) - (x0 / (6 : Int32)) / (4 : Int32) * (4 : Int32)), .int ((x0 / (24 : Int32)) - (x0 / (24 : Int32)) / (7 : Int32) * (7 : Int32))]) (rest := []) ⟨hx, hb, hml, hown, hts⟩ (c_L_act l hst dC dI cI h0 h0_1 h0_2 h0_3 h0_4 h0_5 h0_6 h0_7 h0_8 h0_9 h0_10 h0_11 h0_12 h0_13 h0_14 h0_15 h0_16 h0_17 h0_18 h0_19 h0_20 h0_21 h0_22 h0_23 h0_24 h0_25 h0_26 h0_27 h0_28 h0_29 h0_30 _ s0 (0 : Int32) (x0 - x0 / (6 : Int32) * (6 : Int32)) ((x0 / (6 : Int32)) - (x0 / (6 : Int32)) / (4 : Int32) * (4 : Int32)) ((x0 / (24 : Int32)) - (x0 / (24 : Int32)) / (7 : Int32) * (7 : Int32)) _ h) (vx_cwSW 5 hts gB_L_act rfl rfl rfl (by decide +kernel) ⟨Nat.le_of_ble_eq_true rfl, Nat.le_of_ble_eq_true rfl⟩) (pbl_S hP hK hD hN hX hC hFc hS) rfl rfl hl.1 rfl (lv_room (Nat.le_of_ble_eq_true rfl)) dL_law_77 ⟨Nat.le_of_ble_eq_true rfl, Nat.le_of_ble_eq_true rfl⟩)) hS (fun q _ h => hFc q h) hFc (fun q _ h => h) (fun E9 ce9 q9 u t H locs ht hvm h hB hz1 hk1 hS hce hcv hcl => h.elim) (fun r_452 u_451 t H locs ht hvm h hB hz1 hk1 hS => ?_)
  obtain ⟨m_453, m_454, m_455, m_456, hP1, hD1⟩ := hB
  rw [ht] at hP1
  have hP : va_P (dC, dI) vwCl (lwO cI h0 h0_1 h0_2 h0_3 h0_4 h0_5 h0_6 h0_7 h0_8 h0_9 h0_10 h0_11 h0_12 h0_13 h0_14 h0_15 h0_16 h0_17 h0_18 h0_19 h0_20 h0_21 h0_22 m_453 m_454 h0_25 h0_26 m_455 m_456 h0_29 h0_30 u_451) H := hP1
  have hD : va_D A (lwO cI h0 h0_1 h0_2 h0_3 h0_4 h0_5 h0_6 h0_7 h0_8 h0_9 h0_10 h0_11 h0_12 h0_13 h0_14 h0_15 h0_16 h0_17 h0_18 h0_19 h0_20 h0_21 h0_22 m_453 m_454 h0_25 h0_26 m_455 m_456 h0_29 h0_30 u_451) := hD1.weaken (fun _ _ _ h => hFc _ h)
  refine W.widen (k := 5704) (n := 82469) (Nat.le_of_ble_eq_true rfl) (Nat.le_of_ble_eq_true rfl) ?_
  obtain ⟨ht_, hf_⟩ := h
  refine lv_if_lt (tgt := 139) hx hb dL_law_80 (by decide) (fun c_457 => ?_) (fun c_457 => ?_)
  · have h := ht_ c_457
    exact (show False from h).elim
  · have h := hf_ c_457
    refine lv_iload_n hx hb dL_law_83 rfl (lv_at hl 3 rfl) ?_
    refine lv_iconst (v := (4 : Int32)) hx hb dL_law_84 (by decide) ?_
    refine lv_icmp_ge (tgt := 132) hx hb dL_law_85 (by decide) (fun c_458 => ?_) (fun c_458 => absurd c_458 (by decide))
    refine lv_aload_n hx hb dL_law_132 rfl (lv_at hl 2 rfl) ?_
    have hFc := frw hD hS hA
    refine va_calli (va_runS (As := [.ref h0]) (rest := []) ⟨hx, hb, hml, hown, hts⟩ (c_L_refuses l hst dC dI cI h0 h0_1 h0_2 h0_3 h0_4 h0_5 h0_6 h0_7 h0_8 h0_9 h0_10 h0_11 h0_12 h0_13 h0_14 h0_15 h0_16 h0_17 h0_18 h0_19 h0_20 h0_21 h0_22 m_453 m_454 h0_25 h0_26 m_455 m_456 h0_29 h0_30 _ u_451 _ h) (va_cwS 1 hts gB_L_refuses rfl rfl rfl (by decide +kernel) ⟨Nat.le_of_ble_eq_true rfl, Nat.le_of_ble_eq_true rfl⟩) (pbl_S hP hK hD hN hX hC hFc hS) rfl rfl hl.1 rfl (lv_room (Nat.le_of_ble_eq_true rfl)) dL_law_133 ⟨Nat.le_of_ble_eq_true rfl, Nat.le_of_ble_eq_true rfl⟩) hS (fun q _ h => hFc q h) hFc (fun r_460 u_459 t H locs ht hvm h hB hz1 hk1 hS => ?_)
    obtain ⟨m_461, m_462, m_463, m_464, hP1, hD1⟩ := hB
    rw [ht] at hP1
    have hP : va_P (dC, dI) vwCl (lwO cI h0 h0_1 h0_2 h0_3 h0_4 h0_5 h0_6 h0_7 h0_8 h0_9 h0_10 h0_11 h0_12 h0_13 h0_14 h0_15 h0_16 h0_17 h0_18 h0_19 h0_20 h0_21 h0_22 m_461 m_462 h0_25 h0_26 m_463 m_464 h0_29 h0_30 u_459) H := hP1
    have hD : va_D A (lwO cI h0 h0_1 h0_2 h0_3 h0_4 h0_5 h0_6 h0_7 h0_8 h0_9 h0_10 h0_11 h0_12 h0_13 h0_14 h0_15 h0_16 h0_17 h0_18 h0_19 h0_20 h0_21 h0_22 m_461 m_462 h0_25 h0_26 m_463 m_464 h0_29 h0_30 u_459) := hD1.weaken (fun _ _ _ h => hFc _ h)
    refine W.widen (k := 5896) (n := 83621) (Nat.le_of_ble_eq_true rfl) (Nat.le_of_ble_eq_true rfl) ?_
    obtain ⟨ht_, hf_⟩ := h
    refine lv_if_ne (tgt := 141) hx hb dL_law_136 (by decide) (fun c_465 => ?_) (fun c_465 => ?_)
    · have h := ht_ c_465
      refine lv_iinc (v := (23 : Int32)) (lv' := [(2, .int (23 : Int32)), (3, .int x0), (0, .ref b), (1, .ref h0)]) hx hb dL_law_141 hl (k := 3) rfl (by decide) (by decide) rfl (fun ls hl => ?_)
      refine lv_goto (tgt := 30) hx hb dL_law_144 (by decide) ?_
      refine lv_iload_n hx hb dL_law_30 rfl (lv_at hl 0 rfl) ?_
      refine lv_bipush (v := (24 : Int32)) hx hb dL_law_31 (by decide) ?_
      refine lv_icmp_ge (tgt := 147) hx hb dL_law_33 (by decide) (fun c_466 => absurd c_466 (by decide)) (fun c_466 => ?_)
      refine lv_aload_n hx hb dL_law_36 rfl (lv_at hl 2 rfl) ?_
      refine va_slen hx hb hXs hbl hbA hS dL_law_37 ?_
      obtain ⟨ht_, hf_⟩ := h
      refine lv_if_ne (tgt := 48) hx hb dL_law_38 (by decide) (fun c_467 => ?_) (fun c_467 => ?_)
      · have h := ht_ c_467
        have hL0 : ¬ Int32.ofNat L = 0 := c_467
        refine lv_aload_n hx hb dL_law_48 rfl (lv_at hl 2 rfl) ?_
        refine lv_iload_n hx hb dL_law_49 rfl (lv_at hl 0 rfl) ?_
        refine lv_aload_n hx hb dL_law_50 rfl (lv_at hl 2 rfl) ?_
        refine va_slen hx hb hXs hbl hbA hS dL_law_51 ?_
        refine lv_irem hx hb dL_law_52 hL0 ?_
        obtain ⟨hin, h⟩ := h
        refine va_sld hx hb hXs hbl hbA hS hin dL_law_53 ?_
        refine lv_bipush (v := (8 : Int32)) hx hb dL_law_54 (by decide) ?_
        refine lv_iushr (v := (jiushr (xs (((23 : Int32) - (23 : Int32) / (Int32.ofNat L) * (Int32.ofNat L))).toNatClampNeg) (8 : Int32))) hx hb dL_law_56 rfl ?_
        have hl : lv_has ls 4 [(0, .ref b), (1, .ref h0), (2, .int (23 : Int32))] := lv_sub hl [2, 3, 0] rfl
        refine W.widen (k := 5896) (n := 83621) (Nat.le_of_ble_eq_true rfl) (Nat.le_of_ble_eq_true rfl) ?_
        exact sg_L_law_24 l hst C0 hK hN hX hC hA hbA hAi h0 h0_1 h0_2 h0_3 h0_4 h0_5 h0_6 h0_7 h0_8 h0_9 h0_10 h0_11 h0_12 h0_13 h0_14 h0_15 h0_16 h0_17 h0_18 h0_19 h0_20 h0_21 h0_22 h0_25 h0_26 h0_29 h0_30 u_459 (jiushr (xs (((23 : Int32) - (23 : Int32) / (Int32.ofNat L) * (Int32.ofNat L))).toNatClampNeg) (8 : Int32)) h m_461 m_462 m_463 m_464 _ _ hP hD hS _ hl
      · have h := hf_ c_467
        refine lv_bipush (v := (31 : Int32)) hx hb dL_law_41 (by decide) ?_
        refine lv_iload_n hx hb dL_law_43 rfl (lv_at hl 0 rfl) ?_
        refine lv_imul hx hb dL_law_44 ?_
        refine lv_lit (b := (713 : Int32)) (by decide) ?_
        refine lv_goto (tgt := 57) hx hb dL_law_45 (by decide) ?_
        have hl : lv_has ls 4 [(0, .ref b), (1, .ref h0), (2, .int (23 : Int32))] := lv_sub hl [2, 3, 0] rfl
        refine W.widen (k := 5896) (n := 83621) (Nat.le_of_ble_eq_true rfl) (Nat.le_of_ble_eq_true rfl) ?_
        exact sg_L_law_24 l hst C0 hK hN hX hC hA hbA hAi h0 h0_1 h0_2 h0_3 h0_4 h0_5 h0_6 h0_7 h0_8 h0_9 h0_10 h0_11 h0_12 h0_13 h0_14 h0_15 h0_16 h0_17 h0_18 h0_19 h0_20 h0_21 h0_22 h0_25 h0_26 h0_29 h0_30 u_459 (713 : Int32) h m_461 m_462 m_463 m_464 _ _ hP hD hS _ hl
    · have h := hf_ c_465
      exact (show False from h).elim
set_option maxHeartbeats 4000000 in
set_option maxRecDepth 100000 in
theorem sg_L_law_22 (l : Launch) (hst : l.stackTraces = false) {p : Program} {e : Env} {s : State} {m : MethodId} {below : List Frame} {meth : Method} {c : Code} {b L : Nat} {xs : Nat → Int32} (C0 : lw_At p s m meth c b L xs) {dC : Nat → ClassId} {dI : Nat → Nat → Nat} {cI : ClassId} (hK : va_K (dC, dI) vwCl [(cI, .int)] s) (hN : nk s) {A : Nat → Prop} (hX : xj A s) (hC : xnc s) (hA : ∀ q : Nat, s.heap.size ≤ q → A q) (hbA : ¬ A b) (hAi : ∀ q : Nat, A q → s.heap.size ≤ q) (h0 h0_1 h0_2 h0_3 h0_4 h0_5 h0_6 h0_7 h0_8 h0_9 h0_10 h0_11 h0_12 h0_13 h0_14 h0_15 h0_16 h0_17 h0_18 h0_19 h0_20 h0_21 h0_22 h0_25 h0_26 h0_29 h0_30 : Nat) (s0 : TriS) (x0 : Int32) (h : P_L_law_22 s0 x0 L xs) (h0_23 h0_24 h0_27 h0_28 : Nat) (H : Heap) (locs : List Loc) (hP : va_P (dC, dI) vwCl (lwO cI h0 h0_1 h0_2 h0_3 h0_4 h0_5 h0_6 h0_7 h0_8 h0_9 h0_10 h0_11 h0_12 h0_13 h0_14 h0_15 h0_16 h0_17 h0_18 h0_19 h0_20 h0_21 h0_22 h0_23 h0_24 h0_25 h0_26 h0_27 h0_28 h0_29 h0_30 s0) H) (hD : va_D A (lwO cI h0 h0_1 h0_2 h0_3 h0_4 h0_5 h0_6 h0_7 h0_8 h0_9 h0_10 h0_11 h0_12 h0_13 h0_14 h0_15 h0_16 h0_17 h0_18 h0_19 h0_20 h0_21 h0_22 h0_23 h0_24 h0_25 h0_26 h0_27 h0_28 h0_29 h0_30 s0)) (hS : va_S A s.heap H locs) (ls : Array Slot) (hl : lv_has ls 4 [(0, .ref b), (1, .ref h0), (2, .int (21 : Int32))]) : W p l e room_1 s m #[Value.ref b] below meth c H locs 5508 81293 (lw_Z below #[Value.ref b] s) (F0 m 57 ls [.int x0]) := by
  obtain ⟨hx, hb, hr, hml, hown, hts, hXs, hbl, hlocks, hgv⟩ := id C0
  have hts := fun w h => hts w (wsL_law_in w h)
  have hown : s.vm.findClass RL = some m.cls := hown
  refine lv_istore_n (lv' := [(3, .int x0), (0, .ref b), (1, .ref h0), (2, .int (21 : Int32))]) hx hb dL_law_57 rfl hl (by decide) rfl (fun ls hl => ?_)
  refine lv_aload_n hx hb dL_law_58 rfl (lv_at hl 2 rfl) ?_
  refine lv_iconst (v := (0 : Int32)) hx hb dL_law_59 (by decide) ?_
  refine lv_iload_n hx hb dL_law_60 rfl (lv_at hl 0 rfl) ?_
  refine lv_bipush (v := (6 : Int32)) hx hb dL_law_61 (by decide) ?_
  refine lv_irem hx hb dL_law_63 (by decide) ?_
  refine lv_iload_n hx hb dL_law_64 rfl (lv_at hl 0 rfl) ?_
  refine lv_bipush (v := (6 : Int32)) hx hb dL_law_65 (by decide) ?_
  refine lv_idiv hx hb dL_law_67 (by decide) ?_
  refine lv_iconst (v := (4 : Int32)) hx hb dL_law_68 (by decide) ?_
  refine lv_irem hx hb dL_law_69 (by decide) ?_
  refine lv_iload_n hx hb dL_law_70 rfl (lv_at hl 0 rfl) ?_
  refine lv_bipush (v := (24 : Int32)) hx hb dL_law_71 (by decide) ?_
  refine lv_idiv hx hb dL_law_73 (by decide) ?_
  refine lv_bipush (v := (7 : Int32)) hx hb dL_law_74 (by decide) ?_
  refine lv_irem hx hb dL_law_76 (by decide) ?_
  have hFc := frw hD hS hA
  refine vx_calli (SX := Unit) (px := fun _ => False) (BX := fun _ _ _ => True) (AX := A) (vx_runSX0 (vx_runSX (As := [.ref h0, .int (0 : Int32), .int (x0 - x0 / (6 : Int32) * (6 : Int32)), .int ((x0 / (6 : Int32)) - (x0 / (6 : Int32)) / (4 : Int32) * (4 : Int32)), .int ((x0 / (24 : Int32)) - (x0 / (24 : Int32)) / (7 : Int32) * (7 : Int32))]) (rest := []) ⟨hx, hb, hml, hown, hts⟩ (c_L_act l hst dC dI cI h0 h0_1 h0_2 h0_3 h0_4 h0_5 h0_6 h0_7 h0_8 h0_9 h0_10 h0_11 h0_12 h0_13 h0_14 h0_15 h0_16 h0_17 h0_18 h0_19 h0_20 h0_21 h0_22 h0_23 h0_24 h0_25 h0_26 h0_27 h0_28 h0_29 h0_30 _ s0 (0 : Int32) (x0 - x0 / (6 : Int32) * (6 : Int32)) ((x0 / (6 : Int32)) - (x0 / (6 : Int32)) / (4 : Int32) * (4 : Int32)) ((x0 / (24 : Int32)) - (x0 / (24 : Int32)) / (7 : Int32) * (7 : Int32)) _ h) (vx_cwSW 5 hts gB_L_act rfl rfl rfl (by decide +kernel) ⟨Nat.le_of_ble_eq_true rfl, Nat.le_of_ble_eq_true rfl⟩) (pbl_S hP hK hD hN hX hC hFc hS) rfl rfl hl.1 rfl (lv_room (Nat.le_of_ble_eq_true rfl)) dL_law_77 ⟨Nat.le_of_ble_eq_true rfl, Nat.le_of_ble_eq_true rfl⟩)) hS (fun q _ h => hFc q h) hFc (fun q _ h => h) (fun E9 ce9 q9 u t H locs ht hvm h hB hz1 hk1 hS hce hcv hcl => h.elim) (fun r_435 u_434 t H locs ht hvm h hB hz1 hk1 hS => ?_)
  obtain ⟨m_436, m_437, m_438, m_439, hP1, hD1⟩ := hB
  rw [ht] at hP1
  have hP : va_P (dC, dI) vwCl (lwO cI h0 h0_1 h0_2 h0_3 h0_4 h0_5 h0_6 h0_7 h0_8 h0_9 h0_10 h0_11 h0_12 h0_13 h0_14 h0_15 h0_16 h0_17 h0_18 h0_19 h0_20 h0_21 h0_22 m_436 m_437 h0_25 h0_26 m_438 m_439 h0_29 h0_30 u_434) H := hP1
  have hD : va_D A (lwO cI h0 h0_1 h0_2 h0_3 h0_4 h0_5 h0_6 h0_7 h0_8 h0_9 h0_10 h0_11 h0_12 h0_13 h0_14 h0_15 h0_16 h0_17 h0_18 h0_19 h0_20 h0_21 h0_22 m_436 m_437 h0_25 h0_26 m_438 m_439 h0_29 h0_30 u_434) := hD1.weaken (fun _ _ _ h => hFc _ h)
  refine W.widen (k := 5510) (n := 81305) (Nat.le_of_ble_eq_true rfl) (Nat.le_of_ble_eq_true rfl) ?_
  obtain ⟨ht_, hf_⟩ := h
  refine lv_if_lt (tgt := 139) hx hb dL_law_80 (by decide) (fun c_440 => ?_) (fun c_440 => ?_)
  · have h := ht_ c_440
    exact (show False from h).elim
  · have h := hf_ c_440
    refine lv_iload_n hx hb dL_law_83 rfl (lv_at hl 3 rfl) ?_
    refine lv_iconst (v := (4 : Int32)) hx hb dL_law_84 (by decide) ?_
    refine lv_icmp_ge (tgt := 132) hx hb dL_law_85 (by decide) (fun c_441 => ?_) (fun c_441 => absurd c_441 (by decide))
    refine lv_aload_n hx hb dL_law_132 rfl (lv_at hl 2 rfl) ?_
    have hFc := frw hD hS hA
    refine va_calli (va_runS (As := [.ref h0]) (rest := []) ⟨hx, hb, hml, hown, hts⟩ (c_L_refuses l hst dC dI cI h0 h0_1 h0_2 h0_3 h0_4 h0_5 h0_6 h0_7 h0_8 h0_9 h0_10 h0_11 h0_12 h0_13 h0_14 h0_15 h0_16 h0_17 h0_18 h0_19 h0_20 h0_21 h0_22 m_436 m_437 h0_25 h0_26 m_438 m_439 h0_29 h0_30 _ u_434 _ h) (va_cwS 1 hts gB_L_refuses rfl rfl rfl (by decide +kernel) ⟨Nat.le_of_ble_eq_true rfl, Nat.le_of_ble_eq_true rfl⟩) (pbl_S hP hK hD hN hX hC hFc hS) rfl rfl hl.1 rfl (lv_room (Nat.le_of_ble_eq_true rfl)) dL_law_133 ⟨Nat.le_of_ble_eq_true rfl, Nat.le_of_ble_eq_true rfl⟩) hS (fun q _ h => hFc q h) hFc (fun r_443 u_442 t H locs ht hvm h hB hz1 hk1 hS => ?_)
    obtain ⟨m_444, m_445, m_446, m_447, hP1, hD1⟩ := hB
    rw [ht] at hP1
    have hP : va_P (dC, dI) vwCl (lwO cI h0 h0_1 h0_2 h0_3 h0_4 h0_5 h0_6 h0_7 h0_8 h0_9 h0_10 h0_11 h0_12 h0_13 h0_14 h0_15 h0_16 h0_17 h0_18 h0_19 h0_20 h0_21 h0_22 m_444 m_445 h0_25 h0_26 m_446 m_447 h0_29 h0_30 u_442) H := hP1
    have hD : va_D A (lwO cI h0 h0_1 h0_2 h0_3 h0_4 h0_5 h0_6 h0_7 h0_8 h0_9 h0_10 h0_11 h0_12 h0_13 h0_14 h0_15 h0_16 h0_17 h0_18 h0_19 h0_20 h0_21 h0_22 m_444 m_445 h0_25 h0_26 m_446 m_447 h0_29 h0_30 u_442) := hD1.weaken (fun _ _ _ h => hFc _ h)
    refine W.widen (k := 5702) (n := 82457) (Nat.le_of_ble_eq_true rfl) (Nat.le_of_ble_eq_true rfl) ?_
    obtain ⟨ht_, hf_⟩ := h
    refine lv_if_ne (tgt := 141) hx hb dL_law_136 (by decide) (fun c_448 => ?_) (fun c_448 => ?_)
    · have h := ht_ c_448
      refine lv_iinc (v := (22 : Int32)) (lv' := [(2, .int (22 : Int32)), (3, .int x0), (0, .ref b), (1, .ref h0)]) hx hb dL_law_141 hl (k := 3) rfl (by decide) (by decide) rfl (fun ls hl => ?_)
      refine lv_goto (tgt := 30) hx hb dL_law_144 (by decide) ?_
      refine lv_iload_n hx hb dL_law_30 rfl (lv_at hl 0 rfl) ?_
      refine lv_bipush (v := (24 : Int32)) hx hb dL_law_31 (by decide) ?_
      refine lv_icmp_ge (tgt := 147) hx hb dL_law_33 (by decide) (fun c_449 => absurd c_449 (by decide)) (fun c_449 => ?_)
      refine lv_aload_n hx hb dL_law_36 rfl (lv_at hl 2 rfl) ?_
      refine va_slen hx hb hXs hbl hbA hS dL_law_37 ?_
      obtain ⟨ht_, hf_⟩ := h
      refine lv_if_ne (tgt := 48) hx hb dL_law_38 (by decide) (fun c_450 => ?_) (fun c_450 => ?_)
      · have h := ht_ c_450
        have hL0 : ¬ Int32.ofNat L = 0 := c_450
        refine lv_aload_n hx hb dL_law_48 rfl (lv_at hl 2 rfl) ?_
        refine lv_iload_n hx hb dL_law_49 rfl (lv_at hl 0 rfl) ?_
        refine lv_aload_n hx hb dL_law_50 rfl (lv_at hl 2 rfl) ?_
        refine va_slen hx hb hXs hbl hbA hS dL_law_51 ?_
        refine lv_irem hx hb dL_law_52 hL0 ?_
        obtain ⟨hin, h⟩ := h
        refine va_sld hx hb hXs hbl hbA hS hin dL_law_53 ?_
        refine lv_bipush (v := (8 : Int32)) hx hb dL_law_54 (by decide) ?_
        refine lv_iushr (v := (jiushr (xs (((22 : Int32) - (22 : Int32) / (Int32.ofNat L) * (Int32.ofNat L))).toNatClampNeg) (8 : Int32))) hx hb dL_law_56 rfl ?_
        have hl : lv_has ls 4 [(0, .ref b), (1, .ref h0), (2, .int (22 : Int32))] := lv_sub hl [2, 3, 0] rfl
        refine W.widen (k := 5702) (n := 82457) (Nat.le_of_ble_eq_true rfl) (Nat.le_of_ble_eq_true rfl) ?_
        exact sg_L_law_23 l hst C0 hK hN hX hC hA hbA hAi h0 h0_1 h0_2 h0_3 h0_4 h0_5 h0_6 h0_7 h0_8 h0_9 h0_10 h0_11 h0_12 h0_13 h0_14 h0_15 h0_16 h0_17 h0_18 h0_19 h0_20 h0_21 h0_22 h0_25 h0_26 h0_29 h0_30 u_442 (jiushr (xs (((22 : Int32) - (22 : Int32) / (Int32.ofNat L) * (Int32.ofNat L))).toNatClampNeg) (8 : Int32)) h m_444 m_445 m_446 m_447 _ _ hP hD hS _ hl
      · have h := hf_ c_450
        refine lv_bipush (v := (31 : Int32)) hx hb dL_law_41 (by decide) ?_
        refine lv_iload_n hx hb dL_law_43 rfl (lv_at hl 0 rfl) ?_
        refine lv_imul hx hb dL_law_44 ?_
        refine lv_lit (b := (682 : Int32)) (by decide) ?_
        refine lv_goto (tgt := 57) hx hb dL_law_45 (by decide) ?_
        have hl : lv_has ls 4 [(0, .ref b), (1, .ref h0), (2, .int (22 : Int32))] := lv_sub hl [2, 3, 0] rfl
        refine W.widen (k := 5702) (n := 82457) (Nat.le_of_ble_eq_true rfl) (Nat.le_of_ble_eq_true rfl) ?_
        exact sg_L_law_23 l hst C0 hK hN hX hC hA hbA hAi h0 h0_1 h0_2 h0_3 h0_4 h0_5 h0_6 h0_7 h0_8 h0_9 h0_10 h0_11 h0_12 h0_13 h0_14 h0_15 h0_16 h0_17 h0_18 h0_19 h0_20 h0_21 h0_22 h0_25 h0_26 h0_29 h0_30 u_442 (682 : Int32) h m_444 m_445 m_446 m_447 _ _ hP hD hS _ hl
    · have h := hf_ c_448
      exact (show False from h).elim
