set_option maxHeartbeats 4000000 in
set_option maxRecDepth 100000 in
theorem sg_L_law_3 (l : Launch) (hst : l.stackTraces = false) {p : Program} {e : Env} {s : State} {m : MethodId} {below : List Frame} {meth : Method} {c : Code} {b L : Nat} {xs : Nat → Int32} (C0 : lw_At p s m meth c b L xs) {dC : Nat → ClassId} {dI : Nat → Nat → Nat} {cI : ClassId} (hK : va_K (dC, dI) vwCl [(cI, .int)] s) (hN : nk s) {A : Nat → Prop} (hX : xj A s) (hC : xnc s) (hA : ∀ q : Nat, s.heap.size ≤ q → A q) (hbA : ¬ A b) (hAi : ∀ q : Nat, A q → s.heap.size ≤ q) (h0 h0_1 h0_2 h0_3 h0_4 h0_5 h0_6 h0_7 h0_8 h0_9 h0_10 h0_11 h0_12 h0_13 h0_14 h0_15 h0_16 h0_17 h0_18 h0_19 h0_20 h0_21 h0_22 h0_25 h0_26 h0_29 h0_30 : Nat) (s0 : TriS) (x0 : Int32) (h : P_L_law_3 s0 x0 L xs) (h0_23 h0_24 h0_27 h0_28 : Nat) (H : Heap) (locs : List Loc) (hP : va_P (dC, dI) vwCl (lwO cI h0 h0_1 h0_2 h0_3 h0_4 h0_5 h0_6 h0_7 h0_8 h0_9 h0_10 h0_11 h0_12 h0_13 h0_14 h0_15 h0_16 h0_17 h0_18 h0_19 h0_20 h0_21 h0_22 h0_23 h0_24 h0_25 h0_26 h0_27 h0_28 h0_29 h0_30 s0) H) (hD : va_D A (lwO cI h0 h0_1 h0_2 h0_3 h0_4 h0_5 h0_6 h0_7 h0_8 h0_9 h0_10 h0_11 h0_12 h0_13 h0_14 h0_15 h0_16 h0_17 h0_18 h0_19 h0_20 h0_21 h0_22 h0_23 h0_24 h0_25 h0_26 h0_27 h0_28 h0_29 h0_30 s0)) (hS : va_S A s.heap H locs) (ls : Array Slot) (hl : lv_has ls 4 [(0, .ref b), (1, .ref h0), (2, .int (2 : Int32))]) : W p l e room_1 s m #[Value.ref b] below meth c H locs 1818 59153 (lw_Z below #[Value.ref b] s) (F0 m 57 ls [.int x0]) := by
  obtain ⟨hx, hb, hr, hml, hown, hts, hXs, hbl, hlocks, hgv⟩ := id C0
  have hts := fun w h => hts w (wsL_law_in w h)
  have hown : s.vm.findClass RL = some m.cls := hown
  refine lv_istore_n (lv' := [(3, .int x0), (0, .ref b), (1, .ref h0), (2, .int (2 : Int32))]) hx hb dL_law_57 rfl hl (by decide) rfl (fun ls hl => ?_)
  refine lv_aload_n hx hb dL_law_58 rfl (lv_at hl 2 rfl) ?_
  refine lv_iconst (v := (0 : Int32)) hx hb dL_law_59 (by decide) ?_
  refine lv_iload_n hx hb dL_law_60 rfl (lv_at hl 0 rfl) ?_
  refine lv_bipush (v := (6 : Int32)) hx hb dL_law_61 (by decide) ?_
  refine lv_irem hx hb dL_law_63 (by decide) ?_
  refine lv_iload_n hx hb dL_law_64 rfl (lv_at hl 0 rfl) ?_
  refine lv_bipush (v := (6 : Int32)) hx hb dL_law_65 (by decide) ?_
  refine lv_idiv hx hb dL_law_67 (by decide) ?_
  refine lv_iconst (v := (4 : Int32)) hx hb dL_law_68 (by decide) ?_
  refine lv_irem hx hb dL_law_69 (by decide) ?_
  refine lv_iload_n hx hb dL_law_70 rfl (lv_at hl 0 rfl) ?_
  refine lv_bipush (v := (24 : Int32)) hx hb dL_law_71 (by decide) ?_
  refine lv_idiv hx hb dL_law_73 (by decide) ?_
  refine lv_bipush (v := (7 : Int32)) hx hb dL_law_74 (by decide) ?_
  refine lv_irem hx hb dL_law_76 (by decide) ?_
  have hFc := frw hD hS hA
  refine vx_calli (SX := Unit) (px := fun _ => False) (BX := fun _ _ _ => True) (AX := A) (vx_runSX0 (vx_runSX (As := [.ref h0, .int (0 : Int32), .int (x0 - x0 / (6 : Int32) * (6 : Int32)), .int ((x0 / (6 : Int32)) - (x0 / (6 : Int32)) / (4 : Int32) * (4 : Int32)), .int ((x0 / (24 : Int32)) - (x0 / (24 : Int32)) / (7 : Int32) * (7 : Int32))]) (rest := []) ⟨hx, hb, hml, hown, hts⟩ (c_L_act l hst dC dI cI h0 h0_1 h0_2 h0_3 h0_4 h0_5 h0_6 h0_7 h0_8 h0_9 h0_10 h0_11 h0_12 h0_13 h0_14 h0_15 h0_16 h0_17 h0_18 h0_19 h0_20 h0_21 h0_22 h0_23 h0_24 h0_25 h0_26 h0_27 h0_28 h0_29 h0_30 _ s0 (0 : Int32) (x0 - x0 / (6 : Int32) * (6 : Int32)) ((x0 / (6 : Int32)) - (x0 / (6 : Int32)) / (4 : Int32) * (4 : Int32)) ((x0 / (24 : Int32)) - (x0 / (24 : Int32)) / (7 : Int32) * (7 : Int32)) _ h) (vx_cwSW 5 hts gB_L_act rfl rfl rfl (by decide +kernel) ⟨Nat.le_of_ble_eq_true rfl, Nat.le_of_ble_eq_true rfl⟩) (pbl_S hP hK hD hN hX hC hFc hS) rfl rfl hl.1 rfl (lv_room (Nat.le_of_ble_eq_true rfl)) dL_law_77 ⟨Nat.le_of_ble_eq_true rfl, Nat.le_of_ble_eq_true rfl⟩)) hS (fun q _ h => hFc q h) hFc (fun q _ h => h) (fun E9 ce9 q9 u t H locs ht hvm h hB hz1 hk1 hS hce hcv hcl => h.elim) (fun r_96 u_95 t H locs ht hvm h hB hz1 hk1 hS => ?_)
  obtain ⟨m_97, m_98, m_99, m_100, hP1, hD1⟩ := hB
  rw [ht] at hP1
  have hP : va_P (dC, dI) vwCl (lwO cI h0 h0_1 h0_2 h0_3 h0_4 h0_5 h0_6 h0_7 h0_8 h0_9 h0_10 h0_11 h0_12 h0_13 h0_14 h0_15 h0_16 h0_17 h0_18 h0_19 h0_20 h0_21 h0_22 m_97 m_98 h0_25 h0_26 m_99 m_100 h0_29 h0_30 u_95) H := hP1
  have hD : va_D A (lwO cI h0 h0_1 h0_2 h0_3 h0_4 h0_5 h0_6 h0_7 h0_8 h0_9 h0_10 h0_11 h0_12 h0_13 h0_14 h0_15 h0_16 h0_17 h0_18 h0_19 h0_20 h0_21 h0_22 m_97 m_98 h0_25 h0_26 m_99 m_100 h0_29 h0_30 u_95) := hD1.weaken (fun _ _ _ h => hFc _ h)
  refine W.widen (k := 1820) (n := 59165) (Nat.le_of_ble_eq_true rfl) (Nat.le_of_ble_eq_true rfl) ?_
  obtain ⟨ht_, hf_⟩ := h
  refine lv_if_lt (tgt := 139) hx hb dL_law_80 (by decide) (fun c_101 => ?_) (fun c_101 => ?_)
  · have h := ht_ c_101
    exact (show False from h).elim
  · have h := hf_ c_101
    refine lv_iload_n hx hb dL_law_83 rfl (lv_at hl 3 rfl) ?_
    refine lv_iconst (v := (4 : Int32)) hx hb dL_law_84 (by decide) ?_
    refine lv_icmp_ge (tgt := 132) hx hb dL_law_85 (by decide) (fun c_102 => absurd c_102 (by decide)) (fun c_102 => ?_)
    refine lv_aload_n hx hb dL_law_88 rfl (lv_at hl 2 rfl) ?_
    refine lv_bipush (v := (7 : Int32)) hx hb dL_law_89 (by decide) ?_
    refine lv_iload_n hx hb dL_law_91 rfl (lv_at hl 0 rfl) ?_
    refine lv_bipush (v := (10 : Int32)) hx hb dL_law_92 (by decide) ?_
    refine lv_irem hx hb dL_law_94 (by decide) ?_
    refine lv_iconst (v := (4 : Int32)) hx hb dL_law_95 (by decide) ?_
    refine lv_isub hx hb dL_law_96 ?_
    refine lv_iload_n hx hb dL_law_97 rfl (lv_at hl 0 rfl) ?_
    refine lv_bipush (v := (10 : Int32)) hx hb dL_law_98 (by decide) ?_
    refine lv_idiv hx hb dL_law_100 (by decide) ?_
    refine lv_bipush (v := (9 : Int32)) hx hb dL_law_101 (by decide) ?_
    refine lv_irem hx hb dL_law_103 (by decide) ?_
    refine lv_iconst (v := (4 : Int32)) hx hb dL_law_104 (by decide) ?_
    refine lv_isub hx hb dL_law_105 ?_
    refine lv_iload_n hx hb dL_law_106 rfl (lv_at hl 0 rfl) ?_
    refine lv_bipush (v := (90 : Int32)) hx hb dL_law_107 (by decide) ?_
    refine lv_idiv hx hb dL_law_109 (by decide) ?_
    refine lv_bipush (v := (12 : Int32)) hx hb dL_law_110 (by decide) ?_
    refine lv_irem hx hb dL_law_112 (by decide) ?_
    refine lv_iconst (v := (4 : Int32)) hx hb dL_law_113 (by decide) ?_
    refine lv_isub hx hb dL_law_114 ?_
    have hFc := frw hD hS hA
    refine vx_calli (SX := Unit) (px := fun _ => False) (BX := fun _ _ _ => True) (AX := A) (vx_runSX0 (vx_runSX (As := [.ref h0, .int (7 : Int32), .int ((x0 - x0 / (10 : Int32) * (10 : Int32)) - (4 : Int32)), .int (((x0 / (10 : Int32)) - (x0 / (10 : Int32)) / (9 : Int32) * (9 : Int32)) - (4 : Int32)), .int (((x0 / (90 : Int32)) - (x0 / (90 : Int32)) / (12 : Int32) * (12 : Int32)) - (4 : Int32))]) (rest := []) ⟨hx, hb, hml, hown, hts⟩ (c_L_act l hst dC dI cI h0 h0_1 h0_2 h0_3 h0_4 h0_5 h0_6 h0_7 h0_8 h0_9 h0_10 h0_11 h0_12 h0_13 h0_14 h0_15 h0_16 h0_17 h0_18 h0_19 h0_20 h0_21 h0_22 m_97 m_98 h0_25 h0_26 m_99 m_100 h0_29 h0_30 _ u_95 (7 : Int32) ((x0 - x0 / (10 : Int32) * (10 : Int32)) - (4 : Int32)) (((x0 / (10 : Int32)) - (x0 / (10 : Int32)) / (9 : Int32) * (9 : Int32)) - (4 : Int32)) (((x0 / (90 : Int32)) - (x0 / (90 : Int32)) / (12 : Int32) * (12 : Int32)) - (4 : Int32)) _ h) (vx_cwSW 5 hts gB_L_act rfl rfl rfl (by decide +kernel) ⟨Nat.le_of_ble_eq_true rfl, Nat.le_of_ble_eq_true rfl⟩) (pbl_S hP hK hD hN hX hC hFc hS) rfl rfl hl.1 rfl (lv_room (Nat.le_of_ble_eq_true rfl)) dL_law_115 ⟨Nat.le_of_ble_eq_true rfl, Nat.le_of_ble_eq_true rfl⟩)) hS (fun q _ h => hFc q h) hFc (fun q _ h => h) (fun E9 ce9 q9 u t H locs ht hvm h hB hz1 hk1 hS hce hcv hcl => h.elim) (fun r_104 u_103 t H locs ht hvm h hB hz1 hk1 hS => ?_)
    obtain ⟨m_105, m_106, m_107, m_108, hP1, hD1⟩ := hB
    rw [ht] at hP1
    have hP : va_P (dC, dI) vwCl (lwO cI h0 h0_1 h0_2 h0_3 h0_4 h0_5 h0_6 h0_7 h0_8 h0_9 h0_10 h0_11 h0_12 h0_13 h0_14 h0_15 h0_16 h0_17 h0_18 h0_19 h0_20 h0_21 h0_22 m_105 m_106 h0_25 h0_26 m_107 m_108 h0_29 h0_30 u_103) H := hP1
    have hD : va_D A (lwO cI h0 h0_1 h0_2 h0_3 h0_4 h0_5 h0_6 h0_7 h0_8 h0_9 h0_10 h0_11 h0_12 h0_13 h0_14 h0_15 h0_16 h0_17 h0_18 h0_19 h0_20 h0_21 h0_22 m_105 m_106 h0_25 h0_26 m_107 m_108 h0_29 h0_30 u_103) := hD1.weaken (fun _ _ _ h => hFc _ h)
    refine W.widen (k := 1822) (n := 59177) (Nat.le_of_ble_eq_true rfl) (Nat.le_of_ble_eq_true rfl) ?_
    refine lv_iload_n hx hb dL_law_118 rfl (lv_at hl 3 rfl) ?_
    refine lv_iconst (v := (3 : Int32)) hx hb dL_law_119 (by decide) ?_
    refine lv_icmp_ge (tgt := 127) hx hb dL_law_120 (by decide) (fun c_109 => absurd c_109 (by decide)) (fun c_109 => ?_)
    refine lv_iload_n hx hb dL_law_123 rfl (lv_at hl 3 rfl) ?_
    refine lv_goto (tgt := 129) hx hb dL_law_124 (by decide) ?_
    obtain ⟨ht_, hf_⟩ := h
    refine lv_icmp_ne (tgt := 139) hx hb dL_law_129 (by decide) (fun c_110 => ?_) (fun c_110 => ?_)
    · have h := ht_ c_110
      exact (show False from h).elim
    · have h := hf_ c_110
      refine lv_aload_n hx hb dL_law_132 rfl (lv_at hl 2 rfl) ?_
      have hFc := frw hD hS hA
      refine va_calli (va_runS (As := [.ref h0]) (rest := []) ⟨hx, hb, hml, hown, hts⟩ (c_L_refuses l hst dC dI cI h0 h0_1 h0_2 h0_3 h0_4 h0_5 h0_6 h0_7 h0_8 h0_9 h0_10 h0_11 h0_12 h0_13 h0_14 h0_15 h0_16 h0_17 h0_18 h0_19 h0_20 h0_21 h0_22 m_105 m_106 h0_25 h0_26 m_107 m_108 h0_29 h0_30 _ u_103 _ h) (va_cwS 1 hts gB_L_refuses rfl rfl rfl (by decide +kernel) ⟨Nat.le_of_ble_eq_true rfl, Nat.le_of_ble_eq_true rfl⟩) (pbl_S hP hK hD hN hX hC hFc hS) rfl rfl hl.1 rfl (lv_room (Nat.le_of_ble_eq_true rfl)) dL_law_133 ⟨Nat.le_of_ble_eq_true rfl, Nat.le_of_ble_eq_true rfl⟩) hS (fun q _ h => hFc q h) hFc (fun r_112 u_111 t H locs ht hvm h hB hz1 hk1 hS => ?_)
      obtain ⟨m_113, m_114, m_115, m_116, hP1, hD1⟩ := hB
      rw [ht] at hP1
      have hP : va_P (dC, dI) vwCl (lwO cI h0 h0_1 h0_2 h0_3 h0_4 h0_5 h0_6 h0_7 h0_8 h0_9 h0_10 h0_11 h0_12 h0_13 h0_14 h0_15 h0_16 h0_17 h0_18 h0_19 h0_20 h0_21 h0_22 m_113 m_114 h0_25 h0_26 m_115 m_116 h0_29 h0_30 u_111) H := hP1
      have hD : va_D A (lwO cI h0 h0_1 h0_2 h0_3 h0_4 h0_5 h0_6 h0_7 h0_8 h0_9 h0_10 h0_11 h0_12 h0_13 h0_14 h0_15 h0_16 h0_17 h0_18 h0_19 h0_20 h0_21 h0_22 m_113 m_114 h0_25 h0_26 m_115 m_116 h0_29 h0_30 u_111) := hD1.weaken (fun _ _ _ h => hFc _ h)
      refine W.widen (k := 2014) (n := 60329) (Nat.le_of_ble_eq_true rfl) (Nat.le_of_ble_eq_true rfl) ?_
      obtain ⟨ht_, hf_⟩ := h
      refine lv_if_ne (tgt := 141) hx hb dL_law_136 (by decide) (fun c_117 => ?_) (fun c_117 => ?_)
      · have h := ht_ c_117
        refine lv_iinc (v := (3 : Int32)) (lv' := [(2, .int (3 : Int32)), (3, .int x0), (0, .ref b), (1, .ref h0)]) hx hb dL_law_141 hl (k := 3) rfl (by decide) (by decide) rfl (fun ls hl => ?_)
        refine lv_goto (tgt := 30) hx hb dL_law_144 (by decide) ?_
        refine lv_iload_n hx hb dL_law_30 rfl (lv_at hl 0 rfl) ?_
        refine lv_bipush (v := (24 : Int32)) hx hb dL_law_31 (by decide) ?_
        refine lv_icmp_ge (tgt := 147) hx hb dL_law_33 (by decide) (fun c_118 => absurd c_118 (by decide)) (fun c_118 => ?_)
        refine lv_aload_n hx hb dL_law_36 rfl (lv_at hl 2 rfl) ?_
        refine va_slen hx hb hXs hbl hbA hS dL_law_37 ?_
        obtain ⟨ht_, hf_⟩ := h
        refine lv_if_ne (tgt := 48) hx hb dL_law_38 (by decide) (fun c_119 => ?_) (fun c_119 => ?_)
        · have h := ht_ c_119
          have hL0 : ¬ Int32.ofNat L = 0 := c_119
          refine lv_aload_n hx hb dL_law_48 rfl (lv_at hl 2 rfl) ?_
          refine lv_iload_n hx hb dL_law_49 rfl (lv_at hl 0 rfl) ?_
          refine lv_aload_n hx hb dL_law_50 rfl (lv_at hl 2 rfl) ?_
          refine va_slen hx hb hXs hbl hbA hS dL_law_51 ?_
          refine lv_irem hx hb dL_law_52 hL0 ?_
          obtain ⟨hin, h⟩ := h
          refine va_sld hx hb hXs hbl hbA hS hin dL_law_53 ?_
          refine lv_bipush (v := (8 : Int32)) hx hb dL_law_54 (by decide) ?_
          refine lv_iushr (v := (jiushr (xs (((3 : Int32) - (3 : Int32) / (Int32.ofNat L) * (Int32.ofNat L))).toNatClampNeg) (8 : Int32))) hx hb dL_law_56 rfl ?_
          have hl : lv_has ls 4 [(0, .ref b), (1, .ref h0), (2, .int (3 : Int32))] := lv_sub hl [2, 3, 0] rfl
          refine W.widen (k := 2014) (n := 60329) (Nat.le_of_ble_eq_true rfl) (Nat.le_of_ble_eq_true rfl) ?_
          exact sg_L_law_4 l hst C0 hK hN hX hC hA hbA hAi h0 h0_1 h0_2 h0_3 h0_4 h0_5 h0_6 h0_7 h0_8 h0_9 h0_10 h0_11 h0_12 h0_13 h0_14 h0_15 h0_16 h0_17 h0_18 h0_19 h0_20 h0_21 h0_22 h0_25 h0_26 h0_29 h0_30 u_111 (jiushr (xs (((3 : Int32) - (3 : Int32) / (Int32.ofNat L) * (Int32.ofNat L))).toNatClampNeg) (8 : Int32)) h m_113 m_114 m_115 m_116 _ _ hP hD hS _ hl
        · have h := hf_ c_119
          refine lv_bipush (v := (31 : Int32)) hx hb dL_law_41 (by decide) ?_
          refine lv_iload_n hx hb dL_law_43 rfl (lv_at hl 0 rfl) ?_
          refine lv_imul hx hb dL_law_44 ?_
          refine lv_lit (b := (93 : Int32)) (by decide) ?_
          refine lv_goto (tgt := 57) hx hb dL_law_45 (by decide) ?_
          have hl : lv_has ls 4 [(0, .ref b), (1, .ref h0), (2, .int (3 : Int32))] := lv_sub hl [2, 3, 0] rfl
          refine W.widen (k := 2014) (n := 60329) (Nat.le_of_ble_eq_true rfl) (Nat.le_of_ble_eq_true rfl) ?_
          exact sg_L_law_4 l hst C0 hK hN hX hC hA hbA hAi h0 h0_1 h0_2 h0_3 h0_4 h0_5 h0_6 h0_7 h0_8 h0_9 h0_10 h0_11 h0_12 h0_13 h0_14 h0_15 h0_16 h0_17 h0_18 h0_19 h0_20 h0_21 h0_22 h0_25 h0_26 h0_29 h0_30 u_111 (93 : Int32) h m_113 m_114 m_115 m_116 _ _ hP hD hS _ hl
      · have h := hf_ c_117
        exact (show False from h).elim
set_option maxHeartbeats 4000000 in
set_option maxRecDepth 100000 in
theorem sg_L_law_2 (l : Launch) (hst : l.stackTraces = false) {p : Program} {e : Env} {s : State} {m : MethodId} {below : List Frame} {meth : Method} {c : Code} {b L : Nat} {xs : Nat → Int32} (C0 : lw_At p s m meth c b L xs) {dC : Nat → ClassId} {dI : Nat → Nat → Nat} {cI : ClassId} (hK : va_K (dC, dI) vwCl [(cI, .int)] s) (hN : nk s) {A : Nat → Prop} (hX : xj A s) (hC : xnc s) (hA : ∀ q : Nat, s.heap.size ≤ q → A q) (hbA : ¬ A b) (hAi : ∀ q : Nat, A q → s.heap.size ≤ q) (h0 h0_1 h0_2 h0_3 h0_4 h0_5 h0_6 h0_7 h0_8 h0_9 h0_10 h0_11 h0_12 h0_13 h0_14 h0_15 h0_16 h0_17 h0_18 h0_19 h0_20 h0_21 h0_22 h0_25 h0_26 h0_29 h0_30 : Nat) (s0 : TriS) (x0 : Int32) (h : P_L_law_2 s0 x0 L xs) (h0_23 h0_24 h0_27 h0_28 : Nat) (H : Heap) (locs : List Loc) (hP : va_P (dC, dI) vwCl (lwO cI h0 h0_1 h0_2 h0_3 h0_4 h0_5 h0_6 h0_7 h0_8 h0_9 h0_10 h0_11 h0_12 h0_13 h0_14 h0_15 h0_16 h0_17 h0_18 h0_19 h0_20 h0_21 h0_22 h0_23 h0_24 h0_25 h0_26 h0_27 h0_28 h0_29 h0_30 s0) H) (hD : va_D A (lwO cI h0 h0_1 h0_2 h0_3 h0_4 h0_5 h0_6 h0_7 h0_8 h0_9 h0_10 h0_11 h0_12 h0_13 h0_14 h0_15 h0_16 h0_17 h0_18 h0_19 h0_20 h0_21 h0_22 h0_23 h0_24 h0_25 h0_26 h0_27 h0_28 h0_29 h0_30 s0)) (hS : va_S A s.heap H locs) (ls : Array Slot) (hl : lv_has ls 4 [(0, .ref b), (1, .ref h0), (2, .int (1 : Int32))]) : W p l e room_1 s m #[Value.ref b] below meth c H locs 1622 57977 (lw_Z below #[Value.ref b] s) (F0 m 57 ls [.int x0]) := by
  obtain ⟨hx, hb, hr, hml, hown, hts, hXs, hbl, hlocks, hgv⟩ := id C0
  have hts := fun w h => hts w (wsL_law_in w h)
  have hown : s.vm.findClass RL = some m.cls := hown
  refine lv_istore_n (lv' := [(3, .int x0), (0, .ref b), (1, .ref h0), (2, .int (1 : Int32))]) hx hb dL_law_57 rfl hl (by decide) rfl (fun ls hl => ?_)
  refine lv_aload_n hx hb dL_law_58 rfl (lv_at hl 2 rfl) ?_
  refine lv_iconst (v := (0 : Int32)) hx hb dL_law_59 (by decide) ?_
  refine lv_iload_n hx hb dL_law_60 rfl (lv_at hl 0 rfl) ?_
  refine lv_bipush (v := (6 : Int32)) hx hb dL_law_61 (by decide) ?_
  refine lv_irem hx hb dL_law_63 (by decide) ?_
  refine lv_iload_n hx hb dL_law_64 rfl (lv_at hl 0 rfl) ?_
  refine lv_bipush (v := (6 : Int32)) hx hb dL_law_65 (by decide) ?_
  refine lv_idiv hx hb dL_law_67 (by decide) ?_
  refine lv_iconst (v := (4 : Int32)) hx hb dL_law_68 (by decide) ?_
  refine lv_irem hx hb dL_law_69 (by decide) ?_
  refine lv_iload_n hx hb dL_law_70 rfl (lv_at hl 0 rfl) ?_
  refine lv_bipush (v := (24 : Int32)) hx hb dL_law_71 (by decide) ?_
  refine lv_idiv hx hb dL_law_73 (by decide) ?_
  refine lv_bipush (v := (7 : Int32)) hx hb dL_law_74 (by decide) ?_
  refine lv_irem hx hb dL_law_76 (by decide) ?_
  have hFc := frw hD hS hA
  refine vx_calli (SX := Unit) (px := fun _ => False) (BX := fun _ _ _ => True) (AX := A) (vx_runSX0 (vx_runSX (As := [.ref h0, .int (0 : Int32), .int (x0 - x0 / (6 : Int32) * (6 : Int32)), .int ((x0 / (6 : Int32)) - (x0 / (6 : Int32)) / (4 : Int32) * (4 : Int32)), .int ((x0 / (24 : Int32)) - (x0 / (24 : Int32)) / (7 : Int32) * (7 : Int32))]) (rest := []) ⟨hx, hb, hml, hown, hts⟩ (c_L_act l hst dC dI cI h0 h0_1 h0_2 h0_3 h0_4 h0_5 h0_6 h0_7 h0_8 h0_9 h0_10 h0_11 h0_12 h0_13 h0_14 h0_15 h0_16 h0_17 h0_18 h0_19 h0_20 h0_21 h0_22 h0_23 h0_24 h0_25 h0_26 h0_27 h0_28 h0_29 h0_30 _ s0 (0 : Int32) (x0 - x0 / (6 : Int32) * (6 : Int32)) ((x0 / (6 : Int32)) - (x0 / (6 : Int32)) / (4 : Int32) * (4 : Int32)) ((x0 / (24 : Int32)) - (x0 / (24 : Int32)) / (7 : Int32) * (7 : Int32)) _ h) (vx_cwSW 5 hts gB_L_act rfl rfl rfl (by decide +kernel) ⟨Nat.le_of_ble_eq_true rfl, Nat.le_of_ble_eq_true rfl⟩) (pbl_S hP hK hD hN hX hC hFc hS) rfl rfl hl.1 rfl (lv_room (Nat.le_of_ble_eq_true rfl)) dL_law_77 ⟨Nat.le_of_ble_eq_true rfl, Nat.le_of_ble_eq_true rfl⟩)) hS (fun q _ h => hFc q h) hFc (fun q _ h => h) (fun E9 ce9 q9 u t H locs ht hvm h hB hz1 hk1 hS hce hcv hcl => h.elim) (fun r_71 u_70 t H locs ht hvm h hB hz1 hk1 hS => ?_)
  obtain ⟨m_72, m_73, m_74, m_75, hP1, hD1⟩ := hB
  rw [ht] at hP1
  have hP : va_P (dC, dI) vwCl (lwO cI h0 h0_1 h0_2 h0_3 h0_4 h0_5 h0_6 h0_7 h0_8 h0_9 h0_10 h0_11 h0_12 h0_13 h0_14 h0_15 h0_16 h0_17 h0_18 h0_19 h0_20 h0_21 h0_22 m_72 m_73 h0_25 h0_26 m_74 m_75 h0_29 h0_30 u_70) H := hP1
  have hD : va_D A (lwO cI h0 h0_1 h0_2 h0_3 h0_4 h0_5 h0_6 h0_7 h0_8 h0_9 h0_10 h0_11 h0_12 h0_13 h0_14 h0_15 h0_16 h0_17 h0_18 h0_19 h0_20 h0_21 h0_22 m_72 m_73 h0_25 h0_26 m_74 m_75 h0_29 h0_30 u_70) := hD1.weaken (fun _ _ _ h => hFc _ h)
  refine W.widen (k := 1624) (n := 57989) (Nat.le_of_ble_eq_true rfl) (Nat.le_of_ble_eq_true rfl) ?_
  obtain ⟨ht_, hf_⟩ := h
  refine lv_if_lt (tgt := 139) hx hb dL_law_80 (by decide) (fun c_76 => ?_) (fun c_76 => ?_)
  · have h := ht_ c_76
    exact (show False from h).elim
  · have h := hf_ c_76
    refine lv_iload_n hx hb dL_law_83 rfl (lv_at hl 3 rfl) ?_
    refine lv_iconst (v := (4 : Int32)) hx hb dL_law_84 (by decide) ?_
    refine lv_icmp_ge (tgt := 132) hx hb dL_law_85 (by decide) (fun c_77 => absurd c_77 (by decide)) (fun c_77 => ?_)
    refine lv_aload_n hx hb dL_law_88 rfl (lv_at hl 2 rfl) ?_
    refine lv_bipush (v := (7 : Int32)) hx hb dL_law_89 (by decide) ?_
    refine lv_iload_n hx hb dL_law_91 rfl (lv_at hl 0 rfl) ?_
    refine lv_bipush (v := (10 : Int32)) hx hb dL_law_92 (by decide) ?_
    refine lv_irem hx hb dL_law_94 (by decide) ?_
    refine lv_iconst (v := (4 : Int32)) hx hb dL_law_95 (by decide) ?_
    refine lv_isub hx hb dL_law_96 ?_
    refine lv_iload_n hx hb dL_law_97 rfl (lv_at hl 0 rfl) ?_
    refine lv_bipush (v := (10 : Int32)) hx hb dL_law_98 (by decide) ?_
    refine lv_idiv hx hb dL_law_100 (by decide) ?_
    refine lv_bipush (v := (9 : Int32)) hx hb dL_law_101 (by decide) ?_
    refine lv_irem hx hb dL_law_103 (by decide) ?_
    refine lv_iconst (v := (4 : Int32)) hx hb dL_law_104 (by decide) ?_
    refine lv_isub hx hb dL_law_105 ?_
    refine lv_iload_n hx hb dL_law_106 rfl (lv_at hl 0 rfl) ?_
    refine lv_bipush (v := (90 : Int32)) hx hb dL_law_107 (by decide) ?_
    refine lv_idiv hx hb dL_law_109 (by decide) ?_
    refine lv_bipush (v := (12 : Int32)) hx hb dL_law_110 (by decide) ?_
    refine lv_irem hx hb dL_law_112 (by decide) ?_
    refine lv_iconst (v := (4 : Int32)) hx hb dL_law_113 (by decide) ?_
    refine lv_isub hx hb dL_law_114 ?_
    have hFc := frw hD hS hA
    refine vx_calli (SX := Unit) (px := fun _ => False) (BX := fun _ _ _ => True) (AX := A) (vx_runSX0 (vx_runSX (As := [.ref h0, .int (7 : Int32), .int ((x0 - x0 / (10 : Int32) * (10 : Int32)) - (4 : Int32)), .int (((x0 / (10 : Int32)) - (x0 / (10 : Int32)) / (9 : Int32) * (9 : Int32)) - (4 : Int32)), .int (((x0 / (90 : Int32)) - (x0 / (90 : Int32)) / (12 : Int32) * (12 : Int32)) - (4 : Int32))]) (rest := []) ⟨hx, hb, hml, hown, hts⟩ (c_L_act l hst dC dI cI h0 h0_1 h0_2 h0_3 h0_4 h0_5 h0_6 h0_7 h0_8 h0_9 h0_10 h0_11 h0_12 h0_13 h0_14 h0_15 h0_16 h0_17 h0_18 h0_19 h0_20 h0_21 h0_22 m_72 m_73 h0_25 h0_26 m_74 m_75 h0_29 h0_30 _ u_70 (7 : Int32) ((x0 - x0 / (10 : Int32) * (10 : Int32)) - (4 : Int32)) (((x0 / (10 : Int32)) - (x0 / (10 : Int32)) / (9 : Int32) * (9 : Int32)) - (4 : Int32)) (((x0 / (90 : Int32)) - (x0 / (90 : Int32)) / (12 : Int32) * (12 : Int32)) - (4 : Int32)) _ h) (vx_cwSW 5 hts gB_L_act rfl rfl rfl (by decide +kernel) ⟨Nat.le_of_ble_eq_true rfl, Nat.le_of_ble_eq_true rfl⟩) (pbl_S hP hK hD hN hX hC hFc hS) rfl rfl hl.1 rfl (lv_room (Nat.le_of_ble_eq_true rfl)) dL_law_115 ⟨Nat.le_of_ble_eq_true rfl, Nat.le_of_ble_eq_true rfl⟩)) hS (fun q _ h => hFc q h) hFc (fun q _ h => h) (fun E9 ce9 q9 u t H locs ht hvm h hB hz1 hk1 hS hce hcv hcl => h.elim) (fun r_79 u_78 t H locs ht hvm h hB hz1 hk1 hS => ?_)
    obtain ⟨m_80, m_81, m_82, m_83, hP1, hD1⟩ := hB
    rw [ht] at hP1
    have hP : va_P (dC, dI) vwCl (lwO cI h0 h0_1 h0_2 h0_3 h0_4 h0_5 h0_6 h0_7 h0_8 h0_9 h0_10 h0_11 h0_12 h0_13 h0_14 h0_15 h0_16 h0_17 h0_18 h0_19 h0_20 h0_21 h0_22 m_80 m_81 h0_25 h0_26 m_82 m_83 h0_29 h0_30 u_78) H := hP1
    have hD : va_D A (lwO cI h0 h0_1 h0_2 h0_3 h0_4 h0_5 h0_6 h0_7 h0_8 h0_9 h0_10 h0_11 h0_12 h0_13 h0_14 h0_15 h0_16 h0_17 h0_18 h0_19 h0_20 h0_21 h0_22 m_80 m_81 h0_25 h0_26 m_82 m_83 h0_29 h0_30 u_78) := hD1.weaken (fun _ _ _ h => hFc _ h)
    refine W.widen (k := 1626) (n := 58001) (Nat.le_of_ble_eq_true rfl) (Nat.le_of_ble_eq_true rfl) ?_
    refine lv_iload_n hx hb dL_law_118 rfl (lv_at hl 3 rfl) ?_
    refine lv_iconst (v := (3 : Int32)) hx hb dL_law_119 (by decide) ?_
    refine lv_icmp_ge (tgt := 127) hx hb dL_law_120 (by decide) (fun c_84 => absurd c_84 (by decide)) (fun c_84 => ?_)
    refine lv_iload_n hx hb dL_law_123 rfl (lv_at hl 3 rfl) ?_
    refine lv_goto (tgt := 129) hx hb dL_law_124 (by decide) ?_
    obtain ⟨ht_, hf_⟩ := h
    refine lv_icmp_ne (tgt := 139) hx hb dL_law_129 (by decide) (fun c_85 => ?_) (fun c_85 => ?_)
    · have h := ht_ c_85
      exact (show False from h).elim
    · have h := hf_ c_85
      refine lv_aload_n hx hb dL_law_132 rfl (lv_at hl 2 rfl) ?_
      have hFc := frw hD hS hA
      refine va_calli (va_runS (As := [.ref h0]) (rest := []) ⟨hx, hb, hml, hown, hts⟩ (c_L_refuses l hst dC dI cI h0 h0_1 h0_2 h0_3 h0_4 h0_5 h0_6 h0_7 h0_8 h0_9 h0_10 h0_11 h0_12 h0_13 h0_14 h0_15 h0_16 h0_17 h0_18 h0_19 h0_20 h0_21 h0_22 m_80 m_81 h0_25 h0_26 m_82 m_83 h0_29 h0_30 _ u_78 _ h) (va_cwS 1 hts gB_L_refuses rfl rfl rfl (by decide +kernel) ⟨Nat.le_of_ble_eq_true rfl, Nat.le_of_ble_eq_true rfl⟩) (pbl_S hP hK hD hN hX hC hFc hS) rfl rfl hl.1 rfl (lv_room (Nat.le_of_ble_eq_true rfl)) dL_law_133 ⟨Nat.le_of_ble_eq_true rfl, Nat.le_of_ble_eq_true rfl⟩) hS (fun q _ h => hFc q h) hFc (fun r_87 u_86 t H locs ht hvm h hB hz1 hk1 hS => ?_)
      obtain ⟨m_88, m_89, m_90, m_91, hP1, hD1⟩ := hB
      rw [ht] at hP1
      have hP : va_P (dC, dI) vwCl (lwO cI h0 h0_1 h0_2 h0_3 h0_4 h0_5 h0_6 h0_7 h0_8 h0_9 h0_10 h0_11 h0_12 h0_13 h0_14 h0_15 h0_16 h0_17 h0_18 h0_19 h0_20 h0_21 h0_22 m_88 m_89 h0_25 h0_26 m_90 m_91 h0_29 h0_30 u_86) H := hP1
      have hD : va_D A (lwO cI h0 h0_1 h0_2 h0_3 h0_4 h0_5 h0_6 h0_7 h0_8 h0_9 h0_10 h0_11 h0_12 h0_13 h0_14 h0_15 h0_16 h0_17 h0_18 h0_19 h0_20 h0_21 h0_22 m_88 m_89 h0_25 h0_26 m_90 m_91 h0_29 h0_30 u_86) := hD1.weaken (fun _ _ _ h => hFc _ h)
      refine W.widen (k := 1818) (n := 59153) (Nat.le_of_ble_eq_true rfl) (Nat.le_of_ble_eq_true rfl) ?_
      obtain ⟨ht_, hf_⟩ := h
      refine lv_if_ne (tgt := 141) hx hb dL_law_136 (by decide) (fun c_92 => ?_) (fun c_92 => ?_)
      · have h := ht_ c_92
        refine lv_iinc (v := (2 : Int32)) (lv' := [(2, .int (2 : Int32)), (3, .int x0), (0, .ref b), (1, .ref h0)]) hx hb dL_law_141 hl (k := 3) rfl (by decide) (by decide) rfl (fun ls hl => ?_)
        refine lv_goto (tgt := 30) hx hb dL_law_144 (by decide) ?_
        refine lv_iload_n hx hb dL_law_30 rfl (lv_at hl 0 rfl) ?_
        refine lv_bipush (v := (24 : Int32)) hx hb dL_law_31 (by decide) ?_
        refine lv_icmp_ge (tgt := 147) hx hb dL_law_33 (by decide) (fun c_93 => absurd c_93 (by decide)) (fun c_93 => ?_)
        refine lv_aload_n hx hb dL_law_36 rfl (lv_at hl 2 rfl) ?_
        refine va_slen hx hb hXs hbl hbA hS dL_law_37 ?_
        obtain ⟨ht_, hf_⟩ := h
        refine lv_if_ne (tgt := 48) hx hb dL_law_38 (by decide) (fun c_94 => ?_) (fun c_94 => ?_)
        · have h := ht_ c_94
          have hL0 : ¬ Int32.ofNat L = 0 := c_94
          refine lv_aload_n hx hb dL_law_48 rfl (lv_at hl 2 rfl) ?_
          refine lv_iload_n hx hb dL_law_49 rfl (lv_at hl 0 rfl) ?_
          refine lv_aload_n hx hb dL_law_50 rfl (lv_at hl 2 rfl) ?_
          refine va_slen hx hb hXs hbl hbA hS dL_law_51 ?_
          refine lv_irem hx hb dL_law_52 hL0 ?_
          obtain ⟨hin, h⟩ := h
          refine va_sld hx hb hXs hbl hbA hS hin dL_law_53 ?_
          refine lv_bipush (v := (8 : Int32)) hx hb dL_law_54 (by decide) ?_
          refine lv_iushr (v := (jiushr (xs (((2 : Int32) - (2 : Int32) / (Int32.ofNat L) * (Int32.ofNat L))).toNatClampNeg) (8 : Int32))) hx hb dL_law_56 rfl ?_
          have hl : lv_has ls 4 [(0, .ref b), (1, .ref h0), (2, .int (2 : Int32))] := lv_sub hl [2, 3, 0] rfl
          refine W.widen (k := 1818) (n := 59153) (Nat.le_of_ble_eq_true rfl) (Nat.le_of_ble_eq_true rfl) ?_
          exact sg_L_law_3 l hst C0 hK hN hX hC hA hbA hAi h0 h0_1 h0_2 h0_3 h0_4 h0_5 h0_6 h0_7 h0_8 h0_9 h0_10 h0_11 h0_12 h0_13 h0_14 h0_15 h0_16 h0_17 h0_18 h0_19 h0_20 h0_21 h0_22 h0_25 h0_26 h0_29 h0_30 u_86 (jiushr (xs (((2 : Int32) - (2 : Int32) / (Int32.ofNat L) * (Int32.ofNat L))).toNatClampNeg) (8 : Int32)) h m_88 m_89 m_90 m_91 _ _ hP hD hS _ hl
        · have h := hf_ c_94
          refine lv_bipush (v := (31 : Int32)) hx hb dL_law_41 (by decide) ?_
          refine lv_iload_n hx hb dL_law_43 rfl (lv_at hl 0 rfl) ?_
          refine lv_imul hx hb dL_law_44 ?_
          refine lv_lit (b := (62 : Int32)) (by decide) ?_
          refine lv_goto (tgt := 57) hx hb dL_law_45 (by decide) ?_
          have hl : lv_has ls 4 [(0, .ref b), (1, .ref h0), (2, .int (2 : Int32))] := lv_sub hl [2, 3, 0] rfl
          refine W.widen (k := 1818) (n := 59153) (Nat.le_of_ble_eq_true rfl) (Nat.le_of_ble_eq_true rfl) ?_
          exact sg_L_law_3 l hst C0 hK hN hX hC hA hbA hAi h0 h0_1 h0_2 h0_3 h0_4 h0_5 h0_6 h0_7 h0_8 h0_9 h0_10 h0_11 h0_12 h0_13 h0_14 h0_15 h0_16 h0_17 h0_18 h0_19 h0_20 h0_21 h0_22 h0_25 h0_26 h0_29 h0_30 u_86 (62 : Int32) h m_88 m_89 m_90 m_91 _ _ hP hD hS _ hl
      · have h := hf_ c_92
        exact (show False from h).elim
set_option maxHeartbeats 4000000 in
set_option maxRecDepth 100000 in
theorem sg_L_law_1 (l : Launch) (hst : l.stackTraces = false) {p : Program} {e : Env} {s : State} {m : MethodId} {below : List Frame} {meth : Method} {c : Code} {b L : Nat} {xs : Nat → Int32} (C0 : lw_At p s m meth c b L xs) {dC : Nat → ClassId} {dI : Nat → Nat → Nat} {cI : ClassId} (hK : va_K (dC, dI) vwCl [(cI, .int)] s) (hN : nk s) {A : Nat → Prop} (hX : xj A s) (hC : xnc s) (hA : ∀ q : Nat, s.heap.size ≤ q → A q) (hbA : ¬ A b) (hAi : ∀ q : Nat, A q → s.heap.size ≤ q) (h0 h0_1 h0_2 h0_3 h0_4 h0_5 h0_6 h0_7 h0_8 h0_9 h0_10 h0_11 h0_12 h0_13 h0_14 h0_15 h0_16 h0_17 h0_18 h0_19 h0_20 h0_21 h0_22 h0_25 h0_26 h0_29 h0_30 : Nat) (s0 : TriS) (x0 : Int32) (h : P_L_law_1 s0 x0 L xs) (h0_23 h0_24 h0_27 h0_28 : Nat) (H : Heap) (locs : List Loc) (hP : va_P (dC, dI) vwCl (lwO cI h0 h0_1 h0_2 h0_3 h0_4 h0_5 h0_6 h0_7 h0_8 h0_9 h0_10 h0_11 h0_12 h0_13 h0_14 h0_15 h0_16 h0_17 h0_18 h0_19 h0_20 h0_21 h0_22 h0_23 h0_24 h0_25 h0_26 h0_27 h0_28 h0_29 h0_30 s0) H) (hD : va_D A (lwO cI h0 h0_1 h0_2 h0_3 h0_4 h0_5 h0_6 h0_7 h0_8 h0_9 h0_10 h0_11 h0_12 h0_13 h0_14 h0_15 h0_16 h0_17 h0_18 h0_19 h0_20 h0_21 h0_22 h0_23 h0_24 h0_25 h0_26 h0_27 h0_28 h0_29 h0_30 s0)) (hS : va_S A s.heap H locs) (ls : Array Slot) (hl : lv_has ls 4 [(0, .ref b), (1, .ref h0), (2, .int (0 : Int32))]) : W p l e room_1 s m #[Value.ref b] below meth c H locs 1426 56801 (lw_Z below #[Value.ref b] s) (F0 m 57 ls [.int x0]) := by
  obtain ⟨hx, hb, hr, hml, hown, hts, hXs, hbl, hlocks, hgv⟩ := id C0
  have hts := fun w h => hts w (wsL_law_in w h)
  have hown : s.vm.findClass RL = some m.cls := hown
  refine lv_istore_n (lv' := [(3, .int x0), (0, .ref b), (1, .ref h0), (2, .int (0 : Int32))]) hx hb dL_law_57 rfl hl (by decide) rfl (fun ls hl => ?_)
  refine lv_aload_n hx hb dL_law_58 rfl (lv_at hl 2 rfl) ?_
  refine lv_iconst (v := (0 : Int32)) hx hb dL_law_59 (by decide) ?_
  refine lv_iload_n hx hb dL_law_60 rfl (lv_at hl 0 rfl) ?_
  refine lv_bipush (v := (6 : Int32)) hx hb dL_law_61 (by decide) ?_
  refine lv_irem hx hb dL_law_63 (by decide) ?_
  refine lv_iload_n hx hb dL_law_64 rfl (lv_at hl 0 rfl) ?_
  refine lv_bipush (v := (6 : Int32)) hx hb dL_law_65 (by decide) ?_
  refine lv_idiv hx hb dL_law_67 (by decide) ?_
  refine lv_iconst (v := (4 : Int32)) hx hb dL_law_68 (by decide) ?_
  refine lv_irem hx hb dL_law_69 (by decide) ?_
  refine lv_iload_n hx hb dL_law_70 rfl (lv_at hl 0 rfl) ?_
  refine lv_bipush (v := (24 : Int32)) hx hb dL_law_71 (by decide) ?_
  refine lv_idiv hx hb dL_law_73 (by decide) ?_
  refine lv_bipush (v := (7 : Int32)) hx hb dL_law_74 (by decide) ?_
  refine lv_irem hx hb dL_law_76 (by decide) ?_
  have hFc := frw hD hS hA
  refine vx_calli (SX := Unit) (px := fun _ => False) (BX := fun _ _ _ => True) (AX := A) (vx_runSX0 (vx_runSX (As := [.ref h0, .int (0 : Int32), .int (x0 - x0 / (6 : Int32) * (6 : Int32)), .int ((x0 / (6 : Int32)) - (x0 / (6 : Int32)) / (4 : Int32) * (4 : Int32)), .int ((x0 / (24 : Int32)) - (x0 / (24 : Int32)) / (7 : Int32) * (7 : Int32))]) (rest := []) ⟨hx, hb, hml, hown, hts⟩ (c_L_act l hst dC dI cI h0 h0_1 h0_2 h0_3 h0_4 h0_5 h0_6 h0_7 h0_8 h0_9 h0_10 h0_11 h0_12 h0_13 h0_14 h0_15 h0_16 h0_17 h0_18 h0_19 h0_20 h0_21 h0_22 h0_23 h0_24 h0_25 h0_26 h0_27 h0_28 h0_29 h0_30 _ s0 (0 : Int32) (x0 - x0 / (6 : Int32) * (6 : Int32)) ((x0 / (6 : Int32)) - (x0 / (6 : Int32)) / (4 : Int32) * (4 : Int32)) ((x0 / (24 : Int32)) - (x0 / (24 : Int32)) / (7 : Int32) * (7 : Int32)) _ h) (vx_cwSW 5 hts gB_L_act rfl rfl rfl (by decide +kernel) ⟨Nat.le_of_ble_eq_true rfl, Nat.le_of_ble_eq_true rfl⟩) (pbl_S hP hK hD hN hX hC hFc hS) rfl rfl hl.1 rfl (lv_room (Nat.le_of_ble_eq_true rfl)) dL_law_77 ⟨Nat.le_of_ble_eq_true rfl, Nat.le_of_ble_eq_true rfl⟩)) hS (fun q _ h => hFc q h) hFc (fun q _ h => h) (fun E9 ce9 q9 u t H locs ht hvm h hB hz1 hk1 hS hce hcv hcl => h.elim) (fun r_46 u_45 t H locs ht hvm h hB hz1 hk1 hS => ?_)
  obtain ⟨m_47, m_48, m_49, m_50, hP1, hD1⟩ := hB
  rw [ht] at hP1
  have hP : va_P (dC, dI) vwCl (lwO cI h0 h0_1 h0_2 h0_3 h0_4 h0_5 h0_6 h0_7 h0_8 h0_9 h0_10 h0_11 h0_12 h0_13 h0_14 h0_15 h0_16 h0_17 h0_18 h0_19 h0_20 h0_21 h0_22 m_47 m_48 h0_25 h0_26 m_49 m_50 h0_29 h0_30 u_45) H := hP1
  have hD : va_D A (lwO cI h0 h0_1 h0_2 h0_3 h0_4 h0_5 h0_6 h0_7 h0_8 h0_9 h0_10 h0_11 h0_12 h0_13 h0_14 h0_15 h0_16 h0_17 h0_18 h0_19 h0_20 h0_21 h0_22 m_47 m_48 h0_25 h0_26 m_49 m_50 h0_29 h0_30 u_45) := hD1.weaken (fun _ _ _ h => hFc _ h)
  refine W.widen (k := 1428) (n := 56813) (Nat.le_of_ble_eq_true rfl) (Nat.le_of_ble_eq_true rfl) ?_
  obtain ⟨ht_, hf_⟩ := h
  refine lv_if_lt (tgt := 139) hx hb dL_law_80 (by decide) (fun c_51 => ?_) (fun c_51 => ?_)
  · have h := ht_ c_51
    exact (show False from h).elim
  · have h := hf_ c_51
    refine lv_iload_n hx hb dL_law_83 rfl (lv_at hl 3 rfl) ?_
    refine lv_iconst (v := (4 : Int32)) hx hb dL_law_84 (by decide) ?_
    refine lv_icmp_ge (tgt := 132) hx hb dL_law_85 (by decide) (fun c_52 => absurd c_52 (by decide)) (fun c_52 => ?_)
    refine lv_aload_n hx hb dL_law_88 rfl (lv_at hl 2 rfl) ?_
    refine lv_bipush (v := (7 : Int32)) hx hb dL_law_89 (by decide) ?_
    refine lv_iload_n hx hb dL_law_91 rfl (lv_at hl 0 rfl) ?_
    refine lv_bipush (v := (10 : Int32)) hx hb dL_law_92 (by decide) ?_
    refine lv_irem hx hb dL_law_94 (by decide) ?_
    refine lv_iconst (v := (4 : Int32)) hx hb dL_law_95 (by decide) ?_
    refine lv_isub hx hb dL_law_96 ?_
    refine lv_iload_n hx hb dL_law_97 rfl (lv_at hl 0 rfl) ?_
    refine lv_bipush (v := (10 : Int32)) hx hb dL_law_98 (by decide) ?_
    refine lv_idiv hx hb dL_law_100 (by decide) ?_
    refine lv_bipush (v := (9 : Int32)) hx hb dL_law_101 (by decide) ?_
    refine lv_irem hx hb dL_law_103 (by decide) ?_
    refine lv_iconst (v := (4 : Int32)) hx hb dL_law_104 (by decide) ?_
    refine lv_isub hx hb dL_law_105 ?_
    refine lv_iload_n hx hb dL_law_106 rfl (lv_at hl 0 rfl) ?_
    refine lv_bipush (v := (90 : Int32)) hx hb dL_law_107 (by decide) ?_
    refine lv_idiv hx hb dL_law_109 (by decide) ?_
    refine lv_bipush (v := (12 : Int32)) hx hb dL_law_110 (by decide) ?_
    refine lv_irem hx hb dL_law_112 (by decide) ?_
    refine lv_iconst (v := (4 : Int32)) hx hb dL_law_113 (by decide) ?_
    refine lv_isub hx hb dL_law_114 ?_
    have hFc := frw hD hS hA
    refine vx_calli (SX := Unit) (px := fun _ => False) (BX := fun _ _ _ => True) (AX := A) (vx_runSX0 (vx_runSX (As := [.ref h0, .int (7 : Int32), .int ((x0 - x0 / (10 : Int32) * (10 : Int32)) - (4 : Int32)), .int (((x0 / (10 : Int32)) - (x0 / (10 : Int32)) / (9 : Int32) * (9 : Int32)) - (4 : Int32)), .int (((x0 / (90 : Int32)) - (x0 / (90 : Int32)) / (12 : Int32) * (12 : Int32)) - (4 : Int32))]) (rest := []) ⟨hx, hb, hml, hown, hts⟩ (c_L_act l hst dC dI cI h0 h0_1 h0_2 h0_3 h0_4 h0_5 h0_6 h0_7 h0_8 h0_9 h0_10 h0_11 h0_12 h0_13 h0_14 h0_15 h0_16 h0_17 h0_18 h0_19 h0_20 h0_21 h0_22 m_47 m_48 h0_25 h0_26 m_49 m_50 h0_29 h0_30 _ u_45 (7 : Int32) ((x0 - x0 / (10 : Int32) * (10 : Int32)) - (4 : Int32)) (((x0 / (10 : Int32)) - (x0 / (10 : Int32)) / (9 : Int32) * (9 : Int32)) - (4 : Int32)) (((x0 / (90 : Int32)) - (x0 / (90 : Int32)) / (12 : Int32) * (12 : Int32)) - (4 : Int32)) _ h) (vx_cwSW 5 hts gB_L_act rfl rfl rfl (by decide +kernel) ⟨Nat.le_of_ble_eq_true rfl, Nat.le_of_ble_eq_true rfl⟩) (pbl_S hP hK hD hN hX hC hFc hS) rfl rfl hl.1 rfl (lv_room (Nat.le_of_ble_eq_true rfl)) dL_law_115 ⟨Nat.le_of_ble_eq_true rfl, Nat.le_of_ble_eq_true rfl⟩)) hS (fun q _ h => hFc q h) hFc (fun q _ h => h) (fun E9 ce9 q9 u t H locs ht hvm h hB hz1 hk1 hS hce hcv hcl => h.elim) (fun r_54 u_53 t H locs ht hvm h hB hz1 hk1 hS => ?_)
    obtain ⟨m_55, m_56, m_57, m_58, hP1, hD1⟩ := hB
    rw [ht] at hP1
    have hP : va_P (dC, dI) vwCl (lwO cI h0 h0_1 h0_2 h0_3 h0_4 h0_5 h0_6 h0_7 h0_8 h0_9 h0_10 h0_11 h0_12 h0_13 h0_14 h0_15 h0_16 h0_17 h0_18 h0_19 h0_20 h0_21 h0_22 m_55 m_56 h0_25 h0_26 m_57 m_58 h0_29 h0_30 u_53) H := hP1
    have hD : va_D A (lwO cI h0 h0_1 h0_2 h0_3 h0_4 h0_5 h0_6 h0_7 h0_8 h0_9 h0_10 h0_11 h0_12 h0_13 h0_14 h0_15 h0_16 h0_17 h0_18 h0_19 h0_20 h0_21 h0_22 m_55 m_56 h0_25 h0_26 m_57 m_58 h0_29 h0_30 u_53) := hD1.weaken (fun _ _ _ h => hFc _ h)
    refine W.widen (k := 1430) (n := 56825) (Nat.le_of_ble_eq_true rfl) (Nat.le_of_ble_eq_true rfl) ?_
    refine lv_iload_n hx hb dL_law_118 rfl (lv_at hl 3 rfl) ?_
    refine lv_iconst (v := (3 : Int32)) hx hb dL_law_119 (by decide) ?_
    refine lv_icmp_ge (tgt := 127) hx hb dL_law_120 (by decide) (fun c_59 => absurd c_59 (by decide)) (fun c_59 => ?_)
    refine lv_iload_n hx hb dL_law_123 rfl (lv_at hl 3 rfl) ?_
    refine lv_goto (tgt := 129) hx hb dL_law_124 (by decide) ?_
    obtain ⟨ht_, hf_⟩ := h
    refine lv_icmp_ne (tgt := 139) hx hb dL_law_129 (by decide) (fun c_60 => ?_) (fun c_60 => ?_)
    · have h := ht_ c_60
      exact (show False from h).elim
    · have h := hf_ c_60
      refine lv_aload_n hx hb dL_law_132 rfl (lv_at hl 2 rfl) ?_
      have hFc := frw hD hS hA
      refine va_calli (va_runS (As := [.ref h0]) (rest := []) ⟨hx, hb, hml, hown, hts⟩ (c_L_refuses l hst dC dI cI h0 h0_1 h0_2 h0_3 h0_4 h0_5 h0_6 h0_7 h0_8 h0_9 h0_10 h0_11 h0_12 h0_13 h0_14 h0_15 h0_16 h0_17 h0_18 h0_19 h0_20 h0_21 h0_22 m_55 m_56 h0_25 h0_26 m_57 m_58 h0_29 h0_30 _ u_53 _ h) (va_cwS 1 hts gB_L_refuses rfl rfl rfl (by decide +kernel) ⟨Nat.le_of_ble_eq_true rfl, Nat.le_of_ble_eq_true rfl⟩) (pbl_S hP hK hD hN hX hC hFc hS) rfl rfl hl.1 rfl (lv_room (Nat.le_of_ble_eq_true rfl)) dL_law_133 ⟨Nat.le_of_ble_eq_true rfl, Nat.le_of_ble_eq_true rfl⟩) hS (fun q _ h => hFc q h) hFc (fun r_62 u_61 t H locs ht hvm h hB hz1 hk1 hS => ?_)
      obtain ⟨m_63, m_64, m_65, m_66, hP1, hD1⟩ := hB
      rw [ht] at hP1
      have hP : va_P (dC, dI) vwCl (lwO cI h0 h0_1 h0_2 h0_3 h0_4 h0_5 h0_6 h0_7 h0_8 h0_9 h0_10 h0_11 h0_12 h0_13 h0_14 h0_15 h0_16 h0_17 h0_18 h0_19 h0_20 h0_21 h0_22 m_63 m_64 h0_25 h0_26 m_65 m_66 h0_29 h0_30 u_61) H := hP1
      have hD : va_D A (lwO cI h0 h0_1 h0_2 h0_3 h0_4 h0_5 h0_6 h0_7 h0_8 h0_9 h0_10 h0_11 h0_12 h0_13 h0_14 h0_15 h0_16 h0_17 h0_18 h0_19 h0_20 h0_21 h0_22 m_63 m_64 h0_25 h0_26 m_65 m_66 h0_29 h0_30 u_61) := hD1.weaken (fun _ _ _ h => hFc _ h)
      refine W.widen (k := 1622) (n := 57977) (Nat.le_of_ble_eq_true rfl) (Nat.le_of_ble_eq_true rfl) ?_
      obtain ⟨ht_, hf_⟩ := h
      refine lv_if_ne (tgt := 141) hx hb dL_law_136 (by decide) (fun c_67 => ?_) (fun c_67 => ?_)
      · have h := ht_ c_67
        refine lv_iinc (v := (1 : Int32)) (lv' := [(2, .int (1 : Int32)), (3, .int x0), (0, .ref b), (1, .ref h0)]) hx hb dL_law_141 hl (k := 3) rfl (by decide) (by decide) rfl (fun ls hl => ?_)
        refine lv_goto (tgt := 30) hx hb dL_law_144 (by decide) ?_
        refine lv_iload_n hx hb dL_law_30 rfl (lv_at hl 0 rfl) ?_
        refine lv_bipush (v := (24 : Int32)) hx hb dL_law_31 (by decide) ?_
        refine lv_icmp_ge (tgt := 147) hx hb dL_law_33 (by decide) (fun c_68 => absurd c_68 (by decide)) (fun c_68 => ?_)
        refine lv_aload_n hx hb dL_law_36 rfl (lv_at hl 2 rfl) ?_
        refine va_slen hx hb hXs hbl hbA hS dL_law_37 ?_
        obtain ⟨ht_, hf_⟩ := h
        refine lv_if_ne (tgt := 48) hx hb dL_law_38 (by decide) (fun c_69 => ?_) (fun c_69 => ?_)
        · have h := ht_ c_69
          have hL0 : ¬ Int32.ofNat L = 0 := c_69
          refine lv_aload_n hx hb dL_law_48 rfl (lv_at hl 2 rfl) ?_
          refine lv_iload_n hx hb dL_law_49 rfl (lv_at hl 0 rfl) ?_
          refine lv_aload_n hx hb dL_law_50 rfl (lv_at hl 2 rfl) ?_
          refine va_slen hx hb hXs hbl hbA hS dL_law_51 ?_
          refine lv_irem hx hb dL_law_52 hL0 ?_
          obtain ⟨hin, h⟩ := h
          refine va_sld hx hb hXs hbl hbA hS hin dL_law_53 ?_
          refine lv_bipush (v := (8 : Int32)) hx hb dL_law_54 (by decide) ?_
          refine lv_iushr (v := (jiushr (xs (((1 : Int32) - (1 : Int32) / (Int32.ofNat L) * (Int32.ofNat L))).toNatClampNeg) (8 : Int32))) hx hb dL_law_56 rfl ?_
          have hl : lv_has ls 4 [(0, .ref b), (1, .ref h0), (2, .int (1 : Int32))] := lv_sub hl [2, 3, 0] rfl
          refine W.widen (k := 1622) (n := 57977) (Nat.le_of_ble_eq_true rfl) (Nat.le_of_ble_eq_true rfl) ?_
          exact sg_L_law_2 l hst C0 hK hN hX hC hA hbA hAi h0 h0_1 h0_2 h0_3 h0_4 h0_5 h0_6 h0_7 h0_8 h0_9 h0_10 h0_11 h0_12 h0_13 h0_14 h0_15 h0_16 h0_17 h0_18 h0_19 h0_20 h0_21 h0_22 h0_25 h0_26 h0_29 h0_30 u_61 (jiushr (xs (((1 : Int32) - (1 : Int32) / (Int32.ofNat L) * (Int32.ofNat L))).toNatClampNeg) (8 : Int32)) h m_63 m_64 m_65 m_66 _ _ hP hD hS _ hl
        · have h := hf_ c_69
          refine lv_bipush (v := (31 : Int32)) hx hb dL_law_41 (by decide) ?_
          refine lv_iload_n hx hb dL_law_43 rfl (lv_at hl 0 rfl) ?_
          refine lv_imul hx hb dL_law_44 ?_
          refine lv_lit (b := (31 : Int32)) (by decide) ?_
          refine lv_goto (tgt := 57) hx hb dL_law_45 (by decide) ?_
          have hl : lv_has ls 4 [(0, .ref b), (1, .ref h0), (2, .int (1 : Int32))] := lv_sub hl [2, 3, 0] rfl
          refine W.widen (k := 1622) (n := 57977) (Nat.le_of_ble_eq_true rfl) (Nat.le_of_ble_eq_true rfl) ?_
          exact sg_L_law_2 l hst C0 hK hN hX hC hA hbA hAi h0 h0_1 h0_2 h0_3 h0_4 h0_5 h0_6 h0_7 h0_8 h0_9 h0_10 h0_11 h0_12 h0_13 h0_14 h0_15 h0_16 h0_17 h0_18 h0_19 h0_20 h0_21 h0_22 h0_25 h0_26 h0_29 h0_30 u_61 (31 : Int32) h m_63 m_64 m_65 m_66 _ _ hP hD hS _ hl
      · have h := hf_ c_67
        exact (show False from h).elim
