theorem and31 (y : Int32) : ∃ n, n < 32 ∧ y &&& (31 : Int32) = nI n := by
  have e : y = nI y.toBitVec.toNat := by
    apply Int32.toBitVec_inj.1
    show y.toBitVec = BitVec.ofNat 32 y.toBitVec.toNat
    rw [BitVec.ofNat_toNat, BitVec.setWidth_eq]
  generalize y.toBitVec.toNat = n at e
  subst e
  exact ⟨n % 32, Nat.mod_lt _ (by omega), q_mask n 5⟩
set_option maxHeartbeats 4000000 in
set_option maxRecDepth 100000 in
theorem lw_loop {p : Program} {e : Env} {s : State} {m : MethodId} {below : List Frame} {meth : Method} {c : Code} (l : Launch) (hst : l.stackTraces = false) {b L : Nat} {xs : Nat → Int32} (C0 : lw_At p s m meth c b L xs) {dC : Nat → ClassId} {dI : Nat → Nat → Nat} {cI cL : ClassId} (hK : va_K (dC, dI) vwCl [(cI, .int), (cL, .long)] s) (hN : nk s) {A : Nat → Prop} (hX : xj A s) (hC : xnc s) (hA : ∀ q : Nat, s.heap.size ≤ q → A q) (hbA : ¬ A b) (hAi : ∀ q : Nat, A q → s.heap.size ≤ q) (hL : L ≤ 2048) (h0 h0_1 h0_2 h0_3 h0_4 h0_5 h0_6 h0_7 h0_8 h0_9 h0_10 h0_11 h0_12 h0_13 h0_14 h0_15 h0_16 h0_17 h0_18 h0_19 h0_20 h0_21 h0_22 h0_25 h0_26 h0_29 h0_30 h1 h1_32 h1_33 h1_34 h1_35 h1_36 h1_37 h1_38 h2 : Nat) (c0 z0 : Nat) (hc0 : c0 + 1026 ≤ 601024) (hz0 : z0 + 6156 ≤ 7293034) : ∀ (f j : Nat), 512 < f + j → j ≤ 512 → ∀ (v4 : Int32) (hv4 : v4 = nI (4 * j)) (t0 : TriS) (t1 : ModS) (t2 : Nat → Int64) (hJ : JJ t0 t1) (h0_23 h0_24 h0_27 h0_28 : Nat) (H : Heap) (locs : List Loc) (hP : va_P (dC, dI) vwCl (lwW cI cL h0 h0_1 h0_2 h0_3 h0_4 h0_5 h0_6 h0_7 h0_8 h0_9 h0_10 h0_11 h0_12 h0_13 h0_14 h0_15 h0_16 h0_17 h0_18 h0_19 h0_20 h0_21 h0_22 h0_23 h0_24 h0_25 h0_26 h0_27 h0_28 h0_29 h0_30 h1 h1_32 h1_33 h1_34 h1_35 h1_36 h1_37 h1_38 h2 t0 t1 t2) H) (hD : va_D A (lwW cI cL h0 h0_1 h0_2 h0_3 h0_4 h0_5 h0_6 h0_7 h0_8 h0_9 h0_10 h0_11 h0_12 h0_13 h0_14 h0_15 h0_16 h0_17 h0_18 h0_19 h0_20 h0_21 h0_22 h0_23 h0_24 h0_25 h0_26 h0_27 h0_28 h0_29 h0_30 h1 h1_32 h1_33 h1_34 h1_35 h1_36 h1_37 h1_38 h2 t0 t1 t2)) (hS : va_S A s.heap H locs) (ls : Array Slot) (hl : lv_has ls 7 [(0, .ref b), (1, .ref h0), (2, .ref h1), (3, .ref h2), (4, .int v4)]), W p l e room_1 s m #[Value.ref b] below meth c H locs (c0 + 2 * j) (z0 + 12 * j) (lw_Z below #[Value.ref b] s) (F0 m 23 ls []) := by
  intro f
  induction f with
  | zero =>
    intro j h1 h2
    exact absurd h1 (by omega)
  | succ f ih =>
    intro j hf hj v4 hv4 t0 t1 t2 hJ h0_23 h0_24 h0_27 h0_28 H locs hP hD hS ls hl
    obtain ⟨hx, hb, hr, hml, hown, hts, hXs, hbl, hlocks, hgv⟩ := id C0
    refine lv_iload hx hb dL_law_23 (lv_at hl 4 rfl) ?_
    refine lv_aload_n hx hb dL_law_25 rfl (lv_at hl 0 rfl) ?_
    refine va_slen hx hb hXs hbl hbA hS dL_law_26 ?_
    refine lv_iconst (v := (4 : Int32)) hx hb dL_law_27 (by decide) ?_
    refine lv_isub hx hb dL_law_28 ?_
    have hcmp : (Int32.ofNat L - (4 : Int32) < v4) ∨ 4 * j + 4 ≤ L := by
      rcases Nat.lt_or_ge L 4 with q | q
      · left
        rw [hv4]
        exact Int32.lt_of_lt_of_le ((by decide : ∀ L, L < 4 → Int32.ofNat L - (4 : Int32) < 0) L q) (nI_pos' (by omega))
      · rcases Nat.lt_or_ge (L - 4) (4 * j) with z | z
        · left
          show nI L - nI 4 < v4
          rw [hv4, n_sub q]
          exact n_lt z (by omega)
        · right; omega
    refine lv_icmp_gt (tgt := 1300) hx hb dL_law_29 (by decide) (fun c_1 => ?_) (fun c_1 => ?_)
    · refine lv_iconst (v := 1) hx hb dL_law_1300 (by decide) ?_
      refine va_forget (fun q hq => hAi _ (hS.2.2 q hq)) ?_
      refine W.widen (k := 601024) (n := 7293034) (by omega) (by omega) ?_
      exact lw_ret hx hb hr hlocks dL_law_1301
    · have h4 : 4 * j + 4 ≤ L := hcmp.resolve_left c_1
      have hv0 : vp_in v4 L := by rw [hv4]; exact n_in (by omega) (by omega)
      have hv1 : vp_in (v4 + (1 : Int32)) L := by rw [hv4, show nI (4 * j) + (1 : Int32) = nI (4 * j + 1) from n_add _ 1]; exact n_in (by omega) (by omega)
      have hv2 : vp_in (v4 + (2 : Int32)) L := by rw [hv4, show nI (4 * j) + (2 : Int32) = nI (4 * j + 2) from n_add _ 2]; exact n_in (by omega) (by omega)
      have hv3 : vp_in (v4 + (3 : Int32)) L := by rw [hv4, show nI (4 * j) + (3 : Int32) = nI (4 * j + 3) from n_add _ 3]; exact n_in (by omega) (by omega)
      have hnext : ∀ (t0 : TriS) (t1 : ModS) (t2 : Nat → Int64) (hJ : JJ t0 t1) (h0_23 h0_24 h0_27 h0_28 : Nat) (H : Heap) (locs : List Loc) (hP : va_P (dC, dI) vwCl (lwW cI cL h0 h0_1 h0_2 h0_3 h0_4 h0_5 h0_6 h0_7 h0_8 h0_9 h0_10 h0_11 h0_12 h0_13 h0_14 h0_15 h0_16 h0_17 h0_18 h0_19 h0_20 h0_21 h0_22 h0_23 h0_24 h0_25 h0_26 h0_27 h0_28 h0_29 h0_30 h1 h1_32 h1_33 h1_34 h1_35 h1_36 h1_37 h1_38 h2 t0 t1 t2) H) (hD : va_D A (lwW cI cL h0 h0_1 h0_2 h0_3 h0_4 h0_5 h0_6 h0_7 h0_8 h0_9 h0_10 h0_11 h0_12 h0_13 h0_14 h0_15 h0_16 h0_17 h0_18 h0_19 h0_20 h0_21 h0_22 h0_23 h0_24 h0_25 h0_26 h0_27 h0_28 h0_29 h0_30 h1 h1_32 h1_33 h1_34 h1_35 h1_36 h1_37 h1_38 h2 t0 t1 t2)) (hS : va_S A s.heap H locs) (ls : Array Slot) (hl : lv_has ls 7 [(0, .ref b), (1, .ref h0), (2, .ref h1), (3, .ref h2), (4, .int v4)]), W p l e room_1 s m #[Value.ref b] below meth c H locs (c0 + 2 * j + 2) (z0 + 12 * j + 12) (lw_Z below #[Value.ref b] s) (F0 m 1294 ls []) := by
        intro t0 t1 t2 hJ h0_23 h0_24 h0_27 h0_28 H locs hP hD hS ls hl
        obtain ⟨v5, ev5⟩ : ∃ y : Int32, y = v4 + 4 := ⟨_, rfl⟩
        refine lv_iinc (v := v5) (lv' := [(4, .int v5), (0, .ref b), (1, .ref h0), (2, .ref h1), (3, .ref h2)]) hx hb dL_law_1294 hl (k := 4) rfl (by rw [ev5]; rfl) (by decide) rfl (fun ls hl => ?_)
        refine lv_goto (tgt := 23) hx hb dL_law_1297 (by decide) ?_
        refine W.widen (k := c0 + 2 * (j + 1)) (n := z0 + 12 * (j + 1)) (by omega) (by omega) ?_
        exact ih (j + 1) (by omega) (by omega) v5 (by rw [ev5, hv4]; exact n_add (4 * j) 4) t0 t1 t2 hJ h0_23 h0_24 h0_27 h0_28 _ _ hP hD hS _ (lv_sub hl [1, 2, 3, 4, 0] rfl)
      clear ih
      refine lv_aload_n hx hb dL_law_32 rfl (lv_at hl 0 rfl) ?_
      refine lv_iload hx hb dL_law_33 (lv_at hl 4 rfl) ?_
      refine va_sld hx hb hXs hbl hbA hS hv0 dL_law_35 ?_
      refine lv_bipush (v := (31 : Int32)) hx hb dL_law_36 (by decide) ?_
      refine lv_iand hx hb dL_law_38 ?_
      obtain ⟨n, hn, e⟩ := and31 (xs v4.toNatClampNeg)
      rw [e]
      clear e
      have hck : c0 + 2 * j + 2 ≤ 601024 := by omega
      have hsk : z0 + 12 * j + 12 ≤ 7293034 := by omega
      by_cases h23 : 23 ≤ n
      · refine lv_tableOut (tgt := 1294) hx hb dL_law_39 (Or.inr (by rw [nI_toInt (by omega)]; omega)) (by decide) ?_
        refine W.widen (k := c0 + 2 * j + 2) (n := z0 + 12 * j + 12) (by omega) (by omega) ?_
        exact hnext t0 t1 t2 hJ h0_23 h0_24 h0_27 h0_28 _ _ hP hD hS _ hl
      rcases (show n = 0 ∨ n = 1 ∨ n = 2 ∨ n = 3 ∨ n = 4 ∨ n = 5 ∨ n = 6 ∨ n = 7 ∨ n = 8 ∨ n = 9 ∨ n = 10 ∨ n = 11 ∨ n = 12 ∨ n = 13 ∨ n = 14 ∨ n = 15 ∨ n = 16 ∨ n = 17 ∨ n = 18 ∨ n = 19 ∨ n = 20 ∨ n = 21 ∨ n = 22 by omega) with rfl | rfl | rfl | rfl | rfl | rfl | rfl | rfl | rfl | rfl | rfl | rfl | rfl | rfl | rfl | rfl | rfl | rfl | rfl | rfl | rfl | rfl | rfl
      · refine lv_tableIn (off := 105) (tgt := 144) hx hb dL_law_39 (by decide +kernel) (by decide +kernel) (by decide +kernel) (by decide) ?_
        exact lw_case0 l hst C0 hK hN hX hC hA hbA h0 h0_1 h0_2 h0_3 h0_4 h0_5 h0_6 h0_7 h0_8 h0_9 h0_10 h0_11 h0_12 h0_13 h0_14 h0_15 h0_16 h0_17 h0_18 h0_19 h0_20 h0_21 h0_22 h0_25 h0_26 h0_29 h0_30 h1 h1_32 h1_33 h1_34 h1_35 h1_36 h1_37 h1_38 h2 _ _ hck hsk (fun (c : TriS) (m : ModS) (_ : Nat → Int64) => JJ c m) v4 hnext t0 t1 t2 (lc_0 hv1 hv2 hv3 hJ (fun _ _ _ h => h)) h0_23 h0_24 h0_27 h0_28 _ _ hP hD hS _ hl
      · refine lv_tableIn (off := 192) (tgt := 231) hx hb dL_law_39 (by decide +kernel) (by decide +kernel) (by decide +kernel) (by decide) ?_
        exact lw_case1 l hst C0 hK hN hX hC hA hbA h0 h0_1 h0_2 h0_3 h0_4 h0_5 h0_6 h0_7 h0_8 h0_9 h0_10 h0_11 h0_12 h0_13 h0_14 h0_15 h0_16 h0_17 h0_18 h0_19 h0_20 h0_21 h0_22 h0_25 h0_26 h0_29 h0_30 h1 h1_32 h1_33 h1_34 h1_35 h1_36 h1_37 h1_38 h2 _ _ hck hsk (fun (c : TriS) (m : ModS) (_ : Nat → Int64) => JJ c m) v4 hnext t0 t1 t2 (lc_1 hv1 hv2 hv3 hJ (fun _ _ _ h => h)) h0_23 h0_24 h0_27 h0_28 _ _ hP hD hS _ hl
      · refine lv_tableIn (off := 279) (tgt := 318) hx hb dL_law_39 (by decide +kernel) (by decide +kernel) (by decide +kernel) (by decide) ?_
        exact lw_case2 l hst C0 hK hN hX hC hA hbA h0 h0_1 h0_2 h0_3 h0_4 h0_5 h0_6 h0_7 h0_8 h0_9 h0_10 h0_11 h0_12 h0_13 h0_14 h0_15 h0_16 h0_17 h0_18 h0_19 h0_20 h0_21 h0_22 h0_25 h0_26 h0_29 h0_30 h1 h1_32 h1_33 h1_34 h1_35 h1_36 h1_37 h1_38 h2 _ _ hck hsk (fun (c : TriS) (m : ModS) (_ : Nat → Int64) => JJ c m) v4 hnext t0 t1 t2 (lc_2 hJ (fun _ _ _ h => h)) h0_23 h0_24 h0_27 h0_28 _ _ hP hD hS _ hl
      · refine lv_tableIn (off := 292) (tgt := 331) hx hb dL_law_39 (by decide +kernel) (by decide +kernel) (by decide +kernel) (by decide) ?_
        exact lw_case3 l hst C0 hK hN hX hC hA hbA h0 h0_1 h0_2 h0_3 h0_4 h0_5 h0_6 h0_7 h0_8 h0_9 h0_10 h0_11 h0_12 h0_13 h0_14 h0_15 h0_16 h0_17 h0_18 h0_19 h0_20 h0_21 h0_22 h0_25 h0_26 h0_29 h0_30 h1 h1_32 h1_33 h1_34 h1_35 h1_36 h1_37 h1_38 h2 _ _ hck hsk (fun (c : TriS) (m : ModS) (_ : Nat → Int64) => JJ c m) v4 hnext t0 t1 t2 (lc_3 hv1 hv2 hv3 hJ (fun _ _ _ h => h)) h0_23 h0_24 h0_27 h0_28 _ _ hP hD hS _ hl
      · refine lv_tableIn (off := 372) (tgt := 411) hx hb dL_law_39 (by decide +kernel) (by decide +kernel) (by decide +kernel) (by decide) ?_
        exact lw_case4 l hst C0 hK hN hX hC hA hbA h0 h0_1 h0_2 h0_3 h0_4 h0_5 h0_6 h0_7 h0_8 h0_9 h0_10 h0_11 h0_12 h0_13 h0_14 h0_15 h0_16 h0_17 h0_18 h0_19 h0_20 h0_21 h0_22 h0_25 h0_26 h0_29 h0_30 h1 h1_32 h1_33 h1_34 h1_35 h1_36 h1_37 h1_38 h2 _ _ hck hsk (fun (c : TriS) (m : ModS) (_ : Nat → Int64) => JJ c m) v4 hnext t0 t1 t2 (lc_4 hJ (fun _ _ _ h => h)) h0_23 h0_24 h0_27 h0_28 _ _ hP hD hS _ hl
      · refine lv_tableIn (off := 385) (tgt := 424) hx hb dL_law_39 (by decide +kernel) (by decide +kernel) (by decide +kernel) (by decide) ?_
        exact lw_case5 l hst C0 hK hN hX hC hA hbA h0 h0_1 h0_2 h0_3 h0_4 h0_5 h0_6 h0_7 h0_8 h0_9 h0_10 h0_11 h0_12 h0_13 h0_14 h0_15 h0_16 h0_17 h0_18 h0_19 h0_20 h0_21 h0_22 h0_25 h0_26 h0_29 h0_30 h1 h1_32 h1_33 h1_34 h1_35 h1_36 h1_37 h1_38 h2 _ _ hck hsk (fun (c : TriS) (m : ModS) (_ : Nat → Int64) => JJ c m) v4 hnext t0 t1 t2 (lc_5 hv1 hJ (fun _ _ _ h => h)) h0_23 h0_24 h0_27 h0_28 _ _ hP hD hS _ hl
      · refine lv_tableIn (off := 441) (tgt := 480) hx hb dL_law_39 (by decide +kernel) (by decide +kernel) (by decide +kernel) (by decide) ?_
        exact lw_case6 l hst C0 hK hN hX hC hA hbA h0 h0_1 h0_2 h0_3 h0_4 h0_5 h0_6 h0_7 h0_8 h0_9 h0_10 h0_11 h0_12 h0_13 h0_14 h0_15 h0_16 h0_17 h0_18 h0_19 h0_20 h0_21 h0_22 h0_25 h0_26 h0_29 h0_30 h1 h1_32 h1_33 h1_34 h1_35 h1_36 h1_37 h1_38 h2 _ _ hck hsk (fun (c : TriS) (m : ModS) (_ : Nat → Int64) => JJ c m) v4 hnext t0 t1 t2 (lc_6 hv1 hJ (fun _ _ _ h => h)) h0_23 h0_24 h0_27 h0_28 _ _ hP hD hS _ hl
      · refine lv_tableIn (off := 497) (tgt := 536) hx hb dL_law_39 (by decide +kernel) (by decide +kernel) (by decide +kernel) (by decide) ?_
        exact lw_case7 l hst C0 hK hN hX hC hA hbA h0 h0_1 h0_2 h0_3 h0_4 h0_5 h0_6 h0_7 h0_8 h0_9 h0_10 h0_11 h0_12 h0_13 h0_14 h0_15 h0_16 h0_17 h0_18 h0_19 h0_20 h0_21 h0_22 h0_25 h0_26 h0_29 h0_30 h1 h1_32 h1_33 h1_34 h1_35 h1_36 h1_37 h1_38 h2 _ _ hck hsk (fun (c : TriS) (m : ModS) (_ : Nat → Int64) => JJ c m) v4 hnext t0 t1 t2 (lc_7 hv1 hv2 hv3 hJ (fun _ _ _ h => h)) h0_23 h0_24 h0_27 h0_28 _ _ hP hD hS _ hl
      · refine lv_tableIn (off := 577) (tgt := 616) hx hb dL_law_39 (by decide +kernel) (by decide +kernel) (by decide +kernel) (by decide) ?_
        exact lw_case8 l hst C0 hK hN hX hC hA hbA h0 h0_1 h0_2 h0_3 h0_4 h0_5 h0_6 h0_7 h0_8 h0_9 h0_10 h0_11 h0_12 h0_13 h0_14 h0_15 h0_16 h0_17 h0_18 h0_19 h0_20 h0_21 h0_22 h0_25 h0_26 h0_29 h0_30 h1 h1_32 h1_33 h1_34 h1_35 h1_36 h1_37 h1_38 h2 _ _ hck hsk (fun (c : TriS) (m : ModS) (_ : Nat → Int64) => JJ c m) v4 hnext t0 t1 t2 (lc_8 hv1 hv2 hv3 hJ (fun _ _ _ h => h)) h0_23 h0_24 h0_27 h0_28 _ _ hP hD hS _ hl
      · refine lv_tableIn (off := 674) (tgt := 713) hx hb dL_law_39 (by decide +kernel) (by decide +kernel) (by decide +kernel) (by decide) ?_
        exact lw_case9 l hst C0 hK hN hX hC hA hbA h0 h0_1 h0_2 h0_3 h0_4 h0_5 h0_6 h0_7 h0_8 h0_9 h0_10 h0_11 h0_12 h0_13 h0_14 h0_15 h0_16 h0_17 h0_18 h0_19 h0_20 h0_21 h0_22 h0_25 h0_26 h0_29 h0_30 h1 h1_32 h1_33 h1_34 h1_35 h1_36 h1_37 h1_38 h2 _ _ hck hsk (fun (c : TriS) (m : ModS) (_ : Nat → Int64) => JJ c m) v4 hnext t0 t1 t2 (lc_9 hv1 hv2 hJ (fun _ _ _ h => h)) h0_23 h0_24 h0_27 h0_28 _ _ hP hD hS _ hl
      · refine lv_tableIn (off := 742) (tgt := 781) hx hb dL_law_39 (by decide +kernel) (by decide +kernel) (by decide +kernel) (by decide) ?_
        exact lw_case10 l hst C0 hK hN hX hC hA hbA h0 h0_1 h0_2 h0_3 h0_4 h0_5 h0_6 h0_7 h0_8 h0_9 h0_10 h0_11 h0_12 h0_13 h0_14 h0_15 h0_16 h0_17 h0_18 h0_19 h0_20 h0_21 h0_22 h0_25 h0_26 h0_29 h0_30 h1 h1_32 h1_33 h1_34 h1_35 h1_36 h1_37 h1_38 h2 _ _ hck hsk (fun (c : TriS) (m : ModS) (_ : Nat → Int64) => JJ c m) v4 hnext t0 t1 t2 (lc_10 hJ (fun _ _ _ h => h)) h0_23 h0_24 h0_27 h0_28 _ _ hP hD hS _ hl
      · refine lv_tableIn (off := 755) (tgt := 794) hx hb dL_law_39 (by decide +kernel) (by decide +kernel) (by decide +kernel) (by decide) ?_
        exact lw_case11 l hst C0 hK hN hX hC hA hbA h0 h0_1 h0_2 h0_3 h0_4 h0_5 h0_6 h0_7 h0_8 h0_9 h0_10 h0_11 h0_12 h0_13 h0_14 h0_15 h0_16 h0_17 h0_18 h0_19 h0_20 h0_21 h0_22 h0_25 h0_26 h0_29 h0_30 h1 h1_32 h1_33 h1_34 h1_35 h1_36 h1_37 h1_38 h2 _ _ hck hsk (fun (c : TriS) (m : ModS) (_ : Nat → Int64) => JJ c m) v4 hnext t0 t1 t2 (lc_11 hv1 hv2 hv3 hJ (fun _ _ _ h => h)) h0_23 h0_24 h0_27 h0_28 _ _ hP hD hS _ hl
      · refine lv_tableIn (off := 835) (tgt := 874) hx hb dL_law_39 (by decide +kernel) (by decide +kernel) (by decide +kernel) (by decide) ?_
        exact lw_case12 l hst C0 hK hN hX hC hA hbA h0 h0_1 h0_2 h0_3 h0_4 h0_5 h0_6 h0_7 h0_8 h0_9 h0_10 h0_11 h0_12 h0_13 h0_14 h0_15 h0_16 h0_17 h0_18 h0_19 h0_20 h0_21 h0_22 h0_25 h0_26 h0_29 h0_30 h1 h1_32 h1_33 h1_34 h1_35 h1_36 h1_37 h1_38 h2 _ _ hck hsk (fun (c : TriS) (m : ModS) (_ : Nat → Int64) => JJ c m) v4 hnext t0 t1 t2 (lc_12 hJ (fun _ _ _ h => h)) h0_23 h0_24 h0_27 h0_28 _ _ hP hD hS _ hl
      · refine lv_tableIn (off := 848) (tgt := 887) hx hb dL_law_39 (by decide +kernel) (by decide +kernel) (by decide +kernel) (by decide) ?_
        exact lw_case13 l hst C0 hK hN hX hC hA hbA h0 h0_1 h0_2 h0_3 h0_4 h0_5 h0_6 h0_7 h0_8 h0_9 h0_10 h0_11 h0_12 h0_13 h0_14 h0_15 h0_16 h0_17 h0_18 h0_19 h0_20 h0_21 h0_22 h0_25 h0_26 h0_29 h0_30 h1 h1_32 h1_33 h1_34 h1_35 h1_36 h1_37 h1_38 h2 _ _ hck hsk (fun (c : TriS) (m : ModS) (_ : Nat → Int64) => JJ c m) v4 hnext t0 t1 t2 (lc_13 hv1 hJ (fun _ _ _ h => h)) h0_23 h0_24 h0_27 h0_28 _ _ hP hD hS _ hl
      · refine lv_tableIn (off := 904) (tgt := 943) hx hb dL_law_39 (by decide +kernel) (by decide +kernel) (by decide +kernel) (by decide) ?_
        exact lw_case14 l hst C0 hK hN hX hC hA hbA h0 h0_1 h0_2 h0_3 h0_4 h0_5 h0_6 h0_7 h0_8 h0_9 h0_10 h0_11 h0_12 h0_13 h0_14 h0_15 h0_16 h0_17 h0_18 h0_19 h0_20 h0_21 h0_22 h0_25 h0_26 h0_29 h0_30 h1 h1_32 h1_33 h1_34 h1_35 h1_36 h1_37 h1_38 h2 _ _ hck hsk (fun (c : TriS) (m : ModS) (_ : Nat → Int64) => JJ c m) v4 hnext t0 t1 t2 (lc_14 hJ (fun _ _ _ h => h)) h0_23 h0_24 h0_27 h0_28 _ _ hP hD hS _ hl
      · refine lv_tableIn (off := 917) (tgt := 956) hx hb dL_law_39 (by decide +kernel) (by decide +kernel) (by decide +kernel) (by decide) ?_
        exact lw_case15 l hst C0 hK hN hX hC hA hbA h0 h0_1 h0_2 h0_3 h0_4 h0_5 h0_6 h0_7 h0_8 h0_9 h0_10 h0_11 h0_12 h0_13 h0_14 h0_15 h0_16 h0_17 h0_18 h0_19 h0_20 h0_21 h0_22 h0_25 h0_26 h0_29 h0_30 h1 h1_32 h1_33 h1_34 h1_35 h1_36 h1_37 h1_38 h2 _ _ hck hsk (fun (c : TriS) (m : ModS) (_ : Nat → Int64) => JJ c m) v4 hnext t0 t1 t2 (lc_15 hJ (fun _ _ _ h => h)) h0_23 h0_24 h0_27 h0_28 _ _ hP hD hS _ hl
      · refine lv_tableIn (off := 930) (tgt := 969) hx hb dL_law_39 (by decide +kernel) (by decide +kernel) (by decide +kernel) (by decide) ?_
        exact lw_case16 l hst C0 hK hN hX hC hA hbA h0 h0_1 h0_2 h0_3 h0_4 h0_5 h0_6 h0_7 h0_8 h0_9 h0_10 h0_11 h0_12 h0_13 h0_14 h0_15 h0_16 h0_17 h0_18 h0_19 h0_20 h0_21 h0_22 h0_25 h0_26 h0_29 h0_30 h1 h1_32 h1_33 h1_34 h1_35 h1_36 h1_37 h1_38 h2 _ _ hck hsk (fun (c : TriS) (m : ModS) (_ : Nat → Int64) => JJ c m) v4 hnext t0 t1 t2 (lc_16 hv1 hJ (fun _ _ _ h => h)) h0_23 h0_24 h0_27 h0_28 _ _ hP hD hS _ hl
      · refine lv_tableIn (off := 986) (tgt := 1025) hx hb dL_law_39 (by decide +kernel) (by decide +kernel) (by decide +kernel) (by decide) ?_
        exact lw_case17 l hst C0 hK hN hX hC hA hbA h0 h0_1 h0_2 h0_3 h0_4 h0_5 h0_6 h0_7 h0_8 h0_9 h0_10 h0_11 h0_12 h0_13 h0_14 h0_15 h0_16 h0_17 h0_18 h0_19 h0_20 h0_21 h0_22 h0_25 h0_26 h0_29 h0_30 h1 h1_32 h1_33 h1_34 h1_35 h1_36 h1_37 h1_38 h2 _ _ hck hsk (fun (c : TriS) (m : ModS) (_ : Nat → Int64) => JJ c m) v4 hnext t0 t1 t2 (lc_17 hJ (fun _ _ _ h => h)) h0_23 h0_24 h0_27 h0_28 _ _ hP hD hS _ hl
      · refine lv_tableIn (off := 1030) (tgt := 1069) hx hb dL_law_39 (by decide +kernel) (by decide +kernel) (by decide +kernel) (by decide) ?_
        exact lw_case18 l hst C0 hK hN hX hC hA hbA h0 h0_1 h0_2 h0_3 h0_4 h0_5 h0_6 h0_7 h0_8 h0_9 h0_10 h0_11 h0_12 h0_13 h0_14 h0_15 h0_16 h0_17 h0_18 h0_19 h0_20 h0_21 h0_22 h0_25 h0_26 h0_29 h0_30 h1 h1_32 h1_33 h1_34 h1_35 h1_36 h1_37 h1_38 h2 _ _ hck hsk (fun (c : TriS) (m : ModS) (_ : Nat → Int64) => JJ c m) v4 hnext t0 t1 t2 (lc_18 hJ (fun _ _ _ h => h)) h0_23 h0_24 h0_27 h0_28 _ _ hP hD hS _ hl
      · refine lv_tableIn (off := 1074) (tgt := 1113) hx hb dL_law_39 (by decide +kernel) (by decide +kernel) (by decide +kernel) (by decide) ?_
        exact lw_case19 l hst C0 hK hN hX hC hA hbA h0 h0_1 h0_2 h0_3 h0_4 h0_5 h0_6 h0_7 h0_8 h0_9 h0_10 h0_11 h0_12 h0_13 h0_14 h0_15 h0_16 h0_17 h0_18 h0_19 h0_20 h0_21 h0_22 h0_25 h0_26 h0_29 h0_30 h1 h1_32 h1_33 h1_34 h1_35 h1_36 h1_37 h1_38 h2 _ _ hck hsk (fun (c : TriS) (m : ModS) (_ : Nat → Int64) => JJ c m) v4 hnext t0 t1 t2 (lc_19 hJ (fun _ _ _ h => h)) h0_23 h0_24 h0_27 h0_28 _ _ hP hD hS _ hl
      · refine lv_tableIn (off := 1118) (tgt := 1157) hx hb dL_law_39 (by decide +kernel) (by decide +kernel) (by decide +kernel) (by decide) ?_
        exact lw_case20 l hst C0 hK hN hX hC hA hbA h0 h0_1 h0_2 h0_3 h0_4 h0_5 h0_6 h0_7 h0_8 h0_9 h0_10 h0_11 h0_12 h0_13 h0_14 h0_15 h0_16 h0_17 h0_18 h0_19 h0_20 h0_21 h0_22 h0_25 h0_26 h0_29 h0_30 h1 h1_32 h1_33 h1_34 h1_35 h1_36 h1_37 h1_38 h2 _ _ hck hsk (fun (c : TriS) (m : ModS) (_ : Nat → Int64) => JJ c m) v4 hnext t0 t1 t2 (lc_20 hJ (fun _ _ _ h => h)) h0_23 h0_24 h0_27 h0_28 _ _ hP hD hS _ hl
      · refine lv_tableIn (off := 1131) (tgt := 1170) hx hb dL_law_39 (by decide +kernel) (by decide +kernel) (by decide +kernel) (by decide) ?_
        exact lw_case21 l hst C0 hK hN hX hC hA hbA h0 h0_1 h0_2 h0_3 h0_4 h0_5 h0_6 h0_7 h0_8 h0_9 h0_10 h0_11 h0_12 h0_13 h0_14 h0_15 h0_16 h0_17 h0_18 h0_19 h0_20 h0_21 h0_22 h0_25 h0_26 h0_29 h0_30 h1 h1_32 h1_33 h1_34 h1_35 h1_36 h1_37 h1_38 h2 _ _ hck hsk (fun (c : TriS) (m : ModS) (_ : Nat → Int64) => JJ c m) v4 hnext t0 t1 t2 (lc_21 hv1 hv2 hJ (fun _ _ _ h => h)) h0_23 h0_24 h0_27 h0_28 _ _ hP hD hS _ hl
      · refine lv_tableIn (off := 1199) (tgt := 1238) hx hb dL_law_39 (by decide +kernel) (by decide +kernel) (by decide +kernel) (by decide) ?_
        exact lw_case22 l hst C0 hK hN hX hC hA hbA h0 h0_1 h0_2 h0_3 h0_4 h0_5 h0_6 h0_7 h0_8 h0_9 h0_10 h0_11 h0_12 h0_13 h0_14 h0_15 h0_16 h0_17 h0_18 h0_19 h0_20 h0_21 h0_22 h0_25 h0_26 h0_29 h0_30 h1 h1_32 h1_33 h1_34 h1_35 h1_36 h1_37 h1_38 h2 _ _ hck hsk (fun (c : TriS) (m : ModS) (_ : Nat → Int64) => JJ c m) v4 hnext t0 t1 t2 (lc_22 hv1 hJ (fun _ _ _ h => h)) h0_23 h0_24 h0_27 h0_28 _ _ hP hD hS _ hl
