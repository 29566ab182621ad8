abbrev Q_X4_init (dC : Nat → ClassId) (dI : Nat → Nat → Nat) (cI : ClassId) (h0 : Nat) (A : Nat → Prop) (post : SorS → Prop) : Array Value → State → Outcome → State → Prop := va_Qv post (fun (u : SorS) (t : State) => ∃ q_1 : Nat, va_P (dC, dI) vwCl [(h0, .inr (4, [.ref q_1, .int u.size])), (q_1, .inl (cI, 60, .inl u.keys))] t.heap ∧ va_D A [(h0, .inr (4, [.ref q_1, .int u.size])), (q_1, .inl (cI, 60, .inl u.keys))]) A
abbrev rm_X4_init : Room := { frames := 1, cells := 1, slots := 60, locals := 12 }
set_option maxHeartbeats 4000000 in
set_option maxRecDepth 100000 in
theorem c_X4_init (l : Launch) (dC : Nat → ClassId) (dI : Nat → Nat → Nat) (cI : ClassId) (h0 : Nat) (sz : Nat) (post : SorS → Prop) (h : P_X4_init post) : Met l yX4_init wsX4_init rm_X4_init (va_Pc [.ref h0] (cpre (dC, dI) [(cI, .int)] [(h0, .inr (4, [.null, .int (0 : Int32)]))] sz)) (Q_X4_init dC dI cI h0 (va_A [(h0, .inr (4, [.null, .int (0 : Int32)]))] sz) post) 1 (60) (va_A [(h0, .inr (4, [.null, .int (0 : Int32)]))] sz) := by
  refine Met.ofW (cc := cX4_init) (maxL := 1) (ret := none) (by decide) rfl ?_
  intro p e s m args below meth c s₁ B hml hv
  obtain ⟨rfl, hsz, hP, hK, hD0, hN⟩ := hv
  have hx := B.exec
  have hb := B.bytes
  have hr := B.returns
  have hts := atoms_spec (ws := wsX4_init) B.pre
  have hown : s.vm.findClass RX4 = some m.cls := findClass_of_methodNamed B.named
  have hlocks := B.notSynchronized
  have hmn : meth.name = "<init>" := (name_of_methodNamed B.named B.method).1
  subst hsz
  have hD := hD0.self (sz := s.heap.size)
  generalize hAe : va_A [(h0, .inr (4, [.null, .int (0 : Int32)]))] s.heap.size = A at hD ⊢
  have hA : ∀ q : Nat, s.heap.size ≤ q → A q := fun q h => by rw [← hAe]; exact Or.inr h
  clear hAe hD0
  have hS : va_S A s.heap s.heap [] := va_S.rf
  have hl := lv_entry ([.ref h0]) (n := 1) (Nat.le_of_ble_eq_true rfl)
  rw [lg_entry_eq]
  generalize (lg_sl ([.ref h0]) ++ List.replicate (1 - (lg_sl ([.ref h0])).length) Slot.unset).toArray = ls at hl ⊢
  have hl : lv_has ls 1 [(0, .ref h0)] := hl
  have hinX4 : ∀ w ∈ u_ws RX4 TX4 2, w ∈ wsX4_init := by decide +kernel
  refine lv_aload_n hx hb dX4_init_0 rfl (lv_at hl 0 rfl) ?_
  refine W.objInit hx hb hown (hts (.methodLink RX4 3 objectInit) (by decide +kernel)) (hts (.instanceMethod objectInit) (by decide +kernel)) (hts _ (List.mem_of_getElem? (i := 3) rfl)) rfl (by rw [hml]; exact hl.1) rfl dX4_init_1 (Nat.le_of_ble_eq_true rfl) (Nat.le_of_ble_eq_true rfl) ?_
  refine W.eq (g2 := F0 m 4 ls []) rfl ?_
  refine lv_aload_n hx hb dX4_init_4 rfl (lv_at hl 0 rfl) ?_
  refine lv_bipush (v := (60 : Int32)) hx hb dX4_init_5 (by decide) ?_
  refine va_newa (atype := .int) (ty := .int) (a0 := (60, .inl (fun _ => 0))) hx hb (hts (.arrayClass .int) (by decide +kernel)) rfl hK hP hD hS hA (fun _ => rfl) (by decide) (by decide +kernel) (by decide +kernel) (by decide +kernel) (by decide +kernel) dX4_init_7 (fun q_1 cA H hK9 hP hD hS => ?_)
  obtain rfl := arr_eq hK9
  refine W.widen (k := 1) (n := 60) (by omega) (by omega) ?_
  have hP : va_P (dC, dI) vwCl [(h0, .inr (4, [.null, .int (0 : Int32)])), (q_1, .inl (cI, 60, .inl (fun _ => 0)))] _ := hP
  have hD : va_D A [(h0, .inr (4, [.null, .int (0 : Int32)])), (q_1, .inl (cI, 60, .inl (fun _ => 0)))] := hD
  refine va_putF (D := (dC, dI)) (ci := 4) (v := .ref q_1) (ty := .array .int) (C := RX4) (T := TX4) (N := 2) hx hb hts (hinX4) tyX4 tyX4_ok nmX4 hown hK hP hD hS 0 rfl rfl 0 (by decide) (hts (.fieldLink RX4 9 "TripleJoins$Sorted" "keys" "[I") (by decide +kernel)) (fun _ h9 => h9) rfl hmn rfl (by decide +kernel) rfl rfl (Nat.le_of_ble_eq_true rfl) dX4_init_9 (fun H locs hP hD hS => ?_)
  have hP : va_P (dC, dI) vwCl [(h0, .inr (4, [.ref q_1, .int (0 : Int32)])), (q_1, .inl (cI, 60, .inl (fun _ => 0)))] _ := hP
  have hD : va_D A [(h0, .inr (4, [.ref q_1, .int (0 : Int32)])), (q_1, .inl (cI, 60, .inl (fun _ => 0)))] := hD
  refine lv_aload_n hx hb dX4_init_12 rfl (lv_at hl 0 rfl) ?_
  refine lv_iconst (v := (0 : Int32)) hx hb dX4_init_13 (by decide) ?_
  refine va_put (D := (dC, dI)) (ci := 4) (v := .int (0 : Int32)) (ty := .int) (C := RX4) (T := TX4) (N := 2) hx hb hts (hinX4) tyX4 tyX4_ok nmX4 hown hK hP hD hS 0 rfl rfl 1 (by decide) (hts (.fieldLink RX4 15 "TripleJoins$Sorted" "size" "I") (by decide +kernel)) (fun _ h9 => h9) rfl (by decide +kernel) rfl rfl (Nat.le_of_ble_eq_true rfl) dX4_init_14 (fun H locs hP hD hS => ?_)
  have hP : va_P (dC, dI) vwCl [(h0, .inr (4, [.ref q_1, .int (0 : Int32)])), (q_1, .inl (cI, 60, .inl (fun _ => 0)))] _ := hP
  have hD : va_D A [(h0, .inr (4, [.ref q_1, .int (0 : Int32)])), (q_1, .inl (cI, 60, .inl (fun _ => 0)))] := hD
  have hP := hP.sub (ws' := [(h0, .inr (4, [.ref q_1, .int (0 : Int32)])), (q_1, .inl (cI, 60, .inl (fun _ => 0)))]) [0, 1] rfl
  have hD := hD.sub (ws' := [(h0, .inr (4, [.ref q_1, .int (0 : Int32)])), (q_1, .inl (cI, 60, .inl (fun _ => 0)))]) [0, 1] (by decide) rfl
  refine W.widen (k := 1) (n := 60) (by omega) (by omega) ?_
  exact W.vret hx hb hr (fun t ht hW => ⟨⟨((fun _ => 0), (0 : Int32)), rfl, h, q_1, by rw [ht]; exact hP, hD⟩, hS.F ht⟩) hS.2.2 dX4_init_17
abbrev Q_X4_placeOf (dC : Nat → ClassId) (dI : Nat → Nat → Nat) (cI : ClassId) (h0 h0_1 : Nat) (s0 : SorS) (A : Nat → Prop) (post : Int32 → Prop) : Array Value → State → Outcome → State → Prop := va_Qi (fun (r : Int32) (_ : Unit) => post r) (fun _ _ => True) A
abbrev rm_X4_placeOf : Room := { frames := 1, cells := 0, slots := 0, locals := 21 }
set_option maxHeartbeats 4000000 in
set_option maxRecDepth 100000 in
theorem c_X4_placeOf (l : Launch) (dC : Nat → ClassId) (dI : Nat → Nat → Nat) (cI : ClassId) (h0 h0_1 : Nat) (sz : Nat) (s0 : SorS) (v1 : Int32) (post : Int32 → Prop) (h : P_X4_placeOf s0 v1 post) : Met l yX4_placeOf wsX4_placeOf rm_X4_placeOf (va_Pc [.ref h0, .int v1] (cpre (dC, dI) [(cI, .int)] [(h0, .inr (4, [.ref h0_1, .int s0.size])), (h0_1, .inl (cI, 60, .inl s0.keys))] sz)) (Q_X4_placeOf dC dI cI h0 h0_1 s0 (va_A [] sz) post) 0 0 (va_A [] sz) := by
  refine Met.ofW (cc := cX4_placeOf) (maxL := 5) (ret := (some .int)) (by decide) rfl ?_
  intro p e s m args below meth c s₁ B hml hv
  obtain ⟨rfl, hsz, hP, hK, hD0, hN⟩ := hv
  have hx := B.exec
  have hb := B.bytes
  have hr := B.returns
  have hts := atoms_spec (ws := wsX4_placeOf) B.pre
  have hown : s.vm.findClass RX4 = some m.cls := findClass_of_methodNamed B.named
  have hlocks := B.notSynchronized
  subst hsz
  have hD := hD0
  generalize hAe : va_A [] s.heap.size = A
  have hA : ∀ q : Nat, s.heap.size ≤ q → A q := fun q h => by rw [← hAe]; exact Or.inr h
  clear hAe hD0
  obtain ⟨s0_keys, s0_size⟩ := s0
  have hS : va_S A s.heap s.heap [] := va_S.rf
  have hP : va_P (dC, dI) vwCl [(h0, .inr (4, [.ref h0_1, .int s0_size])), (h0_1, .inl (cI, 60, .inl s0_keys))] s.heap := hP
  have hD : va_D (fun _ : Nat => True) [(h0, .inr (4, [.ref h0_1, .int s0_size])), (h0_1, .inl (cI, 60, .inl s0_keys))] := hD
  have hl := lv_entry ([.ref h0, .int v1]) (n := 5) (Nat.le_of_ble_eq_true rfl)
  rw [lg_entry_eq]
  generalize (lg_sl ([.ref h0, .int v1]) ++ List.replicate (5 - (lg_sl ([.ref h0, .int v1])).length) Slot.unset).toArray = ls at hl ⊢
  have hl : lv_has ls 5 [(0, .ref h0), (1, .int v1)] := hl
  have hinX4 : ∀ w ∈ u_ws RX4 TX4 2, w ∈ wsX4_placeOf := by decide +kernel
  refine lv_iconst (v := (0 : Int32)) hx hb dX4_placeOf_0 (by decide) ?_
  refine lv_istore_n (lv' := [(2, .int (0 : Int32)), (0, .ref h0), (1, .int v1)]) hx hb dX4_placeOf_1 rfl hl (by decide) rfl (fun ls hl => ?_)
  refine lv_bipush (v := (32 : Int32)) hx hb dX4_placeOf_2 (by decide) ?_
  refine lv_istore_n (lv' := [(3, .int (32 : Int32)), (2, .int (0 : Int32)), (0, .ref h0), (1, .int v1)]) hx hb dX4_placeOf_4 rfl hl (by decide) rfl (fun ls hl => ?_)
  have hl : lv_has ls 5 [(0, .ref h0), (1, .int v1), (2, .int (0 : Int32)), (3, .int (32 : Int32))] := lv_sub hl [2, 3, 1, 0] rfl
  obtain ⟨I_1, hI_1, n_1, h⟩ := h
  have loop_1 : ∀ (n_1 : Nat) (v2_2 : Int32) (v3_3 : Int32) (h : I_1 n_1 (v2_2, v3_3)) (H : Heap) (locs : List Loc) (hP : va_P (dC, dI) vwCl [(h0, .inr (4, [.ref h0_1, .int s0_size])), (h0_1, .inl (cI, 60, .inl s0_keys))] H) (hD : va_D (fun _ : Nat => True) [(h0, .inr (4, [.ref h0_1, .int s0_size])), (h0_1, .inl (cI, 60, .inl s0_keys))]) (hS : va_S A s.heap H locs) (ls : Array Slot) (hl : lv_has ls 5 [(0, .ref h0), (1, .int v1), (2, .int v2_2), (3, .int v3_3)]), W p l e rm_X4_placeOf s m ([.ref h0, .int v1] : List Value).toArray below meth c H locs 0 0 (MQ below (Q_X4_placeOf dC dI cI h0 h0_1 (s0_keys, s0_size) A post) (([.ref h0, .int v1] : List Value).toArray) s 0 0 A) (F0 m 5 ls []) := by
    intro n_1
    induction n_1 using Nat.strongRecOn with
    | ind n_1 ih_1 =>
      intro v2_2 v3_3 h H locs hP hD hS ls hl
      have h := hI_1 n_1 _ h
      refine lv_iload_n hx hb dX4_placeOf_5 rfl (lv_at hl 3 rfl) ?_
      obtain ⟨ht_, hf_⟩ := h
      refine lv_if_le (tgt := 48) hx hb dX4_placeOf_6 (by decide) (fun c_4 => ?_) (fun c_4 => ?_)
      · have h := ht_ c_4
        refine lv_iload_n hx hb dX4_placeOf_48 rfl (lv_at hl 2 rfl) ?_
        exact W.iret (v := v2_2) hx hb hr (fun t ht hW => ⟨⟨v2_2, (), rfl, h, trivial⟩, hS.F ht⟩) hS.2.2 dX4_placeOf_49
      · have h := hf_ c_4
        refine lv_iload_n hx hb dX4_placeOf_9 rfl (lv_at hl 2 rfl) ?_
        refine lv_iload_n hx hb dX4_placeOf_10 rfl (lv_at hl 3 rfl) ?_
        refine lv_iadd hx hb dX4_placeOf_11 ?_
        refine lv_istore (lv' := [(4, .int (v2_2 + v3_3)), (0, .ref h0), (1, .int v1), (2, .int v2_2), (3, .int v3_3)]) hx hb dX4_placeOf_12 hl (by decide) rfl (fun ls hl => ?_)
        refine lv_iload hx hb dX4_placeOf_14 (lv_at hl 0 rfl) ?_
        refine lv_aload_n hx hb dX4_placeOf_16 rfl (lv_at hl 1 rfl) ?_
        refine va_get (D := (dC, dI)) (ci := 4) (v := .int s0_size) (C := RX4) (T := TX4) (N := 2) hx hb hts (hinX4) hown hK hP 0 rfl rfl 1 (by decide) (hts (.fieldLink RX4 15 "TripleJoins$Sorted" "size" "I") (by decide +kernel)) (fun _ h9 => h9) rfl dX4_placeOf_17 ?_
        obtain ⟨ht_, hf_⟩ := h
        refine lv_icmp_gt (tgt := 41) hx hb dX4_placeOf_20 (by decide) (fun c_5 => ?_) (fun c_5 => ?_)
        · have h := ht_ c_5
          refine lv_iload_n hx hb dX4_placeOf_41 rfl (lv_at hl 4 rfl) ?_
          refine lv_iconst (v := (1 : Int32)) hx hb dX4_placeOf_42 (by decide) ?_
          refine lv_ishr hx hb dX4_placeOf_43 ?_
          refine lv_istore_n (lv' := [(3, .int (v3_3 >>> ((1 : Int32) &&& 31))), (4, .int (v2_2 + v3_3)), (0, .ref h0), (1, .int v1), (2, .int v2_2)]) hx hb dX4_placeOf_44 rfl hl (by decide) rfl (fun ls hl => ?_)
          refine lv_goto (tgt := 5) hx hb dX4_placeOf_45 (by decide) ?_
          have hl : lv_has ls 5 [(0, .ref h0), (1, .int v1), (2, .int v2_2), (3, .int (v3_3 >>> ((1 : Int32) &&& 31)))] := lv_sub hl [2, 3, 4, 0] rfl
          obtain ⟨k_6, hk_7, h⟩ := h
          exact ih_1 k_6 hk_7 v2_2 (v3_3 >>> ((1 : Int32) &&& 31)) h _ _ hP hD hS _ hl
        · have h := hf_ c_5
          refine lv_aload_n hx hb dX4_placeOf_23 rfl (lv_at hl 1 rfl) ?_
          refine va_get (D := (dC, dI)) (ci := 4) (v := .ref h0_1) (C := RX4) (T := TX4) (N := 2) hx hb hts (hinX4) hown hK hP 0 rfl rfl 0 (by decide) (hts (.fieldLink RX4 9 "TripleJoins$Sorted" "keys" "[I") (by decide +kernel)) (fun _ h9 => h9) rfl dX4_placeOf_24 ?_
          refine lv_iload hx hb dX4_placeOf_27 (lv_at hl 0 rfl) ?_
          refine lv_iconst (v := (1 : Int32)) hx hb dX4_placeOf_29 (by decide) ?_
          refine lv_isub hx hb dX4_placeOf_30 ?_
          have hPc := hP.sub (ws' := [(h0_1, .inl (cI, 60, .inl s0_keys))]) [1] rfl
          have hDc := hD.sub (ws' := [(h0_1, .inl (cI, 60, .inl s0_keys))]) [1] (by decide) rfl
          have hFc := fr0 hA hS
          refine va_calli (va_runSN (As := [.ref h0_1, .int ((v2_2 + v3_3) - (1 : Int32))]) (rest := []) ⟨hx, hb, hml, hown, hts⟩ (c_X7_at l dC dI cI h0_1 _ 60 s0_keys ((v2_2 + v3_3) - (1 : Int32)) _ h) ⟨va_cnB 2 hts gX4_placeOf_X7_at_n19 rfl rfl rfl (nk_get hN 8 rfl) (hts (.initialized RX7) (by decide +kernel)) (by decide +kernel) ⟨Nat.le_of_ble_eq_true rfl, Nat.le_of_ble_eq_true rfl⟩, (hts (.static yX7_at) (by decide +kernel)), trivial⟩ (pb_S hPc hK hDc hN) rfl rfl hl.1 rfl (lv_room (Nat.le_of_ble_eq_true rfl)) dX4_placeOf_31 ⟨Nat.zero_le _, Nat.zero_le _⟩) hS (fun q _ h => hFc q h) hFc (fun r_9 u_8 t H locs ht hvm h hB hz1 hk1 hS => ?_)
          have hP := vaPk hP hk1
          refine lv_iload_n hx hb dX4_placeOf_34 rfl (lv_at hl 2 rfl) ?_
          obtain ⟨ht_, hf_⟩ := h
          refine lv_icmp_ge (tgt := 41) hx hb dX4_placeOf_35 (by decide) (fun c_10 => ?_) (fun c_10 => ?_)
          · have h := ht_ c_10
            refine lv_iload_n hx hb dX4_placeOf_41 rfl (lv_at hl 4 rfl) ?_
            refine lv_iconst (v := (1 : Int32)) hx hb dX4_placeOf_42 (by decide) ?_
            refine lv_ishr hx hb dX4_placeOf_43 ?_
            refine lv_istore_n (lv' := [(3, .int (v3_3 >>> ((1 : Int32) &&& 31))), (4, .int (v2_2 + v3_3)), (0, .ref h0), (1, .int v1), (2, .int v2_2)]) hx hb dX4_placeOf_44 rfl hl (by decide) rfl (fun ls hl => ?_)
            refine lv_goto (tgt := 5) hx hb dX4_placeOf_45 (by decide) ?_
            have hl : lv_has ls 5 [(0, .ref h0), (1, .int v1), (2, .int v2_2), (3, .int (v3_3 >>> ((1 : Int32) &&& 31)))] := lv_sub hl [2, 3, 4, 0] rfl
            obtain ⟨k_11, hk_12, h⟩ := h
            exact ih_1 k_11 hk_12 v2_2 (v3_3 >>> ((1 : Int32) &&& 31)) h _ _ hP hD hS _ hl
          · have h := hf_ c_10
            refine lv_iload hx hb dX4_placeOf_38 (lv_at hl 0 rfl) ?_
            refine lv_istore_n (lv' := [(2, .int (v2_2 + v3_3)), (4, .int (v2_2 + v3_3)), (0, .ref h0), (1, .int v1), (3, .int v3_3)]) hx hb dX4_placeOf_40 rfl hl (by decide) rfl (fun ls hl => ?_)
            refine lv_iload_n hx hb dX4_placeOf_41 rfl (lv_at hl 4 rfl) ?_
            refine lv_iconst (v := (1 : Int32)) hx hb dX4_placeOf_42 (by decide) ?_
            refine lv_ishr hx hb dX4_placeOf_43 ?_
            refine lv_istore_n (lv' := [(3, .int (v3_3 >>> ((1 : Int32) &&& 31))), (2, .int (v2_2 + v3_3)), (4, .int (v2_2 + v3_3)), (0, .ref h0), (1, .int v1)]) hx hb dX4_placeOf_44 rfl hl (by decide) rfl (fun ls hl => ?_)
            refine lv_goto (tgt := 5) hx hb dX4_placeOf_45 (by decide) ?_
            have hl : lv_has ls 5 [(0, .ref h0), (1, .int v1), (2, .int (v2_2 + v3_3)), (3, .int (v3_3 >>> ((1 : Int32) &&& 31)))] := lv_sub hl [3, 4, 1, 0] rfl
            obtain ⟨k_13, hk_14, h⟩ := h
            exact ih_1 k_13 hk_14 (v2_2 + v3_3) (v3_3 >>> ((1 : Int32) &&& 31)) h _ _ hP hD hS _ hl
  exact loop_1 n_1 (0 : Int32) (32 : Int32) h _ _ hP hD hS _ hl
abbrev Q_X4_holds (dC : Nat → ClassId) (dI : Nat → Nat → Nat) (cI : ClassId) (h0 h0_1 : Nat) (s0 : SorS) (A : Nat → Prop) (post : Int32 → Prop) : Array Value → State → Outcome → State → Prop := va_Qi (fun (r : Int32) (_ : Unit) => post r) (fun _ _ => True) A
abbrev rm_X4_holds : Room := { frames := 2, cells := 0, slots := 0, locals := 45 }
set_option maxHeartbeats 4000000 in
set_option maxRecDepth 100000 in
theorem c_X4_holds (l : Launch) (dC : Nat → ClassId) (dI : Nat → Nat → Nat) (cI : ClassId) (h0 h0_1 : Nat) (sz : Nat) (s0 : SorS) (v1 : Int32) (post : Int32 → Prop) (h : P_X4_holds s0 v1 post) : Met l yX4_holds wsX4_holds rm_X4_holds (va_Pc [.ref h0, .int v1] (cpre (dC, dI) [(cI, .int)] [(h0, .inr (4, [.ref h0_1, .int s0.size])), (h0_1, .inl (cI, 60, .inl s0.keys))] sz)) (Q_X4_holds dC dI cI h0 h0_1 s0 (va_A [] sz) post) 0 0 (va_A [] sz) := by
  refine Met.ofW (cc := cX4_holds) (maxL := 3) (ret := (some .boolean)) (by decide) rfl ?_
  intro p e s m args below meth c s₁ B hml hv
  obtain ⟨rfl, hsz, hP, hK, hD0, hN⟩ := hv
  have hx := B.exec
  have hb := B.bytes
  have hr := B.returns
  have hts := atoms_spec (ws := wsX4_holds) B.pre
  have hown : s.vm.findClass RX4 = some m.cls := findClass_of_methodNamed B.named
  have hlocks := B.notSynchronized
  subst hsz
  have hD := hD0
  generalize hAe : va_A [] s.heap.size = A
  have hA : ∀ q : Nat, s.heap.size ≤ q → A q := fun q h => by rw [← hAe]; exact Or.inr h
  clear hAe hD0
  obtain ⟨s0_keys, s0_size⟩ := s0
  have hS : va_S A s.heap s.heap [] := va_S.rf
  have hP : va_P (dC, dI) vwCl [(h0, .inr (4, [.ref h0_1, .int s0_size])), (h0_1, .inl (cI, 60, .inl s0_keys))] s.heap := hP
  have hD : va_D (fun _ : Nat => True) [(h0, .inr (4, [.ref h0_1, .int s0_size])), (h0_1, .inl (cI, 60, .inl s0_keys))] := hD
  have hl := lv_entry ([.ref h0, .int v1]) (n := 3) (Nat.le_of_ble_eq_true rfl)
  rw [lg_entry_eq]
  generalize (lg_sl ([.ref h0, .int v1]) ++ List.replicate (3 - (lg_sl ([.ref h0, .int v1])).length) Slot.unset).toArray = ls at hl ⊢
  have hl : lv_has ls 3 [(0, .ref h0), (1, .int v1)] := hl
  have hinX4 : ∀ w ∈ u_ws RX4 TX4 2, w ∈ wsX4_holds := by decide +kernel
  refine lv_aload_n hx hb dX4_holds_0 rfl (lv_at hl 0 rfl) ?_
  refine lv_iload_n hx hb dX4_holds_1 rfl (lv_at hl 1 rfl) ?_
  have hPc := hP.sub (ws' := [(h0, .inr (4, [.ref h0_1, .int s0_size])), (h0_1, .inl (cI, 60, .inl s0_keys))]) [0, 1] rfl
  have hDc := hD.sub (ws' := [(h0, .inr (4, [.ref h0_1, .int s0_size])), (h0_1, .inl (cI, 60, .inl s0_keys))]) [0, 1] (by decide) rfl
  have hFc := fr0 hA hS
  refine va_calli (va_runV (As := [.int v1]) (rest := []) ⟨hx, hb, hml, hown, hts⟩ (c_X4_placeOf l dC dI cI h0 h0_1 _ (s0_keys, s0_size) v1 _ h) (cwV 1 hts gX4_holds_X4_placeOf rfl rfl rfl (by decide +kernel) ⟨Nat.le_of_ble_eq_true rfl, Nat.le_of_ble_eq_true rfl⟩) (pb_V hPc hK hDc hN (ci := 4) (q0 := 0) rfl rfl) rfl rfl hl.1 rfl (lv_room (Nat.le_of_ble_eq_true rfl)) dX4_holds_2 ⟨Nat.zero_le _, Nat.zero_le _⟩) hS (fun q _ h => hFc q h) hFc (fun r_2 u_1 t H locs ht hvm h hB hz1 hk1 hS => ?_)
  have hP := vaPk hP hk1
  refine lv_istore_n (lv' := [(2, .int r_2), (0, .ref h0), (1, .int v1)]) hx hb dX4_holds_5 rfl hl (by decide) rfl (fun ls hl => ?_)
  refine lv_iload_n hx hb dX4_holds_6 rfl (lv_at hl 0 rfl) ?_
  refine lv_aload_n hx hb dX4_holds_7 rfl (lv_at hl 1 rfl) ?_
  refine va_get (D := (dC, dI)) (ci := 4) (v := .int s0_size) (C := RX4) (T := TX4) (N := 2) hx hb hts (hinX4) hown hK hP 0 rfl rfl 1 (by decide) (hts (.fieldLink RX4 15 "TripleJoins$Sorted" "size" "I") (by decide +kernel)) (fun _ h9 => h9) rfl dX4_holds_8 ?_
  obtain ⟨ht_, hf_⟩ := h
  refine lv_icmp_ge (tgt := 30) hx hb dX4_holds_11 (by decide) (fun c_3 => ?_) (fun c_3 => ?_)
  · have h := ht_ c_3
    refine lv_iconst (v := (0 : Int32)) hx hb dX4_holds_30 (by decide) ?_
    exact W.zret (v := (0 : Int32)) hx hb hr (by decide +kernel) (fun t ht hW => ⟨⟨(0 : Int32), (), rfl, h, trivial⟩, hS.F ht⟩) hS.2.2 dX4_holds_31
  · have h := hf_ c_3
    refine lv_aload_n hx hb dX4_holds_14 rfl (lv_at hl 1 rfl) ?_
    refine va_get (D := (dC, dI)) (ci := 4) (v := .ref h0_1) (C := RX4) (T := TX4) (N := 2) hx hb hts (hinX4) hown hK hP 0 rfl rfl 0 (by decide) (hts (.fieldLink RX4 9 "TripleJoins$Sorted" "keys" "[I") (by decide +kernel)) (fun _ h9 => h9) rfl dX4_holds_15 ?_
    refine lv_iload_n hx hb dX4_holds_18 rfl (lv_at hl 0 rfl) ?_
    have hPc := hP.sub (ws' := [(h0_1, .inl (cI, 60, .inl s0_keys))]) [1] rfl
    have hDc := hD.sub (ws' := [(h0_1, .inl (cI, 60, .inl s0_keys))]) [1] (by decide) rfl
    have hFc := fr0 hA hS
    refine va_calli (va_runSN (As := [.ref h0_1, .int r_2]) (rest := []) ⟨hx, hb, hml, hown, hts⟩ (c_X7_at l dC dI cI h0_1 _ 60 s0_keys r_2 _ h) ⟨va_cnB 2 hts gX4_holds_X7_at_n19 rfl rfl rfl (nk_get hN 8 rfl) (hts (.initialized RX7) (by decide +kernel)) (by decide +kernel) ⟨Nat.le_of_ble_eq_true rfl, Nat.le_of_ble_eq_true rfl⟩, (hts (.static yX7_at) (by decide +kernel)), trivial⟩ (pb_S hPc hK hDc hN) rfl rfl hl.1 rfl (lv_room (Nat.le_of_ble_eq_true rfl)) dX4_holds_19 ⟨Nat.zero_le _, Nat.zero_le _⟩) hS (fun q _ h => hFc q h) hFc (fun r_5 u_4 t H locs ht hvm h hB hz1 hk1 hS => ?_)
    have hP := vaPk hP hk1
    refine lv_iload_n hx hb dX4_holds_22 rfl (lv_at hl 2 rfl) ?_
    obtain ⟨ht_, hf_⟩ := h
    refine lv_icmp_ne (tgt := 30) hx hb dX4_holds_23 (by decide) (fun c_6 => ?_) (fun c_6 => ?_)
    · have h := ht_ c_6
      refine lv_iconst (v := (0 : Int32)) hx hb dX4_holds_30 (by decide) ?_
      exact W.zret (v := (0 : Int32)) hx hb hr (by decide +kernel) (fun t ht hW => ⟨⟨(0 : Int32), (), rfl, h, trivial⟩, hS.F ht⟩) hS.2.2 dX4_holds_31
    · have h := hf_ c_6
      refine lv_iconst (v := (1 : Int32)) hx hb dX4_holds_26 (by decide) ?_
      refine lv_goto (tgt := 31) hx hb dX4_holds_27 (by decide) ?_
      exact W.zret (v := (1 : Int32)) hx hb hr (by decide +kernel) (fun t ht hW => ⟨⟨(1 : Int32), (), rfl, h, trivial⟩, hS.F ht⟩) hS.2.2 dX4_holds_31
abbrev Q_X4_size (dC : Nat → ClassId) (dI : Nat → Nat → Nat) (cI : ClassId) (h0 h0_1 : Nat) (s0 : SorS) (A : Nat → Prop) (post : Int32 → Prop) : Array Value → State → Outcome → State → Prop := va_Qi (fun (r : Int32) (_ : Unit) => post r) (fun _ _ => True) A
abbrev rm_X4_size : Room := { frames := 0, cells := 0, slots := 0, locals := 0 }
set_option maxHeartbeats 4000000 in
set_option maxRecDepth 100000 in
theorem c_X4_size (l : Launch) (dC : Nat → ClassId) (dI : Nat → Nat → Nat) (cI : ClassId) (h0 h0_1 : Nat) (sz : Nat) (s0 : SorS) (post : Int32 → Prop) (h : P_X4_size s0 post) : Met l yX4_size wsX4_size rm_X4_size (va_Pc [.ref h0] (cpre (dC, dI) [(cI, .int)] [(h0, .inr (4, [.ref h0_1, .int s0.size])), (h0_1, .inl (cI, 60, .inl s0.keys))] sz)) (Q_X4_size dC dI cI h0 h0_1 s0 (va_A [] sz) post) 0 0 (va_A [] sz) := by
  refine Met.ofW (cc := cX4_size) (maxL := 1) (ret := (some .int)) (by decide) rfl ?_
  intro p e s m args below meth c s₁ B hml hv
  obtain ⟨rfl, hsz, hP, hK, hD0, hN⟩ := hv
  have hx := B.exec
  have hb := B.bytes
  have hr := B.returns
  have hts := atoms_spec (ws := wsX4_size) B.pre
  have hown : s.vm.findClass RX4 = some m.cls := findClass_of_methodNamed B.named
  have hlocks := B.notSynchronized
  subst hsz
  have hD := hD0
  generalize hAe : va_A [] s.heap.size = A
  have hA : ∀ q : Nat, s.heap.size ≤ q → A q := fun q h => by rw [← hAe]; exact Or.inr h
  clear hAe hD0
  obtain ⟨s0_keys, s0_size⟩ := s0
  have hS : va_S A s.heap s.heap [] := va_S.rf
  have hP : va_P (dC, dI) vwCl [(h0, .inr (4, [.ref h0_1, .int s0_size])), (h0_1, .inl (cI, 60, .inl s0_keys))] s.heap := hP
  have hD : va_D (fun _ : Nat => True) [(h0, .inr (4, [.ref h0_1, .int s0_size])), (h0_1, .inl (cI, 60, .inl s0_keys))] := hD
  have hl := lv_entry ([.ref h0]) (n := 1) (Nat.le_of_ble_eq_true rfl)
  rw [lg_entry_eq]
  generalize (lg_sl ([.ref h0]) ++ List.replicate (1 - (lg_sl ([.ref h0])).length) Slot.unset).toArray = ls at hl ⊢
  have hl : lv_has ls 1 [(0, .ref h0)] := hl
  have hinX4 : ∀ w ∈ u_ws RX4 TX4 2, w ∈ wsX4_size := by decide +kernel
  refine lv_aload_n hx hb dX4_size_0 rfl (lv_at hl 0 rfl) ?_
  refine va_get (D := (dC, dI)) (ci := 4) (v := .int s0_size) (C := RX4) (T := TX4) (N := 2) hx hb hts (hinX4) hown hK hP 0 rfl rfl 1 (by decide) (hts (.fieldLink RX4 15 "TripleJoins$Sorted" "size" "I") (by decide +kernel)) (fun _ h9 => h9) rfl dX4_size_1 ?_
  exact W.iret (v := s0_size) hx hb hr (fun t ht hW => ⟨⟨s0_size, (), rfl, h, trivial⟩, hS.F ht⟩) hS.2.2 dX4_size_4
abbrev Q_X4_insert (dC : Nat → ClassId) (dI : Nat → Nat → Nat) (cI : ClassId) (h0 h0_1 : Nat) (s0 : SorS) (A : Nat → Prop) (post : SorS → Prop) : Array Value → State → Outcome → State → Prop := va_Qv post (fun (u : SorS) (t : State) => va_P (dC, dI) vwCl [(h0, .inr (4, [.ref h0_1, .int u.size])), (h0_1, .inl (cI, 60, .inl u.keys))] t.heap ∧ va_D A [(h0, .inr (4, [.ref h0_1, .int u.size])), (h0_1, .inl (cI, 60, .inl u.keys))]) A
abbrev rm_X4_insert : Room := { frames := 2, cells := 0, slots := 0, locals := 45 }
set_option maxHeartbeats 4000000 in
set_option maxRecDepth 100000 in
theorem c_X4_insert (l : Launch) (dC : Nat → ClassId) (dI : Nat → Nat → Nat) (cI : ClassId) (h0 h0_1 : Nat) (sz : Nat) (s0 : SorS) (v1 : Int32) (post : SorS → Prop) (h : P_X4_insert s0 v1 post) : Met l yX4_insert wsX4_insert rm_X4_insert (va_Pc [.ref h0, .int v1] (cpre (dC, dI) [(cI, .int)] [(h0, .inr (4, [.ref h0_1, .int s0.size])), (h0_1, .inl (cI, 60, .inl s0.keys))] sz)) (Q_X4_insert dC dI cI h0 h0_1 s0 (va_A [(h0, .inr (4, [.ref h0_1, .int s0.size])), (h0_1, .inl (cI, 60, .inl s0.keys))] sz) post) 0 0 (va_A [(h0, .inr (4, [.ref h0_1, .int s0.size])), (h0_1, .inl (cI, 60, .inl s0.keys))] sz) := by
  refine Met.ofW (cc := cX4_insert) (maxL := 4) (ret := none) (by decide) rfl ?_
  intro p e s m args below meth c s₁ B hml hv
  obtain ⟨rfl, hsz, hP, hK, hD0, hN⟩ := hv
  have hx := B.exec
  have hb := B.bytes
  have hr := B.returns
  have hts := atoms_spec (ws := wsX4_insert) B.pre
  have hown : s.vm.findClass RX4 = some m.cls := findClass_of_methodNamed B.named
  have hlocks := B.notSynchronized
  subst hsz
  have hD := hD0.self (sz := s.heap.size)
  generalize hAe : va_A [(h0, .inr (4, [.ref h0_1, .int s0.size])), (h0_1, .inl (cI, 60, .inl s0.keys))] s.heap.size = A at hD ⊢
  have hA : ∀ q : Nat, s.heap.size ≤ q → A q := fun q h => by rw [← hAe]; exact Or.inr h
  clear hAe hD0
  obtain ⟨s0_keys, s0_size⟩ := s0
  have hS : va_S A s.heap s.heap [] := va_S.rf
  have hP : va_P (dC, dI) vwCl [(h0, .inr (4, [.ref h0_1, .int s0_size])), (h0_1, .inl (cI, 60, .inl s0_keys))] s.heap := hP
  have hD : va_D A [(h0, .inr (4, [.ref h0_1, .int s0_size])), (h0_1, .inl (cI, 60, .inl s0_keys))] := hD
  have hl := lv_entry ([.ref h0, .int v1]) (n := 4) (Nat.le_of_ble_eq_true rfl)
  rw [lg_entry_eq]
  generalize (lg_sl ([.ref h0, .int v1]) ++ List.replicate (4 - (lg_sl ([.ref h0, .int v1])).length) Slot.unset).toArray = ls at hl ⊢
  have hl : lv_has ls 4 [(0, .ref h0), (1, .int v1)] := hl
  have hinX4 : ∀ w ∈ u_ws RX4 TX4 2, w ∈ wsX4_insert := by decide +kernel
  refine lv_aload_n hx hb dX4_insert_0 rfl (lv_at hl 0 rfl) ?_
  refine va_get (D := (dC, dI)) (ci := 4) (v := .int s0_size) (C := RX4) (T := TX4) (N := 2) hx hb hts (hinX4) hown hK hP 0 rfl rfl 1 (by decide) (hts (.fieldLink RX4 15 "TripleJoins$Sorted" "size" "I") (by decide +kernel)) (fun _ h9 => h9) rfl dX4_insert_1 ?_
  refine lv_bipush (v := (60 : Int32)) hx hb dX4_insert_4 (by decide) ?_
  obtain ⟨ht_, hf_⟩ := h
  refine lv_icmp_lt (tgt := 10) hx hb dX4_insert_6 (by decide) (fun c_1 => ?_) (fun c_1 => ?_)
  · have h := ht_ c_1
    refine lv_aload_n hx hb dX4_insert_10 rfl (lv_at hl 0 rfl) ?_
    refine lv_iload_n hx hb dX4_insert_11 rfl (lv_at hl 1 rfl) ?_
    have hPc := hP.sub (ws' := [(h0, .inr (4, [.ref h0_1, .int s0_size])), (h0_1, .inl (cI, 60, .inl s0_keys))]) [0, 1] rfl
    have hDc := hD.sub (ws' := [(h0, .inr (4, [.ref h0_1, .int s0_size])), (h0_1, .inl (cI, 60, .inl s0_keys))]) [0, 1] (by decide) rfl
    have hFc := fr0 hA hS
    refine va_calli (va_runV (As := [.int v1]) (rest := []) ⟨hx, hb, hml, hown, hts⟩ (c_X4_placeOf l dC dI cI h0 h0_1 _ (s0_keys, s0_size) v1 _ h) (cwV 1 hts gX4_insert_X4_placeOf rfl rfl rfl (by decide +kernel) ⟨Nat.le_of_ble_eq_true rfl, Nat.le_of_ble_eq_true rfl⟩) (pb_V hPc hK hDc hN (ci := 4) (q0 := 0) rfl rfl) rfl rfl hl.1 rfl (lv_room (Nat.le_of_ble_eq_true rfl)) dX4_insert_12 ⟨Nat.zero_le _, Nat.zero_le _⟩) hS (fun q _ h => hFc q h) hFc (fun r_3 u_2 t H locs ht hvm h hB hz1 hk1 hS => ?_)
    have hP := vaPk hP hk1
    refine lv_istore_n (lv' := [(2, .int r_3), (0, .ref h0), (1, .int v1)]) hx hb dX4_insert_15 rfl hl (by decide) rfl (fun ls hl => ?_)
    refine lv_aload_n hx hb dX4_insert_16 rfl (lv_at hl 1 rfl) ?_
    refine va_get (D := (dC, dI)) (ci := 4) (v := .int s0_size) (C := RX4) (T := TX4) (N := 2) hx hb hts (hinX4) hown hK hP 0 rfl rfl 1 (by decide) (hts (.fieldLink RX4 15 "TripleJoins$Sorted" "size" "I") (by decide +kernel)) (fun _ h9 => h9) rfl dX4_insert_17 ?_
    refine lv_istore_n (lv' := [(3, .int s0_size), (2, .int r_3), (0, .ref h0), (1, .int v1)]) hx hb dX4_insert_20 rfl hl (by decide) rfl (fun ls hl => ?_)
    have hl : lv_has ls 4 [(0, .ref h0), (1, .int v1), (2, .int r_3), (3, .int s0_size)] := lv_sub hl [2, 3, 1, 0] rfl
    obtain ⟨I_4, hI_4, n_4, h⟩ := h
    have loop_4 : ∀ (n_4 : Nat) (v3_5 : Int32) (s0_6_keys : Nat → Int32) (s0_6_size : Int32) (h : I_4 n_4 (v3_5, (s0_6_keys, s0_6_size))) (H : Heap) (locs : List Loc) (hP : va_P (dC, dI) vwCl [(h0, .inr (4, [.ref h0_1, .int s0_6_size])), (h0_1, .inl (cI, 60, .inl s0_6_keys))] H) (hD : va_D A [(h0, .inr (4, [.ref h0_1, .int s0_6_size])), (h0_1, .inl (cI, 60, .inl s0_6_keys))]) (hS : va_S A s.heap H locs) (ls : Array Slot) (hl : lv_has ls 4 [(0, .ref h0), (1, .int v1), (2, .int r_3), (3, .int v3_5)]), W p l e rm_X4_insert s m ([.ref h0, .int v1] : List Value).toArray below meth c H locs 0 0 (MQ below (Q_X4_insert dC dI cI h0 h0_1 (s0_keys, s0_size) A post) (([.ref h0, .int v1] : List Value).toArray) s 0 0 A) (F0 m 21 ls []) := by
      intro n_4
      induction n_4 using Nat.strongRecOn with
      | ind n_4 ih_4 =>
        intro v3_5 s0_6_keys s0_6_size h H locs hP hD hS ls hl
        have h := hI_4 n_4 _ h
        refine lv_iload_n hx hb dX4_insert_21 rfl (lv_at hl 3 rfl) ?_
        refine lv_iload_n hx hb dX4_insert_22 rfl (lv_at hl 2 rfl) ?_
        obtain ⟨ht_, hf_⟩ := h
        refine lv_icmp_le (tgt := 50) hx hb dX4_insert_23 (by decide) (fun c_7 => ?_) (fun c_7 => ?_)
        · have h := ht_ c_7
          refine lv_aload_n hx hb dX4_insert_50 rfl (lv_at hl 0 rfl) ?_
          refine va_get (D := (dC, dI)) (ci := 4) (v := .ref h0_1) (C := RX4) (T := TX4) (N := 2) hx hb hts (hinX4) hown hK hP 0 rfl rfl 0 (by decide) (hts (.fieldLink RX4 9 "TripleJoins$Sorted" "keys" "[I") (by decide +kernel)) (fun _ h9 => h9) rfl dX4_insert_51 ?_
          refine lv_iload_n hx hb dX4_insert_54 rfl (lv_at hl 2 rfl) ?_
          refine lv_iload_n hx hb dX4_insert_55 rfl (lv_at hl 1 rfl) ?_
          have hPc := hP.sub (ws' := [(h0_1, .inl (cI, 60, .inl s0_6_keys))]) [1] rfl
          have hDc := hD.sub (ws' := [(h0_1, .inl (cI, 60, .inl s0_6_keys))]) [1] (by decide) rfl
          have hFc := va_free (wc := [(h0_1, .inl (cI, 60, .inl s0_6_keys))]) hD hS hA [1] rfl
          refine va_callv (va_runSN (As := [.ref h0_1, .int r_3, .int v1]) (rest := []) ⟨hx, hb, hml, hown, hts⟩ (c_X7_put l dC dI cI h0_1 _ 60 s0_6_keys r_3 v1 _ h) ⟨va_cnB 3 hts gX4_insert_X7_put_n27 rfl rfl rfl (nk_get hN 10 rfl) (hts (.initialized RX7) (by decide +kernel)) (by decide +kernel) ⟨Nat.le_of_ble_eq_true rfl, Nat.le_of_ble_eq_true rfl⟩, (hts (.static yX7_put) (by decide +kernel)), trivial⟩ (pb_S hPc hK hDc hN) rfl rfl hl.1 rfl (lv_room (Nat.le_of_ble_eq_true rfl)) dX4_insert_56 ⟨Nat.zero_le _, Nat.zero_le _⟩) hS (fun q _ h => hFc q h) hFc (fun u_8 t H locs ht hvm h hB hz1 hk1 hS => ?_)
          obtain ⟨hP1, hD1⟩ := hB
          rw [ht] at hP1
          obtain ⟨hP, hD⟩ := cl_join (wr := [(h0, .inr (4, [.ref h0_1, .int s0_6_size]))]) (w1 := [(h0_1, .inl (cI, 60, .inl u_8))]) (ws' := [(h0, .inr (4, [.ref h0_1, .int s0_6_size])), (h0_1, .inl (cI, 60, .inl u_8))]) hP hD [1] [0] [0, 1] rfl rfl (by decide) (by decide) (by decide) rfl hk1 hFc hP1 hD1
          refine lv_aload_n hx hb dX4_insert_59 rfl (lv_at hl 0 rfl) ?_
          refine lv_dup hx hb dX4_insert_60 rfl ?_
          refine va_get (D := (dC, dI)) (ci := 4) (v := .int s0_6_size) (C := RX4) (T := TX4) (N := 2) hx hb hts (hinX4) hown hK hP 0 rfl rfl 1 (by decide) (hts (.fieldLink RX4 15 "TripleJoins$Sorted" "size" "I") (by decide +kernel)) (fun _ h9 => h9) rfl dX4_insert_61 ?_
          refine lv_iconst (v := (1 : Int32)) hx hb dX4_insert_64 (by decide) ?_
          refine lv_iadd hx hb dX4_insert_65 ?_
          refine va_put (D := (dC, dI)) (ci := 4) (v := .int (s0_6_size + (1 : Int32))) (ty := .int) (C := RX4) (T := TX4) (N := 2) hx hb hts (hinX4) tyX4 tyX4_ok nmX4 hown hK hP hD hS 0 rfl rfl 1 (by decide) (hts (.fieldLink RX4 15 "TripleJoins$Sorted" "size" "I") (by decide +kernel)) (fun _ h9 => h9) rfl (by decide +kernel) rfl rfl (Nat.le_of_ble_eq_true rfl) dX4_insert_66 (fun H locs hP hD hS => ?_)
          have hP : va_P (dC, dI) vwCl [(h0, .inr (4, [.ref h0_1, .int (s0_6_size + (1 : Int32))])), (h0_1, .inl (cI, 60, .inl u_8))] _ := hP
          have hD : va_D A [(h0, .inr (4, [.ref h0_1, .int (s0_6_size + (1 : Int32))])), (h0_1, .inl (cI, 60, .inl u_8))] := hD
          exact W.vret hx hb hr (fun t ht hW => ⟨⟨(u_8, (s0_6_size + (1 : Int32))), rfl, h, ⟨by rw [ht]; exact hP, hD⟩⟩, hS.F ht⟩) hS.2.2 dX4_insert_69
        · have h := hf_ c_7
          refine lv_aload_n hx hb dX4_insert_26 rfl (lv_at hl 0 rfl) ?_
          refine va_get (D := (dC, dI)) (ci := 4) (v := .ref h0_1) (C := RX4) (T := TX4) (N := 2) hx hb hts (hinX4) hown hK hP 0 rfl rfl 0 (by decide) (hts (.fieldLink RX4 9 "TripleJoins$Sorted" "keys" "[I") (by decide +kernel)) (fun _ h9 => h9) rfl dX4_insert_27 ?_
          refine lv_iload_n hx hb dX4_insert_30 rfl (lv_at hl 3 rfl) ?_
          refine lv_aload_n hx hb dX4_insert_31 rfl (lv_at hl 0 rfl) ?_
          refine va_get (D := (dC, dI)) (ci := 4) (v := .ref h0_1) (C := RX4) (T := TX4) (N := 2) hx hb hts (hinX4) hown hK hP 0 rfl rfl 0 (by decide) (hts (.fieldLink RX4 9 "TripleJoins$Sorted" "keys" "[I") (by decide +kernel)) (fun _ h9 => h9) rfl dX4_insert_32 ?_
          refine lv_iload_n hx hb dX4_insert_35 rfl (lv_at hl 3 rfl) ?_
          refine lv_iconst (v := (1 : Int32)) hx hb dX4_insert_36 (by decide) ?_
          refine lv_isub hx hb dX4_insert_37 ?_
          have hPc := hP.sub (ws' := [(h0_1, .inl (cI, 60, .inl s0_6_keys))]) [1] rfl
          have hDc := hD.sub (ws' := [(h0_1, .inl (cI, 60, .inl s0_6_keys))]) [1] (by decide) rfl
          have hFc := fr0 hA hS
          refine va_calli (va_runSN (As := [.ref h0_1, .int (v3_5 - (1 : Int32))]) (rest := [.int v3_5, .ref h0_1]) ⟨hx, hb, hml, hown, hts⟩ (c_X7_at l dC dI cI h0_1 _ 60 s0_6_keys (v3_5 - (1 : Int32)) _ h) ⟨va_cnB 2 hts gX4_insert_X7_at_n19 rfl rfl rfl (nk_get hN 8 rfl) (hts (.initialized RX7) (by decide +kernel)) (by decide +kernel) ⟨Nat.le_of_ble_eq_true rfl, Nat.le_of_ble_eq_true rfl⟩, (hts (.static yX7_at) (by decide +kernel)), trivial⟩ (pb_S hPc hK hDc hN) rfl rfl hl.1 rfl (lv_room (Nat.le_of_ble_eq_true rfl)) dX4_insert_38 ⟨Nat.zero_le _, Nat.zero_le _⟩) hS (fun q _ h => hFc q h) hFc (fun r_11 u_10 t H locs ht hvm h hB hz1 hk1 hS => ?_)
          have hP := vaPk hP hk1
          have hPc := hP.sub (ws' := [(h0_1, .inl (cI, 60, .inl s0_6_keys))]) [1] rfl
          have hDc := hD.sub (ws' := [(h0_1, .inl (cI, 60, .inl s0_6_keys))]) [1] (by decide) rfl
          have hFc := va_free (wc := [(h0_1, .inl (cI, 60, .inl s0_6_keys))]) hD hS hA [1] rfl
          refine va_callv (va_runSN (As := [.ref h0_1, .int v3_5, .int r_11]) (rest := []) ⟨hx, hb, hml, hown, hts⟩ (c_X7_put l dC dI cI h0_1 _ 60 s0_6_keys v3_5 r_11 _ h) ⟨va_cnB 3 hts gX4_insert_X7_put_n27 rfl rfl rfl (nk_get hN 10 rfl) (hts (.initialized RX7) (by decide +kernel)) (by decide +kernel) ⟨Nat.le_of_ble_eq_true rfl, Nat.le_of_ble_eq_true rfl⟩, (hts (.static yX7_put) (by decide +kernel)), trivial⟩ (pb_S hPc hK hDc hN) rfl rfl hl.1 rfl (lv_room (Nat.le_of_ble_eq_true rfl)) dX4_insert_41 ⟨Nat.zero_le _, Nat.zero_le _⟩) hS (fun q _ h => hFc q h) hFc (fun u_12 t H locs ht hvm h hB hz1 hk1 hS => ?_)
          obtain ⟨hP1, hD1⟩ := hB
          rw [ht] at hP1
          obtain ⟨hP, hD⟩ := cl_join (wr := [(h0, .inr (4, [.ref h0_1, .int s0_6_size]))]) (w1 := [(h0_1, .inl (cI, 60, .inl u_12))]) (ws' := [(h0, .inr (4, [.ref h0_1, .int s0_6_size])), (h0_1, .inl (cI, 60, .inl u_12))]) hP hD [1] [0] [0, 1] rfl rfl (by decide) (by decide) (by decide) rfl hk1 hFc hP1 hD1
          refine lv_iinc (v := (v3_5 + (-1 : Int32))) (lv' := [(3, .int (v3_5 + (-1 : Int32))), (0, .ref h0), (1, .int v1), (2, .int r_3)]) hx hb dX4_insert_44 hl (k := 3) rfl rfl (by decide) rfl (fun ls hl => ?_)
          refine lv_goto (tgt := 21) hx hb dX4_insert_47 (by decide) ?_
          have hl : lv_has ls 4 [(0, .ref h0), (1, .int v1), (2, .int r_3), (3, .int (v3_5 + (-1 : Int32)))] := lv_sub hl [1, 2, 3, 0] rfl
          obtain ⟨k_14, hk_15, h⟩ := h
          exact ih_4 k_14 hk_15 (v3_5 + (-1 : Int32)) u_12 s0_6_size h _ _ hP hD hS _ hl
    exact loop_4 n_4 s0_size s0_keys s0_size h _ _ hP hD hS _ hl
  · have h := hf_ c_1
    exact W.vret hx hb hr (fun t ht hW => ⟨⟨(s0_keys, s0_size), rfl, h, ⟨by rw [ht]; exact hP, hD⟩⟩, hS.F ht⟩) hS.2.2 dX4_insert_9
abbrev Q_X4_remove (dC : Nat → ClassId) (dI : Nat → Nat → Nat) (cI : ClassId) (h0 h0_1 : Nat) (s0 : SorS) (A : Nat → Prop) (post : SorS → Prop) : Array Value → State → Outcome → State → Prop := va_Qv post (fun (u : SorS) (t : State) => va_P (dC, dI) vwCl [(h0, .inr (4, [.ref h0_1, .int u.size])), (h0_1, .inl (cI, 60, .inl u.keys))] t.heap ∧ va_D A [(h0, .inr (4, [.ref h0_1, .int u.size])), (h0_1, .inl (cI, 60, .inl u.keys))]) A
abbrev rm_X4_remove : Room := { frames := 3, cells := 0, slots := 0, locals := 67 }
set_option maxHeartbeats 4000000 in
set_option maxRecDepth 100000 in
theorem c_X4_remove (l : Launch) (dC : Nat → ClassId) (dI : Nat → Nat → Nat) (cI : ClassId) (h0 h0_1 : Nat) (sz : Nat) (s0 : SorS) (v1 : Int32) (post : SorS → Prop) (h : P_X4_remove s0 v1 post) : Met l yX4_remove wsX4_remove rm_X4_remove (va_Pc [.ref h0, .int v1] (cpre (dC, dI) [(cI, .int)] [(h0, .inr (4, [.ref h0_1, .int s0.size])), (h0_1, .inl (cI, 60, .inl s0.keys))] sz)) (Q_X4_remove dC dI cI h0 h0_1 s0 (va_A [(h0, .inr (4, [.ref h0_1, .int s0.size])), (h0_1, .inl (cI, 60, .inl s0.keys))] sz) post) 0 0 (va_A [(h0, .inr (4, [.ref h0_1, .int s0.size])), (h0_1, .inl (cI, 60, .inl s0.keys))] sz) := by
  refine Met.ofW (cc := cX4_remove) (maxL := 3) (ret := none) (by decide) rfl ?_
  intro p e s m args below meth c s₁ B hml hv
  obtain ⟨rfl, hsz, hP, hK, hD0, hN⟩ := hv
  have hx := B.exec
  have hb := B.bytes
  have hr := B.returns
  have hts := atoms_spec (ws := wsX4_remove) B.pre
  have hown : s.vm.findClass RX4 = some m.cls := findClass_of_methodNamed B.named
  have hlocks := B.notSynchronized
  subst hsz
  have hD := hD0.self (sz := s.heap.size)
  generalize hAe : va_A [(h0, .inr (4, [.ref h0_1, .int s0.size])), (h0_1, .inl (cI, 60, .inl s0.keys))] s.heap.size = A at hD ⊢
  have hA : ∀ q : Nat, s.heap.size ≤ q → A q := fun q h => by rw [← hAe]; exact Or.inr h
  clear hAe hD0
  obtain ⟨s0_keys, s0_size⟩ := s0
  have hS : va_S A s.heap s.heap [] := va_S.rf
  have hP : va_P (dC, dI) vwCl [(h0, .inr (4, [.ref h0_1, .int s0_size])), (h0_1, .inl (cI, 60, .inl s0_keys))] s.heap := hP
  have hD : va_D A [(h0, .inr (4, [.ref h0_1, .int s0_size])), (h0_1, .inl (cI, 60, .inl s0_keys))] := hD
  have hl := lv_entry ([.ref h0, .int v1]) (n := 3) (Nat.le_of_ble_eq_true rfl)
  rw [lg_entry_eq]
  generalize (lg_sl ([.ref h0, .int v1]) ++ List.replicate (3 - (lg_sl ([.ref h0, .int v1])).length) Slot.unset).toArray = ls at hl ⊢
  have hl : lv_has ls 3 [(0, .ref h0), (1, .int v1)] := hl
  have hinX4 : ∀ w ∈ u_ws RX4 TX4 2, w ∈ wsX4_remove := by decide +kernel
  refine lv_aload_n hx hb dX4_remove_0 rfl (lv_at hl 0 rfl) ?_
  refine lv_iload_n hx hb dX4_remove_1 rfl (lv_at hl 1 rfl) ?_
  have hPc := hP.sub (ws' := [(h0, .inr (4, [.ref h0_1, .int s0_size])), (h0_1, .inl (cI, 60, .inl s0_keys))]) [0, 1] rfl
  have hDc := hD.sub (ws' := [(h0, .inr (4, [.ref h0_1, .int s0_size])), (h0_1, .inl (cI, 60, .inl s0_keys))]) [0, 1] (by decide) rfl
  have hFc := fr0 hA hS
  refine va_calli (va_runV (As := [.int v1]) (rest := []) ⟨hx, hb, hml, hown, hts⟩ (c_X4_holds l dC dI cI h0 h0_1 _ (s0_keys, s0_size) v1 _ h) (cwV 1 hts gX4_remove_X4_holds rfl rfl rfl (by decide +kernel) ⟨Nat.le_of_ble_eq_true rfl, Nat.le_of_ble_eq_true rfl⟩) (pb_V hPc hK hDc hN (ci := 4) (q0 := 0) rfl rfl) rfl rfl hl.1 rfl (lv_room (Nat.le_of_ble_eq_true rfl)) dX4_remove_2 ⟨Nat.zero_le _, Nat.zero_le _⟩) hS (fun q _ h => hFc q h) hFc (fun r_2 u_1 t H locs ht hvm h hB hz1 hk1 hS => ?_)
  have hP := vaPk hP hk1
  obtain ⟨ht_, hf_⟩ := h
  refine lv_if_ne (tgt := 9) hx hb dX4_remove_5 (by decide) (fun c_3 => ?_) (fun c_3 => ?_)
  · have h := ht_ c_3
    refine lv_aload_n hx hb dX4_remove_9 rfl (lv_at hl 0 rfl) ?_
    refine lv_dup hx hb dX4_remove_10 rfl ?_
    refine va_get (D := (dC, dI)) (ci := 4) (v := .int s0_size) (C := RX4) (T := TX4) (N := 2) hx hb hts (hinX4) hown hK hP 0 rfl rfl 1 (by decide) (hts (.fieldLink RX4 15 "TripleJoins$Sorted" "size" "I") (by decide +kernel)) (fun _ h9 => h9) rfl dX4_remove_11 ?_
    refine lv_iconst (v := (1 : Int32)) hx hb dX4_remove_14 (by decide) ?_
    refine lv_isub hx hb dX4_remove_15 ?_
    refine va_put (D := (dC, dI)) (ci := 4) (v := .int (s0_size - (1 : Int32))) (ty := .int) (C := RX4) (T := TX4) (N := 2) hx hb hts (hinX4) tyX4 tyX4_ok nmX4 hown hK hP hD hS 0 rfl rfl 1 (by decide) (hts (.fieldLink RX4 15 "TripleJoins$Sorted" "size" "I") (by decide +kernel)) (fun _ h9 => h9) rfl (by decide +kernel) rfl rfl (Nat.le_of_ble_eq_true rfl) dX4_remove_16 (fun H locs hP hD hS => ?_)
    have hP : va_P (dC, dI) vwCl [(h0, .inr (4, [.ref h0_1, .int (s0_size - (1 : Int32))])), (h0_1, .inl (cI, 60, .inl s0_keys))] _ := hP
    have hD : va_D A [(h0, .inr (4, [.ref h0_1, .int (s0_size - (1 : Int32))])), (h0_1, .inl (cI, 60, .inl s0_keys))] := hD
    refine lv_aload_n hx hb dX4_remove_19 rfl (lv_at hl 0 rfl) ?_
    refine lv_iload_n hx hb dX4_remove_20 rfl (lv_at hl 1 rfl) ?_
    have hPc := hP.sub (ws' := [(h0, .inr (4, [.ref h0_1, .int (s0_size - (1 : Int32))])), (h0_1, .inl (cI, 60, .inl s0_keys))]) [0, 1] rfl
    have hDc := hD.sub (ws' := [(h0, .inr (4, [.ref h0_1, .int (s0_size - (1 : Int32))])), (h0_1, .inl (cI, 60, .inl s0_keys))]) [0, 1] (by decide) rfl
    have hFc := fr0 hA hS
    refine va_calli (va_runV (As := [.int v1]) (rest := []) ⟨hx, hb, hml, hown, hts⟩ (c_X4_placeOf l dC dI cI h0 h0_1 _ (s0_keys, (s0_size - (1 : Int32))) v1 _ h) (cwV 1 hts gX4_remove_X4_placeOf rfl rfl rfl (by decide +kernel) ⟨Nat.le_of_ble_eq_true rfl, Nat.le_of_ble_eq_true rfl⟩) (pb_V hPc hK hDc hN (ci := 4) (q0 := 0) rfl rfl) rfl rfl hl.1 rfl (lv_room (Nat.le_of_ble_eq_true rfl)) dX4_remove_21 ⟨Nat.zero_le _, Nat.zero_le _⟩) hS (fun q _ h => hFc q h) hFc (fun r_5 u_4 t H locs ht hvm h hB hz1 hk1 hS => ?_)
    have hP := vaPk hP hk1
    refine lv_istore_n (lv' := [(2, .int r_5), (0, .ref h0), (1, .int v1)]) hx hb dX4_remove_24 rfl hl (by decide) rfl (fun ls hl => ?_)
    have hl : lv_has ls 3 [(0, .ref h0), (2, .int r_5)] := lv_sub hl [1, 0] rfl
    obtain ⟨I_6, hI_6, n_6, h⟩ := h
    have loop_6 : ∀ (n_6 : Nat) (v2_7 : Int32) (s0_8_keys : Nat → Int32) (s0_8_size : Int32) (h : I_6 n_6 (v2_7, (s0_8_keys, s0_8_size))) (H : Heap) (locs : List Loc) (hP : va_P (dC, dI) vwCl [(h0, .inr (4, [.ref h0_1, .int s0_8_size])), (h0_1, .inl (cI, 60, .inl s0_8_keys))] H) (hD : va_D A [(h0, .inr (4, [.ref h0_1, .int s0_8_size])), (h0_1, .inl (cI, 60, .inl s0_8_keys))]) (hS : va_S A s.heap H locs) (ls : Array Slot) (hl : lv_has ls 3 [(0, .ref h0), (2, .int v2_7)]), W p l e rm_X4_remove s m ([.ref h0, .int v1] : List Value).toArray below meth c H locs 0 0 (MQ below (Q_X4_remove dC dI cI h0 h0_1 (s0_keys, s0_size) A post) (([.ref h0, .int v1] : List Value).toArray) s 0 0 A) (F0 m 25 ls []) := by
      intro n_6
      induction n_6 using Nat.strongRecOn with
      | ind n_6 ih_6 =>
        intro v2_7 s0_8_keys s0_8_size h H locs hP hD hS ls hl
        have h := hI_6 n_6 _ h
        refine lv_iload_n hx hb dX4_remove_25 rfl (lv_at hl 1 rfl) ?_
        refine lv_aload_n hx hb dX4_remove_26 rfl (lv_at hl 0 rfl) ?_
        refine va_get (D := (dC, dI)) (ci := 4) (v := .int s0_8_size) (C := RX4) (T := TX4) (N := 2) hx hb hts (hinX4) hown hK hP 0 rfl rfl 1 (by decide) (hts (.fieldLink RX4 15 "TripleJoins$Sorted" "size" "I") (by decide +kernel)) (fun _ h9 => h9) rfl dX4_remove_27 ?_
        obtain ⟨ht_, hf_⟩ := h
        refine lv_icmp_ge (tgt := 57) hx hb dX4_remove_30 (by decide) (fun c_9 => ?_) (fun c_9 => ?_)
        · have h := ht_ c_9
          exact W.vret hx hb hr (fun t ht hW => ⟨⟨(s0_8_keys, s0_8_size), rfl, h, ⟨by rw [ht]; exact hP, hD⟩⟩, hS.F ht⟩) hS.2.2 dX4_remove_57
        · have h := hf_ c_9
          refine lv_aload_n hx hb dX4_remove_33 rfl (lv_at hl 0 rfl) ?_
          refine va_get (D := (dC, dI)) (ci := 4) (v := .ref h0_1) (C := RX4) (T := TX4) (N := 2) hx hb hts (hinX4) hown hK hP 0 rfl rfl 0 (by decide) (hts (.fieldLink RX4 9 "TripleJoins$Sorted" "keys" "[I") (by decide +kernel)) (fun _ h9 => h9) rfl dX4_remove_34 ?_
          refine lv_iload_n hx hb dX4_remove_37 rfl (lv_at hl 1 rfl) ?_
          refine lv_aload_n hx hb dX4_remove_38 rfl (lv_at hl 0 rfl) ?_
          refine va_get (D := (dC, dI)) (ci := 4) (v := .ref h0_1) (C := RX4) (T := TX4) (N := 2) hx hb hts (hinX4) hown hK hP 0 rfl rfl 0 (by decide) (hts (.fieldLink RX4 9 "TripleJoins$Sorted" "keys" "[I") (by decide +kernel)) (fun _ h9 => h9) rfl dX4_remove_39 ?_
          refine lv_iload_n hx hb dX4_remove_42 rfl (lv_at hl 1 rfl) ?_
          refine lv_iconst (v := (1 : Int32)) hx hb dX4_remove_43 (by decide) ?_
          refine lv_iadd hx hb dX4_remove_44 ?_
          have hPc := hP.sub (ws' := [(h0_1, .inl (cI, 60, .inl s0_8_keys))]) [1] rfl
          have hDc := hD.sub (ws' := [(h0_1, .inl (cI, 60, .inl s0_8_keys))]) [1] (by decide) rfl
          have hFc := fr0 hA hS
          refine va_calli (va_runSN (As := [.ref h0_1, .int (v2_7 + (1 : Int32))]) (rest := [.int v2_7, .ref h0_1]) ⟨hx, hb, hml, hown, hts⟩ (c_X7_at l dC dI cI h0_1 _ 60 s0_8_keys (v2_7 + (1 : Int32)) _ h) ⟨va_cnB 2 hts gX4_remove_X7_at_n19 rfl rfl rfl (nk_get hN 8 rfl) (hts (.initialized RX7) (by decide +kernel)) (by decide +kernel) ⟨Nat.le_of_ble_eq_true rfl, Nat.le_of_ble_eq_true rfl⟩, (hts (.static yX7_at) (by decide +kernel)), trivial⟩ (pb_S hPc hK hDc hN) rfl rfl hl.1 rfl (lv_room (Nat.le_of_ble_eq_true rfl)) dX4_remove_45 ⟨Nat.zero_le _, Nat.zero_le _⟩) hS (fun q _ h => hFc q h) hFc (fun r_11 u_10 t H locs ht hvm h hB hz1 hk1 hS => ?_)
          have hP := vaPk hP hk1
          have hPc := hP.sub (ws' := [(h0_1, .inl (cI, 60, .inl s0_8_keys))]) [1] rfl
          have hDc := hD.sub (ws' := [(h0_1, .inl (cI, 60, .inl s0_8_keys))]) [1] (by decide) rfl
          have hFc := va_free (wc := [(h0_1, .inl (cI, 60, .inl s0_8_keys))]) hD hS hA [1] rfl
          refine va_callv (va_runSN (As := [.ref h0_1, .int v2_7, .int r_11]) (rest := []) ⟨hx, hb, hml, hown, hts⟩ (c_X7_put l dC dI cI h0_1 _ 60 s0_8_keys v2_7 r_11 _ h) ⟨va_cnB 3 hts gX4_remove_X7_put_n27 rfl rfl rfl (nk_get hN 10 rfl) (hts (.initialized RX7) (by decide +kernel)) (by decide +kernel) ⟨Nat.le_of_ble_eq_true rfl, Nat.le_of_ble_eq_true rfl⟩, (hts (.static yX7_put) (by decide +kernel)), trivial⟩ (pb_S hPc hK hDc hN) rfl rfl hl.1 rfl (lv_room (Nat.le_of_ble_eq_true rfl)) dX4_remove_48 ⟨Nat.zero_le _, Nat.zero_le _⟩) hS (fun q _ h => hFc q h) hFc (fun u_12 t H locs ht hvm h hB hz1 hk1 hS => ?_)
          obtain ⟨hP1, hD1⟩ := hB
          rw [ht] at hP1
          obtain ⟨hP, hD⟩ := cl_join (wr := [(h0, .inr (4, [.ref h0_1, .int s0_8_size]))]) (w1 := [(h0_1, .inl (cI, 60, .inl u_12))]) (ws' := [(h0, .inr (4, [.ref h0_1, .int s0_8_size])), (h0_1, .inl (cI, 60, .inl u_12))]) hP hD [1] [0] [0, 1] rfl rfl (by decide) (by decide) (by decide) rfl hk1 hFc hP1 hD1
          refine lv_iinc (v := (v2_7 + (1 : Int32))) (lv' := [(2, .int (v2_7 + (1 : Int32))), (0, .ref h0)]) hx hb dX4_remove_51 hl (k := 1) rfl rfl (by decide) rfl (fun ls hl => ?_)
          refine lv_goto (tgt := 25) hx hb dX4_remove_54 (by decide) ?_
          have hl : lv_has ls 3 [(0, .ref h0), (2, .int (v2_7 + (1 : Int32)))] := lv_sub hl [1, 0] rfl
          obtain ⟨k_14, hk_15, h⟩ := h
          exact ih_6 k_14 hk_15 (v2_7 + (1 : Int32)) u_12 s0_8_size h _ _ hP hD hS _ hl
    exact loop_6 n_6 r_5 s0_keys (s0_size - (1 : Int32)) h _ _ hP hD hS _ hl
  · have h := hf_ c_3
    exact W.vret hx hb hr (fun t ht hW => ⟨⟨(s0_keys, s0_size), rfl, h, ⟨by rw [ht]; exact hP, hD⟩⟩, hS.F ht⟩) hS.2.2 dX4_remove_8
abbrev Q_X4_key (dC : Nat → ClassId) (dI : Nat → Nat → Nat) (cI : ClassId) (h0 h0_1 : Nat) (s0 : SorS) (A : Nat → Prop) (post : Int32 → Prop) : Array Value → State → Outcome → State → Prop := va_Qi (fun (r : Int32) (_ : Unit) => post r) (fun _ _ => True) A
abbrev rm_X4_key : Room := { frames := 1, cells := 0, slots := 0, locals := 21 }
set_option maxHeartbeats 4000000 in
set_option maxRecDepth 100000 in
theorem c_X4_key (l : Launch) (dC : Nat → ClassId) (dI : Nat → Nat → Nat) (cI : ClassId) (h0 h0_1 : Nat) (sz : Nat) (s0 : SorS) (v1 : Int32) (post : Int32 → Prop) (h : P_X4_key s0 v1 post) : Met l yX4_key wsX4_key rm_X4_key (va_Pc [.ref h0, .int v1] (cpre (dC, dI) [(cI, .int)] [(h0, .inr (4, [.ref h0_1, .int s0.size])), (h0_1, .inl (cI, 60, .inl s0.keys))] sz)) (Q_X4_key dC dI cI h0 h0_1 s0 (va_A [] sz) post) 0 0 (va_A [] sz) := by
  refine Met.ofW (cc := cX4_key) (maxL := 2) (ret := (some .int)) (by decide) rfl ?_
  intro p e s m args below meth c s₁ B hml hv
  obtain ⟨rfl, hsz, hP, hK, hD0, hN⟩ := hv
  have hx := B.exec
  have hb := B.bytes
  have hr := B.returns
  have hts := atoms_spec (ws := wsX4_key) B.pre
  have hown : s.vm.findClass RX4 = some m.cls := findClass_of_methodNamed B.named
  have hlocks := B.notSynchronized
  subst hsz
  have hD := hD0
  generalize hAe : va_A [] s.heap.size = A
  have hA : ∀ q : Nat, s.heap.size ≤ q → A q := fun q h => by rw [← hAe]; exact Or.inr h
  clear hAe hD0
  obtain ⟨s0_keys, s0_size⟩ := s0
  have hS : va_S A s.heap s.heap [] := va_S.rf
  have hP : va_P (dC, dI) vwCl [(h0, .inr (4, [.ref h0_1, .int s0_size])), (h0_1, .inl (cI, 60, .inl s0_keys))] s.heap := hP
  have hD : va_D (fun _ : Nat => True) [(h0, .inr (4, [.ref h0_1, .int s0_size])), (h0_1, .inl (cI, 60, .inl s0_keys))] := hD
  have hl := lv_entry ([.ref h0, .int v1]) (n := 2) (Nat.le_of_ble_eq_true rfl)
  rw [lg_entry_eq]
  generalize (lg_sl ([.ref h0, .int v1]) ++ List.replicate (2 - (lg_sl ([.ref h0, .int v1])).length) Slot.unset).toArray = ls at hl ⊢
  have hl : lv_has ls 2 [(0, .ref h0), (1, .int v1)] := hl
  have hinX4 : ∀ w ∈ u_ws RX4 TX4 2, w ∈ wsX4_key := by decide +kernel
  refine lv_aload_n hx hb dX4_key_0 rfl (lv_at hl 0 rfl) ?_
  refine va_get (D := (dC, dI)) (ci := 4) (v := .ref h0_1) (C := RX4) (T := TX4) (N := 2) hx hb hts (hinX4) hown hK hP 0 rfl rfl 0 (by decide) (hts (.fieldLink RX4 9 "TripleJoins$Sorted" "keys" "[I") (by decide +kernel)) (fun _ h9 => h9) rfl dX4_key_1 ?_
  refine lv_iload_n hx hb dX4_key_4 rfl (lv_at hl 1 rfl) ?_
  have hPc := hP.sub (ws' := [(h0_1, .inl (cI, 60, .inl s0_keys))]) [1] rfl
  have hDc := hD.sub (ws' := [(h0_1, .inl (cI, 60, .inl s0_keys))]) [1] (by decide) rfl
  have hFc := fr0 hA hS
  refine va_calli (va_runSN (As := [.ref h0_1, .int v1]) (rest := []) ⟨hx, hb, hml, hown, hts⟩ (c_X7_at l dC dI cI h0_1 _ 60 s0_keys v1 _ h) ⟨va_cnB 2 hts gX4_key_X7_at_n19 rfl rfl rfl (nk_get hN 8 rfl) (hts (.initialized RX7) (by decide +kernel)) (by decide +kernel) ⟨Nat.le_of_ble_eq_true rfl, Nat.le_of_ble_eq_true rfl⟩, (hts (.static yX7_at) (by decide +kernel)), trivial⟩ (pb_S hPc hK hDc hN) rfl rfl hl.1 rfl (lv_room (Nat.le_of_ble_eq_true rfl)) dX4_key_5 ⟨Nat.zero_le _, Nat.zero_le _⟩) hS (fun q _ h => hFc q h) hFc (fun r_2 u_1 t H locs ht hvm h hB hz1 hk1 hS => ?_)
  have hP := vaPk hP hk1
  exact W.iret (v := r_2) hx hb hr (fun t ht hW => ⟨⟨r_2, (), rfl, h, trivial⟩, hS.F ht⟩) hS.2.2 dX4_key_8
