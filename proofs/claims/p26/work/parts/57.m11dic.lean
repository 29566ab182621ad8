abbrev Q_X0_init (dC : Nat → ClassId) (dI : Nat → Nat → Nat) (cI : ClassId) (h0 : Nat) (A : Nat → Prop) (post : DicS → Prop) : Array Value → State → Outcome → State → Prop := va_Qv post (fun (u : DicS) (t : State) => ∃ q_1 q_2 : Nat, va_P (dC, dI) vwCl [(h0, .inr (0, [.ref q_1, .ref q_2, .int u.size])), (q_1, .inl (cI, 40, .inl u.termByNumber)), (q_2, .inl (cI, 100, .inl u.nextNumberByTerm))] t.heap ∧ va_D A [(h0, .inr (0, [.ref q_1, .ref q_2, .int u.size])), (q_1, .inl (cI, 40, .inl u.termByNumber)), (q_2, .inl (cI, 100, .inl u.nextNumberByTerm))]) A
abbrev rm_X0_init : Room := { frames := 1, cells := 2, slots := 140, locals := 12 }
set_option maxHeartbeats 4000000 in
set_option maxRecDepth 100000 in
theorem c_X0_init (l : Launch) (dC : Nat → ClassId) (dI : Nat → Nat → Nat) (cI : ClassId) (h0 : Nat) (sz : Nat) (post : DicS → Prop) (h : P_X0_init post) : Met l yX0_init wsX0_init rm_X0_init (va_Pc [.ref h0] (cpre (dC, dI) [(cI, .int)] [(h0, .inr (0, [.null, .null, .int (0 : Int32)]))] sz)) (Q_X0_init dC dI cI h0 (va_A [(h0, .inr (0, [.null, .null, .int (0 : Int32)]))] sz) post) 2 (140) (va_A [(h0, .inr (0, [.null, .null, .int (0 : Int32)]))] sz) := by
  refine Met.ofW (cc := cX0_init) (maxL := 1) (ret := none) (by decide) rfl ?_
  intro p e s m args below meth c s₁ B hml hv
  obtain ⟨rfl, hsz, hP, hK, hD0, hN⟩ := hv
  have hx := B.exec
  have hb := B.bytes
  have hr := B.returns
  have hts := atoms_spec (ws := wsX0_init) B.pre
  have hown : s.vm.findClass RX0 = some m.cls := findClass_of_methodNamed B.named
  have hlocks := B.notSynchronized
  have hmn : meth.name = "<init>" := (name_of_methodNamed B.named B.method).1
  subst hsz
  have hD := hD0.self (sz := s.heap.size)
  generalize hAe : va_A [(h0, .inr (0, [.null, .null, .int (0 : Int32)]))] s.heap.size = A at hD ⊢
  have hA : ∀ q : Nat, s.heap.size ≤ q → A q := fun q h => by rw [← hAe]; exact Or.inr h
  clear hAe hD0
  have hS : va_S A s.heap s.heap [] := va_S.rf
  have hl := lv_entry ([.ref h0]) (n := 1) (Nat.le_of_ble_eq_true rfl)
  rw [lg_entry_eq]
  generalize (lg_sl ([.ref h0]) ++ List.replicate (1 - (lg_sl ([.ref h0])).length) Slot.unset).toArray = ls at hl ⊢
  have hl : lv_has ls 1 [(0, .ref h0)] := hl
  have hinX0 : ∀ w ∈ u_ws RX0 TX0 3, w ∈ wsX0_init := by decide +kernel
  refine lv_aload_n hx hb dX0_init_0 rfl (lv_at hl 0 rfl) ?_
  refine W.objInit hx hb hown (hts (.methodLink RX0 3 objectInit) (by decide +kernel)) (hts (.instanceMethod objectInit) (by decide +kernel)) (hts _ (List.mem_of_getElem? (i := 3) rfl)) rfl (by rw [hml]; exact hl.1) rfl dX0_init_1 (Nat.le_of_ble_eq_true rfl) (Nat.le_of_ble_eq_true rfl) ?_
  refine W.eq (g2 := F0 m 4 ls []) rfl ?_
  refine lv_aload_n hx hb dX0_init_4 rfl (lv_at hl 0 rfl) ?_
  refine lv_bipush (v := (40 : Int32)) hx hb dX0_init_5 (by decide) ?_
  refine va_newa (atype := .int) (ty := .int) (a0 := (40, .inl (fun _ => 0))) hx hb (hts (.arrayClass .int) (by decide +kernel)) rfl hK hP hD hS hA (fun _ => rfl) (by decide) (by decide +kernel) (by decide +kernel) (by decide +kernel) (by decide +kernel) dX0_init_7 (fun q_1 cA H hK9 hP hD hS => ?_)
  obtain rfl := arr_eq hK9
  refine W.widen (k := 1) (n := 40) (by omega) (by omega) ?_
  have hP : va_P (dC, dI) vwCl [(h0, .inr (0, [.null, .null, .int (0 : Int32)])), (q_1, .inl (cI, 40, .inl (fun _ => 0)))] _ := hP
  have hD : va_D A [(h0, .inr (0, [.null, .null, .int (0 : Int32)])), (q_1, .inl (cI, 40, .inl (fun _ => 0)))] := hD
  refine va_putF (D := (dC, dI)) (ci := 0) (v := .ref q_1) (ty := .array .int) (C := RX0) (T := TX0) (N := 3) hx hb hts (hinX0) tyX0 tyX0_ok nmX0 hown hK hP hD hS 0 rfl rfl 0 (by decide) (hts (.fieldLink RX0 9 "TripleJoins$Dictionary" "termByNumber" "[I") (by decide +kernel)) (fun _ h9 => h9) rfl hmn rfl (by decide +kernel) rfl rfl (Nat.le_of_ble_eq_true rfl) dX0_init_9 (fun H locs hP hD hS => ?_)
  have hP : va_P (dC, dI) vwCl [(h0, .inr (0, [.ref q_1, .null, .int (0 : Int32)])), (q_1, .inl (cI, 40, .inl (fun _ => 0)))] _ := hP
  have hD : va_D A [(h0, .inr (0, [.ref q_1, .null, .int (0 : Int32)])), (q_1, .inl (cI, 40, .inl (fun _ => 0)))] := hD
  refine lv_aload_n hx hb dX0_init_12 rfl (lv_at hl 0 rfl) ?_
  refine lv_bipush (v := (100 : Int32)) hx hb dX0_init_13 (by decide) ?_
  refine va_newa (atype := .int) (ty := .int) (a0 := (100, .inl (fun _ => 0))) hx hb (hts (.arrayClass .int) (by decide +kernel)) rfl hK hP hD hS hA (fun _ => rfl) (by decide) (by decide +kernel) (by decide +kernel) (by decide +kernel) (by decide +kernel) dX0_init_15 (fun q_2 cA H hK9 hP hD hS => ?_)
  obtain rfl := arr_eq hK9
  refine W.widen (k := 2) (n := 140) (by omega) (by omega) ?_
  have hP : va_P (dC, dI) vwCl [(h0, .inr (0, [.ref q_1, .null, .int (0 : Int32)])), (q_1, .inl (cI, 40, .inl (fun _ => 0))), (q_2, .inl (cI, 100, .inl (fun _ => 0)))] _ := hP
  have hD : va_D A [(h0, .inr (0, [.ref q_1, .null, .int (0 : Int32)])), (q_1, .inl (cI, 40, .inl (fun _ => 0))), (q_2, .inl (cI, 100, .inl (fun _ => 0)))] := hD
  refine va_putF (D := (dC, dI)) (ci := 0) (v := .ref q_2) (ty := .array .int) (C := RX0) (T := TX0) (N := 3) hx hb hts (hinX0) tyX0 tyX0_ok nmX0 hown hK hP hD hS 0 rfl rfl 1 (by decide) (hts (.fieldLink RX0 15 "TripleJoins$Dictionary" "nextNumberByTerm" "[I") (by decide +kernel)) (fun _ h9 => h9) rfl hmn rfl (by decide +kernel) rfl rfl (Nat.le_of_ble_eq_true rfl) dX0_init_17 (fun H locs hP hD hS => ?_)
  have hP : va_P (dC, dI) vwCl [(h0, .inr (0, [.ref q_1, .ref q_2, .int (0 : Int32)])), (q_1, .inl (cI, 40, .inl (fun _ => 0))), (q_2, .inl (cI, 100, .inl (fun _ => 0)))] _ := hP
  have hD : va_D A [(h0, .inr (0, [.ref q_1, .ref q_2, .int (0 : Int32)])), (q_1, .inl (cI, 40, .inl (fun _ => 0))), (q_2, .inl (cI, 100, .inl (fun _ => 0)))] := hD
  refine lv_aload_n hx hb dX0_init_20 rfl (lv_at hl 0 rfl) ?_
  refine lv_iconst (v := (0 : Int32)) hx hb dX0_init_21 (by decide) ?_
  refine va_put (D := (dC, dI)) (ci := 0) (v := .int (0 : Int32)) (ty := .int) (C := RX0) (T := TX0) (N := 3) hx hb hts (hinX0) tyX0 tyX0_ok nmX0 hown hK hP hD hS 0 rfl rfl 2 (by decide) (hts (.fieldLink RX0 18 "TripleJoins$Dictionary" "size" "I") (by decide +kernel)) (fun _ h9 => h9) rfl (by decide +kernel) rfl rfl (Nat.le_of_ble_eq_true rfl) dX0_init_22 (fun H locs hP hD hS => ?_)
  have hP : va_P (dC, dI) vwCl [(h0, .inr (0, [.ref q_1, .ref q_2, .int (0 : Int32)])), (q_1, .inl (cI, 40, .inl (fun _ => 0))), (q_2, .inl (cI, 100, .inl (fun _ => 0)))] _ := hP
  have hD : va_D A [(h0, .inr (0, [.ref q_1, .ref q_2, .int (0 : Int32)])), (q_1, .inl (cI, 40, .inl (fun _ => 0))), (q_2, .inl (cI, 100, .inl (fun _ => 0)))] := hD
  have hP := hP.sub (ws' := [(h0, .inr (0, [.ref q_1, .ref q_2, .int (0 : Int32)])), (q_1, .inl (cI, 40, .inl (fun _ => 0))), (q_2, .inl (cI, 100, .inl (fun _ => 0)))]) [0, 1, 2] rfl
  have hD := hD.sub (ws' := [(h0, .inr (0, [.ref q_1, .ref q_2, .int (0 : Int32)])), (q_1, .inl (cI, 40, .inl (fun _ => 0))), (q_2, .inl (cI, 100, .inl (fun _ => 0)))]) [0, 1, 2] (by decide) rfl
  refine W.widen (k := 2) (n := 140) (by omega) (by omega) ?_
  exact W.vret hx hb hr (fun t ht hW => ⟨⟨((fun _ => 0), (fun _ => 0), (0 : Int32)), rfl, h, q_1, q_2, by rw [ht]; exact hP, hD⟩, hS.F ht⟩) hS.2.2 dX0_init_25
abbrev Q_X0_knows (dC : Nat → ClassId) (dI : Nat → Nat → Nat) (cI : ClassId) (h0 h0_1 h0_2 : Nat) (s0 : DicS) (A : Nat → Prop) (post : Int32 → Prop) : Array Value → State → Outcome → State → Prop := va_Qi (fun (r : Int32) (_ : Unit) => post r) (fun _ _ => True) A
abbrev rm_X0_knows : Room := { frames := 1, cells := 0, slots := 0, locals := 21 }
set_option maxHeartbeats 4000000 in
set_option maxRecDepth 100000 in
theorem c_X0_knows (l : Launch) (dC : Nat → ClassId) (dI : Nat → Nat → Nat) (cI : ClassId) (h0 h0_1 h0_2 : Nat) (sz : Nat) (s0 : DicS) (v1 : Int32) (post : Int32 → Prop) (h : P_X0_knows s0 v1 post) : Met l yX0_knows wsX0_knows rm_X0_knows (va_Pc [.ref h0, .int v1] (cpre (dC, dI) [(cI, .int)] [(h0, .inr (0, [.ref h0_1, .ref h0_2, .int s0.size])), (h0_1, .inl (cI, 40, .inl s0.termByNumber)), (h0_2, .inl (cI, 100, .inl s0.nextNumberByTerm))] sz)) (Q_X0_knows dC dI cI h0 h0_1 h0_2 s0 (va_A [] sz) post) 0 0 (va_A [] sz) := by
  refine Met.ofW (cc := cX0_knows) (maxL := 2) (ret := (some .boolean)) (by decide) rfl ?_
  intro p e s m args below meth c s₁ B hml hv
  obtain ⟨rfl, hsz, hP, hK, hD0, hN⟩ := hv
  have hx := B.exec
  have hb := B.bytes
  have hr := B.returns
  have hts := atoms_spec (ws := wsX0_knows) B.pre
  have hown : s.vm.findClass RX0 = some m.cls := findClass_of_methodNamed B.named
  have hlocks := B.notSynchronized
  subst hsz
  have hD := hD0
  generalize hAe : va_A [] s.heap.size = A
  have hA : ∀ q : Nat, s.heap.size ≤ q → A q := fun q h => by rw [← hAe]; exact Or.inr h
  clear hAe hD0
  obtain ⟨s0_termByNumber, s0_nextNumberByTerm, s0_size⟩ := s0
  have hS : va_S A s.heap s.heap [] := va_S.rf
  have hP : va_P (dC, dI) vwCl [(h0, .inr (0, [.ref h0_1, .ref h0_2, .int s0_size])), (h0_1, .inl (cI, 40, .inl s0_termByNumber)), (h0_2, .inl (cI, 100, .inl s0_nextNumberByTerm))] s.heap := hP
  have hD : va_D (fun _ : Nat => True) [(h0, .inr (0, [.ref h0_1, .ref h0_2, .int s0_size])), (h0_1, .inl (cI, 40, .inl s0_termByNumber)), (h0_2, .inl (cI, 100, .inl s0_nextNumberByTerm))] := hD
  have hl := lv_entry ([.ref h0, .int v1]) (n := 2) (Nat.le_of_ble_eq_true rfl)
  rw [lg_entry_eq]
  generalize (lg_sl ([.ref h0, .int v1]) ++ List.replicate (2 - (lg_sl ([.ref h0, .int v1])).length) Slot.unset).toArray = ls at hl ⊢
  have hl : lv_has ls 2 [(0, .ref h0), (1, .int v1)] := hl
  have hinX0 : ∀ w ∈ u_ws RX0 TX0 3, w ∈ wsX0_knows := by decide +kernel
  refine lv_aload_n hx hb dX0_knows_0 rfl (lv_at hl 0 rfl) ?_
  refine va_get (D := (dC, dI)) (ci := 0) (v := .ref h0_2) (C := RX0) (T := TX0) (N := 3) hx hb hts (hinX0) hown hK hP 0 rfl rfl 1 (by decide) (hts (.fieldLink RX0 15 "TripleJoins$Dictionary" "nextNumberByTerm" "[I") (by decide +kernel)) (fun _ h9 => h9) rfl dX0_knows_1 ?_
  refine lv_iload_n hx hb dX0_knows_4 rfl (lv_at hl 1 rfl) ?_
  have hPc := hP.sub (ws' := [(h0_2, .inl (cI, 100, .inl s0_nextNumberByTerm))]) [2] rfl
  have hDc := hD.sub (ws' := [(h0_2, .inl (cI, 100, .inl s0_nextNumberByTerm))]) [2] (by decide) rfl
  have hFc := fr0 hA hS
  refine va_calli (va_runSN (As := [.ref h0_2, .int v1]) (rest := []) ⟨hx, hb, hml, hown, hts⟩ (c_X7_at l dC dI cI h0_2 _ 100 s0_nextNumberByTerm v1 _ h) ⟨va_cnB 2 hts gX0_knows_X7_at_n22 rfl rfl rfl (nk_get hN 6 rfl) (hts (.initialized RX7) (by decide +kernel)) (by decide +kernel) ⟨Nat.le_of_ble_eq_true rfl, Nat.le_of_ble_eq_true rfl⟩, (hts (.static yX7_at) (by decide +kernel)), trivial⟩ (pb_S hPc hK hDc hN) rfl rfl hl.1 rfl (lv_room (Nat.le_of_ble_eq_true rfl)) dX0_knows_5 ⟨Nat.zero_le _, Nat.zero_le _⟩) hS (fun q _ h => hFc q h) hFc (fun r_2 u_1 t H locs ht hvm h hB hz1 hk1 hS => ?_)
  have hP := vaPk hP hk1
  obtain ⟨ht_, hf_⟩ := h
  refine lv_if_le (tgt := 15) hx hb dX0_knows_8 (by decide) (fun c_3 => ?_) (fun c_3 => ?_)
  · have h := ht_ c_3
    refine lv_iconst (v := (0 : Int32)) hx hb dX0_knows_15 (by decide) ?_
    exact W.zret (v := (0 : Int32)) hx hb hr (by decide +kernel) (fun t ht hW => ⟨⟨(0 : Int32), (), rfl, h, trivial⟩, hS.F ht⟩) hS.2.2 dX0_knows_16
  · have h := hf_ c_3
    refine lv_iconst (v := (1 : Int32)) hx hb dX0_knows_11 (by decide) ?_
    refine lv_goto (tgt := 16) hx hb dX0_knows_12 (by decide) ?_
    exact W.zret (v := (1 : Int32)) hx hb hr (by decide +kernel) (fun t ht hW => ⟨⟨(1 : Int32), (), rfl, h, trivial⟩, hS.F ht⟩) hS.2.2 dX0_knows_16
abbrev Q_X0_number (dC : Nat → ClassId) (dI : Nat → Nat → Nat) (cI : ClassId) (h0 h0_1 h0_2 : Nat) (s0 : DicS) (A : Nat → Prop) (post : Int32 → Prop) : Array Value → State → Outcome → State → Prop := va_Qi (fun (r : Int32) (_ : Unit) => post r) (fun _ _ => True) A
abbrev rm_X0_number : Room := { frames := 2, cells := 0, slots := 0, locals := 42 }
set_option maxHeartbeats 4000000 in
set_option maxRecDepth 100000 in
theorem c_X0_number (l : Launch) (dC : Nat → ClassId) (dI : Nat → Nat → Nat) (cI : ClassId) (h0 h0_1 h0_2 : Nat) (sz : Nat) (s0 : DicS) (v1 : Int32) (post : Int32 → Prop) (h : P_X0_number s0 v1 post) : Met l yX0_number wsX0_number rm_X0_number (va_Pc [.ref h0, .int v1] (cpre (dC, dI) [(cI, .int)] [(h0, .inr (0, [.ref h0_1, .ref h0_2, .int s0.size])), (h0_1, .inl (cI, 40, .inl s0.termByNumber)), (h0_2, .inl (cI, 100, .inl s0.nextNumberByTerm))] sz)) (Q_X0_number dC dI cI h0 h0_1 h0_2 s0 (va_A [] sz) post) 0 0 (va_A [] sz) := by
  refine Met.ofW (cc := cX0_number) (maxL := 2) (ret := (some .int)) (by decide) rfl ?_
  intro p e s m args below meth c s₁ B hml hv
  obtain ⟨rfl, hsz, hP, hK, hD0, hN⟩ := hv
  have hx := B.exec
  have hb := B.bytes
  have hr := B.returns
  have hts := atoms_spec (ws := wsX0_number) B.pre
  have hown : s.vm.findClass RX0 = some m.cls := findClass_of_methodNamed B.named
  have hlocks := B.notSynchronized
  subst hsz
  have hD := hD0
  generalize hAe : va_A [] s.heap.size = A
  have hA : ∀ q : Nat, s.heap.size ≤ q → A q := fun q h => by rw [← hAe]; exact Or.inr h
  clear hAe hD0
  obtain ⟨s0_termByNumber, s0_nextNumberByTerm, s0_size⟩ := s0
  have hS : va_S A s.heap s.heap [] := va_S.rf
  have hP : va_P (dC, dI) vwCl [(h0, .inr (0, [.ref h0_1, .ref h0_2, .int s0_size])), (h0_1, .inl (cI, 40, .inl s0_termByNumber)), (h0_2, .inl (cI, 100, .inl s0_nextNumberByTerm))] s.heap := hP
  have hD : va_D (fun _ : Nat => True) [(h0, .inr (0, [.ref h0_1, .ref h0_2, .int s0_size])), (h0_1, .inl (cI, 40, .inl s0_termByNumber)), (h0_2, .inl (cI, 100, .inl s0_nextNumberByTerm))] := hD
  have hl := lv_entry ([.ref h0, .int v1]) (n := 2) (Nat.le_of_ble_eq_true rfl)
  rw [lg_entry_eq]
  generalize (lg_sl ([.ref h0, .int v1]) ++ List.replicate (2 - (lg_sl ([.ref h0, .int v1])).length) Slot.unset).toArray = ls at hl ⊢
  have hl : lv_has ls 2 [(0, .ref h0), (1, .int v1)] := hl
  have hinX0 : ∀ w ∈ u_ws RX0 TX0 3, w ∈ wsX0_number := by decide +kernel
  refine lv_aload_n hx hb dX0_number_0 rfl (lv_at hl 0 rfl) ?_
  refine lv_iload_n hx hb dX0_number_1 rfl (lv_at hl 1 rfl) ?_
  have hPc := hP.sub (ws' := [(h0, .inr (0, [.ref h0_1, .ref h0_2, .int s0_size])), (h0_1, .inl (cI, 40, .inl s0_termByNumber)), (h0_2, .inl (cI, 100, .inl s0_nextNumberByTerm))]) [0, 1, 2] rfl
  have hDc := hD.sub (ws' := [(h0, .inr (0, [.ref h0_1, .ref h0_2, .int s0_size])), (h0_1, .inl (cI, 40, .inl s0_termByNumber)), (h0_2, .inl (cI, 100, .inl s0_nextNumberByTerm))]) [0, 1, 2] (by decide) rfl
  have hFc := fr0 hA hS
  refine va_calli (va_runV (As := [.int v1]) (rest := []) ⟨hx, hb, hml, hown, hts⟩ (c_X0_knows l dC dI cI h0 h0_1 h0_2 _ (s0_termByNumber, s0_nextNumberByTerm, s0_size) v1 _ h) (cwV 1 hts gX0_number_X0_knows rfl rfl rfl (by decide +kernel) ⟨Nat.le_of_ble_eq_true rfl, Nat.le_of_ble_eq_true rfl⟩) (pb_V hPc hK hDc hN (ci := 0) (q0 := 0) rfl rfl) rfl rfl hl.1 rfl (lv_room (Nat.le_of_ble_eq_true rfl)) dX0_number_2 ⟨Nat.zero_le _, Nat.zero_le _⟩) hS (fun q _ h => hFc q h) hFc (fun r_2 u_1 t H locs ht hvm h hB hz1 hk1 hS => ?_)
  have hP := vaPk hP hk1
  obtain ⟨ht_, hf_⟩ := h
  refine lv_if_eq (tgt := 21) hx hb dX0_number_5 (by decide) (fun c_3 => ?_) (fun c_3 => ?_)
  · have h := ht_ c_3
    refine lv_bipush (v := (63 : Int32)) hx hb dX0_number_21 (by decide) ?_
    exact W.iret (v := (63 : Int32)) hx hb hr (fun t ht hW => ⟨⟨(63 : Int32), (), rfl, h, trivial⟩, hS.F ht⟩) hS.2.2 dX0_number_23
  · have h := hf_ c_3
    refine lv_aload_n hx hb dX0_number_8 rfl (lv_at hl 0 rfl) ?_
    refine va_get (D := (dC, dI)) (ci := 0) (v := .ref h0_2) (C := RX0) (T := TX0) (N := 3) hx hb hts (hinX0) hown hK hP 0 rfl rfl 1 (by decide) (hts (.fieldLink RX0 15 "TripleJoins$Dictionary" "nextNumberByTerm" "[I") (by decide +kernel)) (fun _ h9 => h9) rfl dX0_number_9 ?_
    refine lv_iload_n hx hb dX0_number_12 rfl (lv_at hl 1 rfl) ?_
    have hPc := hP.sub (ws' := [(h0_2, .inl (cI, 100, .inl s0_nextNumberByTerm))]) [2] rfl
    have hDc := hD.sub (ws' := [(h0_2, .inl (cI, 100, .inl s0_nextNumberByTerm))]) [2] (by decide) rfl
    have hFc := fr0 hA hS
    refine va_calli (va_runSN (As := [.ref h0_2, .int v1]) (rest := []) ⟨hx, hb, hml, hown, hts⟩ (c_X7_at l dC dI cI h0_2 _ 100 s0_nextNumberByTerm v1 _ h) ⟨va_cnB 2 hts gX0_number_X7_at_n22 rfl rfl rfl (nk_get hN 6 rfl) (hts (.initialized RX7) (by decide +kernel)) (by decide +kernel) ⟨Nat.le_of_ble_eq_true rfl, Nat.le_of_ble_eq_true rfl⟩, (hts (.static yX7_at) (by decide +kernel)), trivial⟩ (pb_S hPc hK hDc hN) rfl rfl hl.1 rfl (lv_room (Nat.le_of_ble_eq_true rfl)) dX0_number_13 ⟨Nat.zero_le _, Nat.zero_le _⟩) hS (fun q _ h => hFc q h) hFc (fun r_5 u_4 t H locs ht hvm h hB hz1 hk1 hS => ?_)
    have hP := vaPk hP hk1
    refine lv_iconst (v := (1 : Int32)) hx hb dX0_number_16 (by decide) ?_
    refine lv_isub hx hb dX0_number_17 ?_
    refine lv_goto (tgt := 23) hx hb dX0_number_18 (by decide) ?_
    exact W.iret (v := (r_5 - (1 : Int32))) hx hb hr (fun t ht hW => ⟨⟨(r_5 - (1 : Int32)), (), rfl, h, trivial⟩, hS.F ht⟩) hS.2.2 dX0_number_23
abbrev Q_X0_pack (dC : Nat → ClassId) (dI : Nat → Nat → Nat) (cI : ClassId) (h0 h0_1 h0_2 : Nat) (s0 : DicS) (A : Nat → Prop) (post : Int32 → Prop) : Array Value → State → Outcome → State → Prop := va_Qi (fun (r : Int32) (_ : Unit) => post r) (fun _ _ => True) A
abbrev rm_X0_pack : Room := { frames := 3, cells := 0, slots := 0, locals := 63 }
set_option maxHeartbeats 4000000 in
set_option maxRecDepth 100000 in
theorem c_X0_pack (l : Launch) (dC : Nat → ClassId) (dI : Nat → Nat → Nat) (cI : ClassId) (h0 h0_1 h0_2 : Nat) (sz : Nat) (s0 : DicS) (v1 : Int32) (v2 : Int32) (v3 : Int32) (post : Int32 → Prop) (h : P_X0_pack s0 v1 v2 v3 post) : Met l yX0_pack wsX0_pack rm_X0_pack (va_Pc [.ref h0, .int v1, .int v2, .int v3] (cpre (dC, dI) [(cI, .int)] [(h0, .inr (0, [.ref h0_1, .ref h0_2, .int s0.size])), (h0_1, .inl (cI, 40, .inl s0.termByNumber)), (h0_2, .inl (cI, 100, .inl s0.nextNumberByTerm))] sz)) (Q_X0_pack dC dI cI h0 h0_1 h0_2 s0 (va_A [] sz) post) 0 0 (va_A [] sz) := by
  refine Met.ofW (cc := cX0_pack) (maxL := 4) (ret := (some .int)) (by decide) rfl ?_
  intro p e s m args below meth c s₁ B hml hv
  obtain ⟨rfl, hsz, hP, hK, hD0, hN⟩ := hv
  have hx := B.exec
  have hb := B.bytes
  have hr := B.returns
  have hts := atoms_spec (ws := wsX0_pack) B.pre
  have hown : s.vm.findClass RX0 = some m.cls := findClass_of_methodNamed B.named
  have hlocks := B.notSynchronized
  subst hsz
  have hD := hD0
  generalize hAe : va_A [] s.heap.size = A
  have hA : ∀ q : Nat, s.heap.size ≤ q → A q := fun q h => by rw [← hAe]; exact Or.inr h
  clear hAe hD0
  obtain ⟨s0_termByNumber, s0_nextNumberByTerm, s0_size⟩ := s0
  have hS : va_S A s.heap s.heap [] := va_S.rf
  have hP : va_P (dC, dI) vwCl [(h0, .inr (0, [.ref h0_1, .ref h0_2, .int s0_size])), (h0_1, .inl (cI, 40, .inl s0_termByNumber)), (h0_2, .inl (cI, 100, .inl s0_nextNumberByTerm))] s.heap := hP
  have hD : va_D (fun _ : Nat => True) [(h0, .inr (0, [.ref h0_1, .ref h0_2, .int s0_size])), (h0_1, .inl (cI, 40, .inl s0_termByNumber)), (h0_2, .inl (cI, 100, .inl s0_nextNumberByTerm))] := hD
  have hl := lv_entry ([.ref h0, .int v1, .int v2, .int v3]) (n := 4) (Nat.le_of_ble_eq_true rfl)
  rw [lg_entry_eq]
  generalize (lg_sl ([.ref h0, .int v1, .int v2, .int v3]) ++ List.replicate (4 - (lg_sl ([.ref h0, .int v1, .int v2, .int v3])).length) Slot.unset).toArray = ls at hl ⊢
  have hl : lv_has ls 4 [(0, .ref h0), (1, .int v1), (2, .int v2), (3, .int v3)] := hl
  refine lv_aload_n hx hb dX0_pack_0 rfl (lv_at hl 0 rfl) ?_
  refine lv_iload_n hx hb dX0_pack_1 rfl (lv_at hl 1 rfl) ?_
  have hPc := hP.sub (ws' := [(h0, .inr (0, [.ref h0_1, .ref h0_2, .int s0_size])), (h0_1, .inl (cI, 40, .inl s0_termByNumber)), (h0_2, .inl (cI, 100, .inl s0_nextNumberByTerm))]) [0, 1, 2] rfl
  have hDc := hD.sub (ws' := [(h0, .inr (0, [.ref h0_1, .ref h0_2, .int s0_size])), (h0_1, .inl (cI, 40, .inl s0_termByNumber)), (h0_2, .inl (cI, 100, .inl s0_nextNumberByTerm))]) [0, 1, 2] (by decide) rfl
  have hFc := fr0 hA hS
  refine va_calli (va_runV (As := [.int v1]) (rest := []) ⟨hx, hb, hml, hown, hts⟩ (c_X0_number l dC dI cI h0 h0_1 h0_2 _ (s0_termByNumber, s0_nextNumberByTerm, s0_size) v1 _ h) (cwV 1 hts gX0_pack_X0_number rfl rfl rfl (by decide +kernel) ⟨Nat.le_of_ble_eq_true rfl, Nat.le_of_ble_eq_true rfl⟩) (pb_V hPc hK hDc hN (ci := 0) (q0 := 0) rfl rfl) rfl rfl hl.1 rfl (lv_room (Nat.le_of_ble_eq_true rfl)) dX0_pack_2 ⟨Nat.zero_le _, Nat.zero_le _⟩) hS (fun q _ h => hFc q h) hFc (fun r_2 u_1 t H locs ht hvm h hB hz1 hk1 hS => ?_)
  have hP := vaPk hP hk1
  refine lv_iconst (v := (0 : Int32)) hx hb dX0_pack_5 (by decide) ?_
  have hPc := hP.sub (ws' := []) [] rfl
  have hDc := hD.sub (ws' := []) [] (by decide) rfl
  have hFc := fr0 hA hS
  refine va_calli (va_runSN (As := [.int (0 : Int32)]) (rest := [.int r_2]) ⟨hx, hb, hml, hown, hts⟩ (c_X7_partShift l dC dI cI  _ (0 : Int32) _ h) ⟨va_cnB 1 hts gX0_pack_X7_partShift_n34 rfl rfl rfl (nk_get hN 7 rfl) (hts (.initialized RX7) (by decide +kernel)) (by decide +kernel) ⟨Nat.le_of_ble_eq_true rfl, Nat.le_of_ble_eq_true rfl⟩, (hts (.static yX7_partShift) (by decide +kernel)), trivial⟩ (pb_S hPc hK hDc hN) rfl rfl hl.1 rfl (lv_room (Nat.le_of_ble_eq_true rfl)) dX0_pack_6 ⟨Nat.zero_le _, Nat.zero_le _⟩) hS (fun q _ h => hFc q h) hFc (fun r_4 u_3 t H locs ht hvm h hB hz1 hk1 hS => ?_)
  have hP := vaPk hP hk1
  refine lv_ishl hx hb dX0_pack_9 ?_
  refine lv_aload_n hx hb dX0_pack_10 rfl (lv_at hl 0 rfl) ?_
  refine lv_iload_n hx hb dX0_pack_11 rfl (lv_at hl 2 rfl) ?_
  have hPc := hP.sub (ws' := [(h0, .inr (0, [.ref h0_1, .ref h0_2, .int s0_size])), (h0_1, .inl (cI, 40, .inl s0_termByNumber)), (h0_2, .inl (cI, 100, .inl s0_nextNumberByTerm))]) [0, 1, 2] rfl
  have hDc := hD.sub (ws' := [(h0, .inr (0, [.ref h0_1, .ref h0_2, .int s0_size])), (h0_1, .inl (cI, 40, .inl s0_termByNumber)), (h0_2, .inl (cI, 100, .inl s0_nextNumberByTerm))]) [0, 1, 2] (by decide) rfl
  have hFc := fr0 hA hS
  refine va_calli (va_runV (As := [.int v2]) (rest := [.int (r_2 <<< (r_4 &&& 31))]) ⟨hx, hb, hml, hown, hts⟩ (c_X0_number l dC dI cI h0 h0_1 h0_2 _ (s0_termByNumber, s0_nextNumberByTerm, s0_size) v2 _ h) (cwV 1 hts gX0_pack_X0_number rfl rfl rfl (by decide +kernel) ⟨Nat.le_of_ble_eq_true rfl, Nat.le_of_ble_eq_true rfl⟩) (pb_V hPc hK hDc hN (ci := 0) (q0 := 0) rfl rfl) rfl rfl hl.1 rfl (lv_room (Nat.le_of_ble_eq_true rfl)) dX0_pack_12 ⟨Nat.zero_le _, Nat.zero_le _⟩) hS (fun q _ h => hFc q h) hFc (fun r_6 u_5 t H locs ht hvm h hB hz1 hk1 hS => ?_)
  have hP := vaPk hP hk1
  refine lv_iconst (v := (1 : Int32)) hx hb dX0_pack_15 (by decide) ?_
  have hPc := hP.sub (ws' := []) [] rfl
  have hDc := hD.sub (ws' := []) [] (by decide) rfl
  have hFc := fr0 hA hS
  refine va_calli (va_runSN (As := [.int (1 : Int32)]) (rest := [.int r_6, .int (r_2 <<< (r_4 &&& 31))]) ⟨hx, hb, hml, hown, hts⟩ (c_X7_partShift l dC dI cI  _ (1 : Int32) _ h) ⟨va_cnB 1 hts gX0_pack_X7_partShift_n34 rfl rfl rfl (nk_get hN 7 rfl) (hts (.initialized RX7) (by decide +kernel)) (by decide +kernel) ⟨Nat.le_of_ble_eq_true rfl, Nat.le_of_ble_eq_true rfl⟩, (hts (.static yX7_partShift) (by decide +kernel)), trivial⟩ (pb_S hPc hK hDc hN) rfl rfl hl.1 rfl (lv_room (Nat.le_of_ble_eq_true rfl)) dX0_pack_16 ⟨Nat.zero_le _, Nat.zero_le _⟩) hS (fun q _ h => hFc q h) hFc (fun r_8 u_7 t H locs ht hvm h hB hz1 hk1 hS => ?_)
  have hP := vaPk hP hk1
  refine lv_ishl hx hb dX0_pack_19 ?_
  refine lv_ior hx hb dX0_pack_20 ?_
  refine lv_aload_n hx hb dX0_pack_21 rfl (lv_at hl 0 rfl) ?_
  refine lv_iload_n hx hb dX0_pack_22 rfl (lv_at hl 3 rfl) ?_
  have hPc := hP.sub (ws' := [(h0, .inr (0, [.ref h0_1, .ref h0_2, .int s0_size])), (h0_1, .inl (cI, 40, .inl s0_termByNumber)), (h0_2, .inl (cI, 100, .inl s0_nextNumberByTerm))]) [0, 1, 2] rfl
  have hDc := hD.sub (ws' := [(h0, .inr (0, [.ref h0_1, .ref h0_2, .int s0_size])), (h0_1, .inl (cI, 40, .inl s0_termByNumber)), (h0_2, .inl (cI, 100, .inl s0_nextNumberByTerm))]) [0, 1, 2] (by decide) rfl
  have hFc := fr0 hA hS
  refine va_calli (va_runV (As := [.int v3]) (rest := [.int ((r_2 <<< (r_4 &&& 31)) ||| (r_6 <<< (r_8 &&& 31)))]) ⟨hx, hb, hml, hown, hts⟩ (c_X0_number l dC dI cI h0 h0_1 h0_2 _ (s0_termByNumber, s0_nextNumberByTerm, s0_size) v3 _ h) (cwV 1 hts gX0_pack_X0_number rfl rfl rfl (by decide +kernel) ⟨Nat.le_of_ble_eq_true rfl, Nat.le_of_ble_eq_true rfl⟩) (pb_V hPc hK hDc hN (ci := 0) (q0 := 0) rfl rfl) rfl rfl hl.1 rfl (lv_room (Nat.le_of_ble_eq_true rfl)) dX0_pack_23 ⟨Nat.zero_le _, Nat.zero_le _⟩) hS (fun q _ h => hFc q h) hFc (fun r_10 u_9 t H locs ht hvm h hB hz1 hk1 hS => ?_)
  have hP := vaPk hP hk1
  refine lv_iconst (v := (2 : Int32)) hx hb dX0_pack_26 (by decide) ?_
  have hPc := hP.sub (ws' := []) [] rfl
  have hDc := hD.sub (ws' := []) [] (by decide) rfl
  have hFc := fr0 hA hS
  refine va_calli (va_runSN (As := [.int (2 : Int32)]) (rest := [.int r_10, .int ((r_2 <<< (r_4 &&& 31)) ||| (r_6 <<< (r_8 &&& 31)))]) ⟨hx, hb, hml, hown, hts⟩ (c_X7_partShift l dC dI cI  _ (2 : Int32) _ h) ⟨va_cnB 1 hts gX0_pack_X7_partShift_n34 rfl rfl rfl (nk_get hN 7 rfl) (hts (.initialized RX7) (by decide +kernel)) (by decide +kernel) ⟨Nat.le_of_ble_eq_true rfl, Nat.le_of_ble_eq_true rfl⟩, (hts (.static yX7_partShift) (by decide +kernel)), trivial⟩ (pb_S hPc hK hDc hN) rfl rfl hl.1 rfl (lv_room (Nat.le_of_ble_eq_true rfl)) dX0_pack_27 ⟨Nat.zero_le _, Nat.zero_le _⟩) hS (fun q _ h => hFc q h) hFc (fun r_12 u_11 t H locs ht hvm h hB hz1 hk1 hS => ?_)
  have hP := vaPk hP hk1
  refine lv_ishl hx hb dX0_pack_30 ?_
  refine lv_ior hx hb dX0_pack_31 ?_
  exact W.iret (v := (((r_2 <<< (r_4 &&& 31)) ||| (r_6 <<< (r_8 &&& 31))) ||| (r_10 <<< (r_12 &&& 31)))) hx hb hr (fun t ht hW => ⟨⟨(((r_2 <<< (r_4 &&& 31)) ||| (r_6 <<< (r_8 &&& 31))) ||| (r_10 <<< (r_12 &&& 31))), (), rfl, h, trivial⟩, hS.F ht⟩) hS.2.2 dX0_pack_32
abbrev Q_X0_sizeWith (dC : Nat → ClassId) (dI : Nat → Nat → Nat) (cI : ClassId) (h0 h0_1 h0_2 : Nat) (s0 : DicS) (A : Nat → Prop) (post : Int32 → Prop) : Array Value → State → Outcome → State → Prop := va_Qi (fun (r : Int32) (_ : Unit) => post r) (fun _ _ => True) A
abbrev rm_X0_sizeWith : Room := { frames := 2, cells := 0, slots := 0, locals := 42 }
set_option maxHeartbeats 4000000 in
set_option maxRecDepth 100000 in
theorem c_X0_sizeWith (l : Launch) (dC : Nat → ClassId) (dI : Nat → Nat → Nat) (cI : ClassId) (h0 h0_1 h0_2 : Nat) (sz : Nat) (s0 : DicS) (v1 : Int32) (v2 : Int32) (v3 : Int32) (post : Int32 → Prop) (h : P_X0_sizeWith s0 v1 v2 v3 post) : Met l yX0_sizeWith wsX0_sizeWith rm_X0_sizeWith (va_Pc [.ref h0, .int v1, .int v2, .int v3] (cpre (dC, dI) [(cI, .int)] [(h0, .inr (0, [.ref h0_1, .ref h0_2, .int s0.size])), (h0_1, .inl (cI, 40, .inl s0.termByNumber)), (h0_2, .inl (cI, 100, .inl s0.nextNumberByTerm))] sz)) (Q_X0_sizeWith dC dI cI h0 h0_1 h0_2 s0 (va_A [] sz) post) 0 0 (va_A [] sz) := by
  refine Met.ofW (cc := cX0_sizeWith) (maxL := 5) (ret := (some .int)) (by decide) rfl ?_
  intro p e s m args below meth c s₁ B hml hv
  obtain ⟨rfl, hsz, hP, hK, hD0, hN⟩ := hv
  have hx := B.exec
  have hb := B.bytes
  have hr := B.returns
  have hts := atoms_spec (ws := wsX0_sizeWith) B.pre
  have hown : s.vm.findClass RX0 = some m.cls := findClass_of_methodNamed B.named
  have hlocks := B.notSynchronized
  subst hsz
  have hD := hD0
  generalize hAe : va_A [] s.heap.size = A
  have hA : ∀ q : Nat, s.heap.size ≤ q → A q := fun q h => by rw [← hAe]; exact Or.inr h
  clear hAe hD0
  obtain ⟨s0_termByNumber, s0_nextNumberByTerm, s0_size⟩ := s0
  have hS : va_S A s.heap s.heap [] := va_S.rf
  have hP : va_P (dC, dI) vwCl [(h0, .inr (0, [.ref h0_1, .ref h0_2, .int s0_size])), (h0_1, .inl (cI, 40, .inl s0_termByNumber)), (h0_2, .inl (cI, 100, .inl s0_nextNumberByTerm))] s.heap := hP
  have hD : va_D (fun _ : Nat => True) [(h0, .inr (0, [.ref h0_1, .ref h0_2, .int s0_size])), (h0_1, .inl (cI, 40, .inl s0_termByNumber)), (h0_2, .inl (cI, 100, .inl s0_nextNumberByTerm))] := hD
  have hl := lv_entry ([.ref h0, .int v1, .int v2, .int v3]) (n := 5) (Nat.le_of_ble_eq_true rfl)
  rw [lg_entry_eq]
  generalize (lg_sl ([.ref h0, .int v1, .int v2, .int v3]) ++ List.replicate (5 - (lg_sl ([.ref h0, .int v1, .int v2, .int v3])).length) Slot.unset).toArray = ls at hl ⊢
  have hl : lv_has ls 5 [(0, .ref h0), (1, .int v1), (2, .int v2), (3, .int v3)] := hl
  have hinX0 : ∀ w ∈ u_ws RX0 TX0 3, w ∈ wsX0_sizeWith := by decide +kernel
  have lab_33 : ∀ (v4_1 : Int32) (h : P_X0_sizeWith_j33 (s0_termByNumber, s0_nextNumberByTerm, s0_size) v1 v2 v3 v4_1 post) (H : Heap) (locs : List Loc) (hP : va_P (dC, dI) vwCl [(h0, .inr (0, [.ref h0_1, .ref h0_2, .int s0_size])), (h0_1, .inl (cI, 40, .inl s0_termByNumber)), (h0_2, .inl (cI, 100, .inl s0_nextNumberByTerm))] H) (hD : va_D (fun _ : Nat => True) [(h0, .inr (0, [.ref h0_1, .ref h0_2, .int s0_size])), (h0_1, .inl (cI, 40, .inl s0_termByNumber)), (h0_2, .inl (cI, 100, .inl s0_nextNumberByTerm))]) (hS : va_S A s.heap H locs) (ls : Array Slot) (hl : lv_has ls 5 [(0, .ref h0), (1, .int v1), (2, .int v2), (3, .int v3), (4, .int v4_1)]), W p l e rm_X0_sizeWith s m ([.ref h0, .int v1, .int v2, .int v3] : List Value).toArray below meth c H locs 0 0 (MQ below (Q_X0_sizeWith dC dI cI h0 h0_1 h0_2 (s0_termByNumber, s0_nextNumberByTerm, s0_size) A post) (([.ref h0, .int v1, .int v2, .int v3] : List Value).toArray) s 0 0 A) (F0 m 33 ls []) := by
    intro v4_1 h H locs hP hD hS ls hl
    refine lv_aload_n hx hb dX0_sizeWith_33 rfl (lv_at hl 0 rfl) ?_
    refine lv_iload_n hx hb dX0_sizeWith_34 rfl (lv_at hl 3 rfl) ?_
    have hPc := hP.sub (ws' := [(h0, .inr (0, [.ref h0_1, .ref h0_2, .int s0_size])), (h0_1, .inl (cI, 40, .inl s0_termByNumber)), (h0_2, .inl (cI, 100, .inl s0_nextNumberByTerm))]) [0, 1, 2] rfl
    have hDc := hD.sub (ws' := [(h0, .inr (0, [.ref h0_1, .ref h0_2, .int s0_size])), (h0_1, .inl (cI, 40, .inl s0_termByNumber)), (h0_2, .inl (cI, 100, .inl s0_nextNumberByTerm))]) [0, 1, 2] (by decide) rfl
    have hFc := fr0 hA hS
    refine va_calli (va_runV (As := [.int v3]) (rest := []) ⟨hx, hb, hml, hown, hts⟩ (c_X0_knows l dC dI cI h0 h0_1 h0_2 _ (s0_termByNumber, s0_nextNumberByTerm, s0_size) v3 _ h) (cwV 1 hts gX0_sizeWith_X0_knows rfl rfl rfl (by decide +kernel) ⟨Nat.le_of_ble_eq_true rfl, Nat.le_of_ble_eq_true rfl⟩) (pb_V hPc hK hDc hN (ci := 0) (q0 := 0) rfl rfl) rfl rfl hl.1 rfl (lv_room (Nat.le_of_ble_eq_true rfl)) dX0_sizeWith_35 ⟨Nat.zero_le _, Nat.zero_le _⟩) hS (fun q _ h => hFc q h) hFc (fun r_3 u_2 t H locs ht hvm h hB hz1 hk1 hS => ?_)
    have hP := vaPk hP hk1
    obtain ⟨ht_, hf_⟩ := h
    refine lv_if_ne (tgt := 54) hx hb dX0_sizeWith_38 (by decide) (fun c_4 => ?_) (fun c_4 => ?_)
    · have h := ht_ c_4
      refine lv_iload hx hb dX0_sizeWith_54 (lv_at hl 4 rfl) ?_
      exact W.iret (v := v4_1) hx hb hr (fun t ht hW => ⟨⟨v4_1, (), rfl, h, trivial⟩, hS.F ht⟩) hS.2.2 dX0_sizeWith_56
    · have h := hf_ c_4
      refine lv_iload_n hx hb dX0_sizeWith_41 rfl (lv_at hl 3 rfl) ?_
      refine lv_iload_n hx hb dX0_sizeWith_42 rfl (lv_at hl 1 rfl) ?_
      obtain ⟨ht_, hf_⟩ := h
      refine lv_icmp_eq (tgt := 54) hx hb dX0_sizeWith_43 (by decide) (fun c_5 => ?_) (fun c_5 => ?_)
      · have h := ht_ c_5
        refine lv_iload hx hb dX0_sizeWith_54 (lv_at hl 4 rfl) ?_
        exact W.iret (v := v4_1) hx hb hr (fun t ht hW => ⟨⟨v4_1, (), rfl, h, trivial⟩, hS.F ht⟩) hS.2.2 dX0_sizeWith_56
      · have h := hf_ c_5
        refine lv_iload_n hx hb dX0_sizeWith_46 rfl (lv_at hl 3 rfl) ?_
        refine lv_iload_n hx hb dX0_sizeWith_47 rfl (lv_at hl 2 rfl) ?_
        obtain ⟨ht_, hf_⟩ := h
        refine lv_icmp_eq (tgt := 54) hx hb dX0_sizeWith_48 (by decide) (fun c_6 => ?_) (fun c_6 => ?_)
        · have h := ht_ c_6
          refine lv_iload hx hb dX0_sizeWith_54 (lv_at hl 4 rfl) ?_
          exact W.iret (v := v4_1) hx hb hr (fun t ht hW => ⟨⟨v4_1, (), rfl, h, trivial⟩, hS.F ht⟩) hS.2.2 dX0_sizeWith_56
        · have h := hf_ c_6
          refine lv_iinc (v := (v4_1 + (1 : Int32))) (lv' := [(4, .int (v4_1 + (1 : Int32))), (0, .ref h0), (1, .int v1), (2, .int v2), (3, .int v3)]) hx hb dX0_sizeWith_51 hl (k := 4) rfl rfl (by decide) rfl (fun ls hl => ?_)
          refine lv_iload hx hb dX0_sizeWith_54 (lv_at hl 0 rfl) ?_
          exact W.iret (v := (v4_1 + (1 : Int32))) hx hb hr (fun t ht hW => ⟨⟨(v4_1 + (1 : Int32)), (), rfl, h, trivial⟩, hS.F ht⟩) hS.2.2 dX0_sizeWith_56
  have lab_17 : ∀ (v4_7 : Int32) (h : P_X0_sizeWith_j17 (s0_termByNumber, s0_nextNumberByTerm, s0_size) v1 v2 v3 v4_7 post) (H : Heap) (locs : List Loc) (hP : va_P (dC, dI) vwCl [(h0, .inr (0, [.ref h0_1, .ref h0_2, .int s0_size])), (h0_1, .inl (cI, 40, .inl s0_termByNumber)), (h0_2, .inl (cI, 100, .inl s0_nextNumberByTerm))] H) (hD : va_D (fun _ : Nat => True) [(h0, .inr (0, [.ref h0_1, .ref h0_2, .int s0_size])), (h0_1, .inl (cI, 40, .inl s0_termByNumber)), (h0_2, .inl (cI, 100, .inl s0_nextNumberByTerm))]) (hS : va_S A s.heap H locs) (ls : Array Slot) (hl : lv_has ls 5 [(0, .ref h0), (1, .int v1), (2, .int v2), (3, .int v3), (4, .int v4_7)]), W p l e rm_X0_sizeWith s m ([.ref h0, .int v1, .int v2, .int v3] : List Value).toArray below meth c H locs 0 0 (MQ below (Q_X0_sizeWith dC dI cI h0 h0_1 h0_2 (s0_termByNumber, s0_nextNumberByTerm, s0_size) A post) (([.ref h0, .int v1, .int v2, .int v3] : List Value).toArray) s 0 0 A) (F0 m 17 ls []) := by
    intro v4_7 h H locs hP hD hS ls hl
    refine lv_aload_n hx hb dX0_sizeWith_17 rfl (lv_at hl 0 rfl) ?_
    refine lv_iload_n hx hb dX0_sizeWith_18 rfl (lv_at hl 2 rfl) ?_
    have hPc := hP.sub (ws' := [(h0, .inr (0, [.ref h0_1, .ref h0_2, .int s0_size])), (h0_1, .inl (cI, 40, .inl s0_termByNumber)), (h0_2, .inl (cI, 100, .inl s0_nextNumberByTerm))]) [0, 1, 2] rfl
    have hDc := hD.sub (ws' := [(h0, .inr (0, [.ref h0_1, .ref h0_2, .int s0_size])), (h0_1, .inl (cI, 40, .inl s0_termByNumber)), (h0_2, .inl (cI, 100, .inl s0_nextNumberByTerm))]) [0, 1, 2] (by decide) rfl
    have hFc := fr0 hA hS
    refine va_calli (va_runV (As := [.int v2]) (rest := []) ⟨hx, hb, hml, hown, hts⟩ (c_X0_knows l dC dI cI h0 h0_1 h0_2 _ (s0_termByNumber, s0_nextNumberByTerm, s0_size) v2 _ h) (cwV 1 hts gX0_sizeWith_X0_knows rfl rfl rfl (by decide +kernel) ⟨Nat.le_of_ble_eq_true rfl, Nat.le_of_ble_eq_true rfl⟩) (pb_V hPc hK hDc hN (ci := 0) (q0 := 0) rfl rfl) rfl rfl hl.1 rfl (lv_room (Nat.le_of_ble_eq_true rfl)) dX0_sizeWith_19 ⟨Nat.zero_le _, Nat.zero_le _⟩) hS (fun q _ h => hFc q h) hFc (fun r_9 u_8 t H locs ht hvm h hB hz1 hk1 hS => ?_)
    have hP := vaPk hP hk1
    obtain ⟨ht_, hf_⟩ := h
    refine lv_if_ne (tgt := 33) hx hb dX0_sizeWith_22 (by decide) (fun c_10 => ?_) (fun c_10 => ?_)
    · have h := ht_ c_10
      exact lab_33 v4_7 h _ _ hP hD hS _ hl
    · have h := hf_ c_10
      refine lv_iload_n hx hb dX0_sizeWith_25 rfl (lv_at hl 2 rfl) ?_
      refine lv_iload_n hx hb dX0_sizeWith_26 rfl (lv_at hl 1 rfl) ?_
      obtain ⟨ht_, hf_⟩ := h
      refine lv_icmp_eq (tgt := 33) hx hb dX0_sizeWith_27 (by decide) (fun c_11 => ?_) (fun c_11 => ?_)
      · have h := ht_ c_11
        exact lab_33 v4_7 h _ _ hP hD hS _ hl
      · have h := hf_ c_11
        refine lv_iinc (v := (v4_7 + (1 : Int32))) (lv' := [(4, .int (v4_7 + (1 : Int32))), (0, .ref h0), (1, .int v1), (2, .int v2), (3, .int v3)]) hx hb dX0_sizeWith_30 hl (k := 4) rfl rfl (by decide) rfl (fun ls hl => ?_)
        have hl : lv_has ls 5 [(0, .ref h0), (1, .int v1), (2, .int v2), (3, .int v3), (4, .int (v4_7 + (1 : Int32)))] := lv_sub hl [1, 2, 3, 4, 0] rfl
        exact lab_33 (v4_7 + (1 : Int32)) h _ _ hP hD hS _ hl
  refine lv_aload_n hx hb dX0_sizeWith_0 rfl (lv_at hl 0 rfl) ?_
  refine va_get (D := (dC, dI)) (ci := 0) (v := .int s0_size) (C := RX0) (T := TX0) (N := 3) hx hb hts (hinX0) hown hK hP 0 rfl rfl 2 (by decide) (hts (.fieldLink RX0 18 "TripleJoins$Dictionary" "size" "I") (by decide +kernel)) (fun _ h9 => h9) rfl dX0_sizeWith_1 ?_
  refine lv_istore (lv' := [(4, .int s0_size), (0, .ref h0), (1, .int v1), (2, .int v2), (3, .int v3)]) hx hb dX0_sizeWith_4 hl (by decide) rfl (fun ls hl => ?_)
  refine lv_aload_n hx hb dX0_sizeWith_6 rfl (lv_at hl 1 rfl) ?_
  refine lv_iload_n hx hb dX0_sizeWith_7 rfl (lv_at hl 2 rfl) ?_
  have hPc := hP.sub (ws' := [(h0, .inr (0, [.ref h0_1, .ref h0_2, .int s0_size])), (h0_1, .inl (cI, 40, .inl s0_termByNumber)), (h0_2, .inl (cI, 100, .inl s0_nextNumberByTerm))]) [0, 1, 2] rfl
  have hDc := hD.sub (ws' := [(h0, .inr (0, [.ref h0_1, .ref h0_2, .int s0_size])), (h0_1, .inl (cI, 40, .inl s0_termByNumber)), (h0_2, .inl (cI, 100, .inl s0_nextNumberByTerm))]) [0, 1, 2] (by decide) rfl
  have hFc := fr0 hA hS
  refine va_calli (va_runV (As := [.int v1]) (rest := []) ⟨hx, hb, hml, hown, hts⟩ (c_X0_knows l dC dI cI h0 h0_1 h0_2 _ (s0_termByNumber, s0_nextNumberByTerm, s0_size) v1 _ h) (cwV 1 hts gX0_sizeWith_X0_knows rfl rfl rfl (by decide +kernel) ⟨Nat.le_of_ble_eq_true rfl, Nat.le_of_ble_eq_true rfl⟩) (pb_V hPc hK hDc hN (ci := 0) (q0 := 0) rfl rfl) rfl rfl hl.1 rfl (lv_room (Nat.le_of_ble_eq_true rfl)) dX0_sizeWith_8 ⟨Nat.zero_le _, Nat.zero_le _⟩) hS (fun q _ h => hFc q h) hFc (fun r_13 u_12 t H locs ht hvm h hB hz1 hk1 hS => ?_)
  have hP := vaPk hP hk1
  obtain ⟨ht_, hf_⟩ := h
  refine lv_if_ne (tgt := 17) hx hb dX0_sizeWith_11 (by decide) (fun c_14 => ?_) (fun c_14 => ?_)
  · have h := ht_ c_14
    have hl : lv_has ls 5 [(0, .ref h0), (1, .int v1), (2, .int v2), (3, .int v3), (4, .int s0_size)] := lv_sub hl [1, 2, 3, 4, 0] rfl
    exact lab_17 s0_size h _ _ hP hD hS _ hl
  · have h := hf_ c_14
    refine lv_iinc (v := (s0_size + (1 : Int32))) (lv' := [(4, .int (s0_size + (1 : Int32))), (0, .ref h0), (1, .int v1), (2, .int v2), (3, .int v3)]) hx hb dX0_sizeWith_14 hl (k := 0) rfl rfl (by decide) rfl (fun ls hl => ?_)
    have hl : lv_has ls 5 [(0, .ref h0), (1, .int v1), (2, .int v2), (3, .int v3), (4, .int (s0_size + (1 : Int32)))] := lv_sub hl [1, 2, 3, 4, 0] rfl
    exact lab_17 (s0_size + (1 : Int32)) h _ _ hP hD hS _ hl
abbrev Q_X0_learn (dC : Nat → ClassId) (dI : Nat → Nat → Nat) (cI : ClassId) (h0 h0_1 h0_2 : Nat) (s0 : DicS) (A : Nat → Prop) (post : DicS → Prop) : Array Value → State → Outcome → State → Prop := va_Qv post (fun (u : DicS) (t : State) => va_P (dC, dI) vwCl [(h0, .inr (0, [.ref h0_1, .ref h0_2, .int u.size])), (h0_1, .inl (cI, 40, .inl u.termByNumber)), (h0_2, .inl (cI, 100, .inl u.nextNumberByTerm))] t.heap ∧ va_D A [(h0, .inr (0, [.ref h0_1, .ref h0_2, .int u.size])), (h0_1, .inl (cI, 40, .inl u.termByNumber)), (h0_2, .inl (cI, 100, .inl u.nextNumberByTerm))]) A
abbrev rm_X0_learn : Room := { frames := 2, cells := 0, slots := 0, locals := 42 }
set_option maxHeartbeats 4000000 in
set_option maxRecDepth 100000 in
theorem c_X0_learn (l : Launch) (dC : Nat → ClassId) (dI : Nat → Nat → Nat) (cI : ClassId) (h0 h0_1 h0_2 : Nat) (sz : Nat) (s0 : DicS) (v1 : Int32) (post : DicS → Prop) (h : P_X0_learn s0 v1 post) : Met l yX0_learn wsX0_learn rm_X0_learn (va_Pc [.ref h0, .int v1] (cpre (dC, dI) [(cI, .int)] [(h0, .inr (0, [.ref h0_1, .ref h0_2, .int s0.size])), (h0_1, .inl (cI, 40, .inl s0.termByNumber)), (h0_2, .inl (cI, 100, .inl s0.nextNumberByTerm))] sz)) (Q_X0_learn dC dI cI h0 h0_1 h0_2 s0 (va_A [(h0, .inr (0, [.ref h0_1, .ref h0_2, .int s0.size])), (h0_1, .inl (cI, 40, .inl s0.termByNumber)), (h0_2, .inl (cI, 100, .inl s0.nextNumberByTerm))] sz) post) 0 0 (va_A [(h0, .inr (0, [.ref h0_1, .ref h0_2, .int s0.size])), (h0_1, .inl (cI, 40, .inl s0.termByNumber)), (h0_2, .inl (cI, 100, .inl s0.nextNumberByTerm))] sz) := by
  refine Met.ofW (cc := cX0_learn) (maxL := 2) (ret := none) (by decide) rfl ?_
  intro p e s m args below meth c s₁ B hml hv
  obtain ⟨rfl, hsz, hP, hK, hD0, hN⟩ := hv
  have hx := B.exec
  have hb := B.bytes
  have hr := B.returns
  have hts := atoms_spec (ws := wsX0_learn) B.pre
  have hown : s.vm.findClass RX0 = some m.cls := findClass_of_methodNamed B.named
  have hlocks := B.notSynchronized
  subst hsz
  have hD := hD0.self (sz := s.heap.size)
  generalize hAe : va_A [(h0, .inr (0, [.ref h0_1, .ref h0_2, .int s0.size])), (h0_1, .inl (cI, 40, .inl s0.termByNumber)), (h0_2, .inl (cI, 100, .inl s0.nextNumberByTerm))] s.heap.size = A at hD ⊢
  have hA : ∀ q : Nat, s.heap.size ≤ q → A q := fun q h => by rw [← hAe]; exact Or.inr h
  clear hAe hD0
  obtain ⟨s0_termByNumber, s0_nextNumberByTerm, s0_size⟩ := s0
  have hS : va_S A s.heap s.heap [] := va_S.rf
  have hP : va_P (dC, dI) vwCl [(h0, .inr (0, [.ref h0_1, .ref h0_2, .int s0_size])), (h0_1, .inl (cI, 40, .inl s0_termByNumber)), (h0_2, .inl (cI, 100, .inl s0_nextNumberByTerm))] s.heap := hP
  have hD : va_D A [(h0, .inr (0, [.ref h0_1, .ref h0_2, .int s0_size])), (h0_1, .inl (cI, 40, .inl s0_termByNumber)), (h0_2, .inl (cI, 100, .inl s0_nextNumberByTerm))] := hD
  have hl := lv_entry ([.ref h0, .int v1]) (n := 2) (Nat.le_of_ble_eq_true rfl)
  rw [lg_entry_eq]
  generalize (lg_sl ([.ref h0, .int v1]) ++ List.replicate (2 - (lg_sl ([.ref h0, .int v1])).length) Slot.unset).toArray = ls at hl ⊢
  have hl : lv_has ls 2 [(0, .ref h0), (1, .int v1)] := hl
  have hinX0 : ∀ w ∈ u_ws RX0 TX0 3, w ∈ wsX0_learn := by decide +kernel
  refine lv_aload_n hx hb dX0_learn_0 rfl (lv_at hl 0 rfl) ?_
  refine lv_iload_n hx hb dX0_learn_1 rfl (lv_at hl 1 rfl) ?_
  have hPc := hP.sub (ws' := [(h0, .inr (0, [.ref h0_1, .ref h0_2, .int s0_size])), (h0_1, .inl (cI, 40, .inl s0_termByNumber)), (h0_2, .inl (cI, 100, .inl s0_nextNumberByTerm))]) [0, 1, 2] rfl
  have hDc := hD.sub (ws' := [(h0, .inr (0, [.ref h0_1, .ref h0_2, .int s0_size])), (h0_1, .inl (cI, 40, .inl s0_termByNumber)), (h0_2, .inl (cI, 100, .inl s0_nextNumberByTerm))]) [0, 1, 2] (by decide) rfl
  have hFc := fr0 hA hS
  refine va_calli (va_runV (As := [.int v1]) (rest := []) ⟨hx, hb, hml, hown, hts⟩ (c_X0_knows l dC dI cI h0 h0_1 h0_2 _ (s0_termByNumber, s0_nextNumberByTerm, s0_size) v1 _ h) (cwV 1 hts gX0_learn_X0_knows rfl rfl rfl (by decide +kernel) ⟨Nat.le_of_ble_eq_true rfl, Nat.le_of_ble_eq_true rfl⟩) (pb_V hPc hK hDc hN (ci := 0) (q0 := 0) rfl rfl) rfl rfl hl.1 rfl (lv_room (Nat.le_of_ble_eq_true rfl)) dX0_learn_2 ⟨Nat.zero_le _, Nat.zero_le _⟩) hS (fun q _ h => hFc q h) hFc (fun r_2 u_1 t H locs ht hvm h hB hz1 hk1 hS => ?_)
  have hP := vaPk hP hk1
  obtain ⟨ht_, hf_⟩ := h
  refine lv_if_ne (tgt := 51) hx hb dX0_learn_5 (by decide) (fun c_3 => ?_) (fun c_3 => ?_)
  · have h := ht_ c_3
    exact W.vret hx hb hr (fun t ht hW => ⟨⟨(s0_termByNumber, s0_nextNumberByTerm, s0_size), rfl, h, ⟨by rw [ht]; exact hP, hD⟩⟩, hS.F ht⟩) hS.2.2 dX0_learn_51
  · have h := hf_ c_3
    refine lv_aload_n hx hb dX0_learn_8 rfl (lv_at hl 0 rfl) ?_
    refine va_get (D := (dC, dI)) (ci := 0) (v := .int s0_size) (C := RX0) (T := TX0) (N := 3) hx hb hts (hinX0) hown hK hP 0 rfl rfl 2 (by decide) (hts (.fieldLink RX0 18 "TripleJoins$Dictionary" "size" "I") (by decide +kernel)) (fun _ h9 => h9) rfl dX0_learn_9 ?_
    refine lv_bipush (v := (40 : Int32)) hx hb dX0_learn_12 (by decide) ?_
    obtain ⟨ht_, hf_⟩ := h
    refine lv_icmp_ge (tgt := 51) hx hb dX0_learn_14 (by decide) (fun c_4 => ?_) (fun c_4 => ?_)
    · have h := ht_ c_4
      exact W.vret hx hb hr (fun t ht hW => ⟨⟨(s0_termByNumber, s0_nextNumberByTerm, s0_size), rfl, h, ⟨by rw [ht]; exact hP, hD⟩⟩, hS.F ht⟩) hS.2.2 dX0_learn_51
    · have h := hf_ c_4
      refine lv_aload_n hx hb dX0_learn_17 rfl (lv_at hl 0 rfl) ?_
      refine va_get (D := (dC, dI)) (ci := 0) (v := .ref h0_1) (C := RX0) (T := TX0) (N := 3) hx hb hts (hinX0) hown hK hP 0 rfl rfl 0 (by decide) (hts (.fieldLink RX0 9 "TripleJoins$Dictionary" "termByNumber" "[I") (by decide +kernel)) (fun _ h9 => h9) rfl dX0_learn_18 ?_
      refine lv_aload_n hx hb dX0_learn_21 rfl (lv_at hl 0 rfl) ?_
      refine va_get (D := (dC, dI)) (ci := 0) (v := .int s0_size) (C := RX0) (T := TX0) (N := 3) hx hb hts (hinX0) hown hK hP 0 rfl rfl 2 (by decide) (hts (.fieldLink RX0 18 "TripleJoins$Dictionary" "size" "I") (by decide +kernel)) (fun _ h9 => h9) rfl dX0_learn_22 ?_
      refine lv_iload_n hx hb dX0_learn_25 rfl (lv_at hl 1 rfl) ?_
      have hPc := hP.sub (ws' := [(h0_1, .inl (cI, 40, .inl s0_termByNumber))]) [1] rfl
      have hDc := hD.sub (ws' := [(h0_1, .inl (cI, 40, .inl s0_termByNumber))]) [1] (by decide) rfl
      have hFc := va_free (wc := [(h0_1, .inl (cI, 40, .inl s0_termByNumber))]) hD hS hA [1] rfl
      refine va_callv (va_runSN (As := [.ref h0_1, .int s0_size, .int v1]) (rest := []) ⟨hx, hb, hml, hown, hts⟩ (c_X7_put l dC dI cI h0_1 _ 40 s0_termByNumber s0_size v1 _ h) ⟨va_cnB 3 hts gX0_learn_X7_put_n37 rfl rfl rfl (nk_get hN 9 rfl) (hts (.initialized RX7) (by decide +kernel)) (by decide +kernel) ⟨Nat.le_of_ble_eq_true rfl, Nat.le_of_ble_eq_true rfl⟩, (hts (.static yX7_put) (by decide +kernel)), trivial⟩ (pb_S hPc hK hDc hN) rfl rfl hl.1 rfl (lv_room (Nat.le_of_ble_eq_true rfl)) dX0_learn_26 ⟨Nat.zero_le _, Nat.zero_le _⟩) hS (fun q _ h => hFc q h) hFc (fun u_5 t H locs ht hvm h hB hz1 hk1 hS => ?_)
      obtain ⟨hP1, hD1⟩ := hB
      rw [ht] at hP1
      obtain ⟨hP, hD⟩ := cl_join (wr := [(h0, .inr (0, [.ref h0_1, .ref h0_2, .int s0_size])), (h0_2, .inl (cI, 100, .inl s0_nextNumberByTerm))]) (w1 := [(h0_1, .inl (cI, 40, .inl u_5))]) (ws' := [(h0, .inr (0, [.ref h0_1, .ref h0_2, .int s0_size])), (h0_1, .inl (cI, 40, .inl u_5)), (h0_2, .inl (cI, 100, .inl s0_nextNumberByTerm))]) hP hD [1] [0, 2] [0, 2, 1] rfl rfl (by decide) (by decide) (by decide) rfl hk1 hFc hP1 hD1
      refine lv_aload_n hx hb dX0_learn_29 rfl (lv_at hl 0 rfl) ?_
      refine lv_dup hx hb dX0_learn_30 rfl ?_
      refine va_get (D := (dC, dI)) (ci := 0) (v := .int s0_size) (C := RX0) (T := TX0) (N := 3) hx hb hts (hinX0) hown hK hP 0 rfl rfl 2 (by decide) (hts (.fieldLink RX0 18 "TripleJoins$Dictionary" "size" "I") (by decide +kernel)) (fun _ h9 => h9) rfl dX0_learn_31 ?_
      refine lv_iconst (v := (1 : Int32)) hx hb dX0_learn_34 (by decide) ?_
      refine lv_iadd hx hb dX0_learn_35 ?_
      refine va_put (D := (dC, dI)) (ci := 0) (v := .int (s0_size + (1 : Int32))) (ty := .int) (C := RX0) (T := TX0) (N := 3) hx hb hts (hinX0) tyX0 tyX0_ok nmX0 hown hK hP hD hS 0 rfl rfl 2 (by decide) (hts (.fieldLink RX0 18 "TripleJoins$Dictionary" "size" "I") (by decide +kernel)) (fun _ h9 => h9) rfl (by decide +kernel) rfl rfl (Nat.le_of_ble_eq_true rfl) dX0_learn_36 (fun H locs hP hD hS => ?_)
      have hP : va_P (dC, dI) vwCl [(h0, .inr (0, [.ref h0_1, .ref h0_2, .int (s0_size + (1 : Int32))])), (h0_1, .inl (cI, 40, .inl u_5)), (h0_2, .inl (cI, 100, .inl s0_nextNumberByTerm))] _ := hP
      have hD : va_D A [(h0, .inr (0, [.ref h0_1, .ref h0_2, .int (s0_size + (1 : Int32))])), (h0_1, .inl (cI, 40, .inl u_5)), (h0_2, .inl (cI, 100, .inl s0_nextNumberByTerm))] := hD
      refine lv_aload_n hx hb dX0_learn_39 rfl (lv_at hl 0 rfl) ?_
      refine va_get (D := (dC, dI)) (ci := 0) (v := .ref h0_2) (C := RX0) (T := TX0) (N := 3) hx hb hts (hinX0) hown hK hP 0 rfl rfl 1 (by decide) (hts (.fieldLink RX0 15 "TripleJoins$Dictionary" "nextNumberByTerm" "[I") (by decide +kernel)) (fun _ h9 => h9) rfl dX0_learn_40 ?_
      refine lv_iload_n hx hb dX0_learn_43 rfl (lv_at hl 1 rfl) ?_
      refine lv_aload_n hx hb dX0_learn_44 rfl (lv_at hl 0 rfl) ?_
      refine va_get (D := (dC, dI)) (ci := 0) (v := .int (s0_size + (1 : Int32))) (C := RX0) (T := TX0) (N := 3) hx hb hts (hinX0) hown hK hP 0 rfl rfl 2 (by decide) (hts (.fieldLink RX0 18 "TripleJoins$Dictionary" "size" "I") (by decide +kernel)) (fun _ h9 => h9) rfl dX0_learn_45 ?_
      have hPc := hP.sub (ws' := [(h0_2, .inl (cI, 100, .inl s0_nextNumberByTerm))]) [2] rfl
      have hDc := hD.sub (ws' := [(h0_2, .inl (cI, 100, .inl s0_nextNumberByTerm))]) [2] (by decide) rfl
      have hFc := va_free (wc := [(h0_2, .inl (cI, 100, .inl s0_nextNumberByTerm))]) hD hS hA [2] rfl
      refine va_callv (va_runSN (As := [.ref h0_2, .int v1, .int (s0_size + (1 : Int32))]) (rest := []) ⟨hx, hb, hml, hown, hts⟩ (c_X7_put l dC dI cI h0_2 _ 100 s0_nextNumberByTerm v1 (s0_size + (1 : Int32)) _ h) ⟨va_cnB 3 hts gX0_learn_X7_put_n37 rfl rfl rfl (nk_get hN 9 rfl) (hts (.initialized RX7) (by decide +kernel)) (by decide +kernel) ⟨Nat.le_of_ble_eq_true rfl, Nat.le_of_ble_eq_true rfl⟩, (hts (.static yX7_put) (by decide +kernel)), trivial⟩ (pb_S hPc hK hDc hN) rfl rfl hl.1 rfl (lv_room (Nat.le_of_ble_eq_true rfl)) dX0_learn_48 ⟨Nat.zero_le _, Nat.zero_le _⟩) hS (fun q _ h => hFc q h) hFc (fun u_7 t H locs ht hvm h hB hz1 hk1 hS => ?_)
      obtain ⟨hP1, hD1⟩ := hB
      rw [ht] at hP1
      obtain ⟨hP, hD⟩ := cl_join (wr := [(h0, .inr (0, [.ref h0_1, .ref h0_2, .int (s0_size + (1 : Int32))])), (h0_1, .inl (cI, 40, .inl u_5))]) (w1 := [(h0_2, .inl (cI, 100, .inl u_7))]) (ws' := [(h0, .inr (0, [.ref h0_1, .ref h0_2, .int (s0_size + (1 : Int32))])), (h0_1, .inl (cI, 40, .inl u_5)), (h0_2, .inl (cI, 100, .inl u_7))]) hP hD [2] [0, 1] [0, 1, 2] rfl rfl (by decide) (by decide) (by decide) rfl hk1 hFc hP1 hD1
      exact W.vret hx hb hr (fun t ht hW => ⟨⟨(u_5, u_7, (s0_size + (1 : Int32))), rfl, h, ⟨by rw [ht]; exact hP, hD⟩⟩, hS.F ht⟩) hS.2.2 dX0_learn_51
abbrev Q_X0_term (dC : Nat → ClassId) (dI : Nat → Nat → Nat) (cI : ClassId) (h0 h0_1 h0_2 : Nat) (s0 : DicS) (A : Nat → Prop) (post : Int32 → Prop) : Array Value → State → Outcome → State → Prop := va_Qi (fun (r : Int32) (_ : Unit) => post r) (fun _ _ => True) A
abbrev rm_X0_term : Room := { frames := 1, cells := 0, slots := 0, locals := 21 }
set_option maxHeartbeats 4000000 in
set_option maxRecDepth 100000 in
theorem c_X0_term (l : Launch) (dC : Nat → ClassId) (dI : Nat → Nat → Nat) (cI : ClassId) (h0 h0_1 h0_2 : Nat) (sz : Nat) (s0 : DicS) (v1 : Int32) (post : Int32 → Prop) (h : P_X0_term s0 v1 post) : Met l yX0_term wsX0_term rm_X0_term (va_Pc [.ref h0, .int v1] (cpre (dC, dI) [(cI, .int)] [(h0, .inr (0, [.ref h0_1, .ref h0_2, .int s0.size])), (h0_1, .inl (cI, 40, .inl s0.termByNumber)), (h0_2, .inl (cI, 100, .inl s0.nextNumberByTerm))] sz)) (Q_X0_term dC dI cI h0 h0_1 h0_2 s0 (va_A [] sz) post) 0 0 (va_A [] sz) := by
  refine Met.ofW (cc := cX0_term) (maxL := 2) (ret := (some .int)) (by decide) rfl ?_
  intro p e s m args below meth c s₁ B hml hv
  obtain ⟨rfl, hsz, hP, hK, hD0, hN⟩ := hv
  have hx := B.exec
  have hb := B.bytes
  have hr := B.returns
  have hts := atoms_spec (ws := wsX0_term) B.pre
  have hown : s.vm.findClass RX0 = some m.cls := findClass_of_methodNamed B.named
  have hlocks := B.notSynchronized
  subst hsz
  have hD := hD0
  generalize hAe : va_A [] s.heap.size = A
  have hA : ∀ q : Nat, s.heap.size ≤ q → A q := fun q h => by rw [← hAe]; exact Or.inr h
  clear hAe hD0
  obtain ⟨s0_termByNumber, s0_nextNumberByTerm, s0_size⟩ := s0
  have hS : va_S A s.heap s.heap [] := va_S.rf
  have hP : va_P (dC, dI) vwCl [(h0, .inr (0, [.ref h0_1, .ref h0_2, .int s0_size])), (h0_1, .inl (cI, 40, .inl s0_termByNumber)), (h0_2, .inl (cI, 100, .inl s0_nextNumberByTerm))] s.heap := hP
  have hD : va_D (fun _ : Nat => True) [(h0, .inr (0, [.ref h0_1, .ref h0_2, .int s0_size])), (h0_1, .inl (cI, 40, .inl s0_termByNumber)), (h0_2, .inl (cI, 100, .inl s0_nextNumberByTerm))] := hD
  have hl := lv_entry ([.ref h0, .int v1]) (n := 2) (Nat.le_of_ble_eq_true rfl)
  rw [lg_entry_eq]
  generalize (lg_sl ([.ref h0, .int v1]) ++ List.replicate (2 - (lg_sl ([.ref h0, .int v1])).length) Slot.unset).toArray = ls at hl ⊢
  have hl : lv_has ls 2 [(0, .ref h0), (1, .int v1)] := hl
  have hinX0 : ∀ w ∈ u_ws RX0 TX0 3, w ∈ wsX0_term := by decide +kernel
  refine lv_aload_n hx hb dX0_term_0 rfl (lv_at hl 0 rfl) ?_
  refine va_get (D := (dC, dI)) (ci := 0) (v := .ref h0_1) (C := RX0) (T := TX0) (N := 3) hx hb hts (hinX0) hown hK hP 0 rfl rfl 0 (by decide) (hts (.fieldLink RX0 9 "TripleJoins$Dictionary" "termByNumber" "[I") (by decide +kernel)) (fun _ h9 => h9) rfl dX0_term_1 ?_
  refine lv_iload_n hx hb dX0_term_4 rfl (lv_at hl 1 rfl) ?_
  have hPc := hP.sub (ws' := [(h0_1, .inl (cI, 40, .inl s0_termByNumber))]) [1] rfl
  have hDc := hD.sub (ws' := [(h0_1, .inl (cI, 40, .inl s0_termByNumber))]) [1] (by decide) rfl
  have hFc := fr0 hA hS
  refine va_calli (va_runSN (As := [.ref h0_1, .int v1]) (rest := []) ⟨hx, hb, hml, hown, hts⟩ (c_X7_at l dC dI cI h0_1 _ 40 s0_termByNumber v1 _ h) ⟨va_cnB 2 hts gX0_term_X7_at_n22 rfl rfl rfl (nk_get hN 6 rfl) (hts (.initialized RX7) (by decide +kernel)) (by decide +kernel) ⟨Nat.le_of_ble_eq_true rfl, Nat.le_of_ble_eq_true rfl⟩, (hts (.static yX7_at) (by decide +kernel)), trivial⟩ (pb_S hPc hK hDc hN) rfl rfl hl.1 rfl (lv_room (Nat.le_of_ble_eq_true rfl)) dX0_term_5 ⟨Nat.zero_le _, Nat.zero_le _⟩) hS (fun q _ h => hFc q h) hFc (fun r_2 u_1 t H locs ht hvm h hB hz1 hk1 hS => ?_)
  have hP := vaPk hP hk1
  exact W.iret (v := r_2) hx hb hr (fun t ht hW => ⟨⟨r_2, (), rfl, h, trivial⟩, hS.F ht⟩) hS.2.2 dX0_term_8
abbrev Q_X0_size (dC : Nat → ClassId) (dI : Nat → Nat → Nat) (cI : ClassId) (h0 h0_1 h0_2 : Nat) (s0 : DicS) (A : Nat → Prop) (post : Int32 → Prop) : Array Value → State → Outcome → State → Prop := va_Qi (fun (r : Int32) (_ : Unit) => post r) (fun _ _ => True) A
abbrev rm_X0_size : Room := { frames := 0, cells := 0, slots := 0, locals := 0 }
set_option maxHeartbeats 4000000 in
set_option maxRecDepth 100000 in
theorem c_X0_size (l : Launch) (dC : Nat → ClassId) (dI : Nat → Nat → Nat) (cI : ClassId) (h0 h0_1 h0_2 : Nat) (sz : Nat) (s0 : DicS) (post : Int32 → Prop) (h : P_X0_size s0 post) : Met l yX0_size wsX0_size rm_X0_size (va_Pc [.ref h0] (cpre (dC, dI) [(cI, .int)] [(h0, .inr (0, [.ref h0_1, .ref h0_2, .int s0.size])), (h0_1, .inl (cI, 40, .inl s0.termByNumber)), (h0_2, .inl (cI, 100, .inl s0.nextNumberByTerm))] sz)) (Q_X0_size dC dI cI h0 h0_1 h0_2 s0 (va_A [] sz) post) 0 0 (va_A [] sz) := by
  refine Met.ofW (cc := cX0_size) (maxL := 1) (ret := (some .int)) (by decide) rfl ?_
  intro p e s m args below meth c s₁ B hml hv
  obtain ⟨rfl, hsz, hP, hK, hD0, hN⟩ := hv
  have hx := B.exec
  have hb := B.bytes
  have hr := B.returns
  have hts := atoms_spec (ws := wsX0_size) B.pre
  have hown : s.vm.findClass RX0 = some m.cls := findClass_of_methodNamed B.named
  have hlocks := B.notSynchronized
  subst hsz
  have hD := hD0
  generalize hAe : va_A [] s.heap.size = A
  have hA : ∀ q : Nat, s.heap.size ≤ q → A q := fun q h => by rw [← hAe]; exact Or.inr h
  clear hAe hD0
  obtain ⟨s0_termByNumber, s0_nextNumberByTerm, s0_size⟩ := s0
  have hS : va_S A s.heap s.heap [] := va_S.rf
  have hP : va_P (dC, dI) vwCl [(h0, .inr (0, [.ref h0_1, .ref h0_2, .int s0_size])), (h0_1, .inl (cI, 40, .inl s0_termByNumber)), (h0_2, .inl (cI, 100, .inl s0_nextNumberByTerm))] s.heap := hP
  have hD : va_D (fun _ : Nat => True) [(h0, .inr (0, [.ref h0_1, .ref h0_2, .int s0_size])), (h0_1, .inl (cI, 40, .inl s0_termByNumber)), (h0_2, .inl (cI, 100, .inl s0_nextNumberByTerm))] := hD
  have hl := lv_entry ([.ref h0]) (n := 1) (Nat.le_of_ble_eq_true rfl)
  rw [lg_entry_eq]
  generalize (lg_sl ([.ref h0]) ++ List.replicate (1 - (lg_sl ([.ref h0])).length) Slot.unset).toArray = ls at hl ⊢
  have hl : lv_has ls 1 [(0, .ref h0)] := hl
  have hinX0 : ∀ w ∈ u_ws RX0 TX0 3, w ∈ wsX0_size := by decide +kernel
  refine lv_aload_n hx hb dX0_size_0 rfl (lv_at hl 0 rfl) ?_
  refine va_get (D := (dC, dI)) (ci := 0) (v := .int s0_size) (C := RX0) (T := TX0) (N := 3) hx hb hts (hinX0) hown hK hP 0 rfl rfl 2 (by decide) (hts (.fieldLink RX0 18 "TripleJoins$Dictionary" "size" "I") (by decide +kernel)) (fun _ h9 => h9) rfl dX0_size_1 ?_
  exact W.iret (v := s0_size) hx hb hr (fun t ht hW => ⟨⟨s0_size, (), rfl, h, trivial⟩, hS.F ht⟩) hS.2.2 dX0_size_4
