abbrev Q_X7_isTerm (dC : Nat → ClassId) (dI : Nat → Nat → Nat) (cI : ClassId)   (A : Nat → Prop) (post : Int32 → Prop) : Array Value → State → Outcome → State → Prop := va_Qi (fun (r : Int32) (_ : Unit) => post r) (fun _ _ => True) A
abbrev rm_X7_isTerm : Room := { frames := 0, cells := 0, slots := 0, locals := 0 }
set_option maxHeartbeats 4000000 in
set_option maxRecDepth 100000 in
theorem c_X7_isTerm (l : Launch) (dC : Nat → ClassId) (dI : Nat → Nat → Nat) (cI : ClassId)  (sz : Nat) (v0 : Int32) (post : Int32 → Prop) (h : P_X7_isTerm v0 post) : Met l yX7_isTerm wsX7_isTerm rm_X7_isTerm (va_Pc [.int v0] (cpre (dC, dI) [(cI, .int)] [] sz)) (Q_X7_isTerm dC dI cI (va_A [] sz) post) 0 0 (va_A [] sz) := by
  refine Met.ofW (cc := cX7_isTerm) (maxL := 1) (ret := (some .boolean)) (by decide) rfl ?_
  intro p e s m args below meth c s₁ B hml hv
  obtain ⟨rfl, hsz, hP, hK, hD0, hN⟩ := hv
  have hx := B.exec
  have hb := B.bytes
  have hr := B.returns
  have hts := atoms_spec (ws := wsX7_isTerm) B.pre
  have hown : s.vm.findClass RX7 = some m.cls := findClass_of_methodNamed B.named
  have hlocks := B.notSynchronized
  subst hsz
  have hD := hD0
  generalize hAe : va_A [] s.heap.size = A
  have hA : ∀ q : Nat, s.heap.size ≤ q → A q := fun q h => by rw [← hAe]; exact Or.inr h
  clear hAe hD0
  have hS : va_S A s.heap s.heap [] := va_S.rf
  have hP : va_P (dC, dI) vwCl [] s.heap := hP
  have hD : va_D (fun _ : Nat => True) [] := hD
  have hl := lv_entry ([.int v0]) (n := 1) (Nat.le_of_ble_eq_true rfl)
  rw [lg_entry_eq]
  generalize (lg_sl ([.int v0]) ++ List.replicate (1 - (lg_sl ([.int v0])).length) Slot.unset).toArray = ls at hl ⊢
  have hl : lv_has ls 1 [(0, .int v0)] := hl
  refine lv_iload_n hx hb dX7_isTerm_0 rfl (lv_at hl 0 rfl) ?_
  obtain ⟨ht_, hf_⟩ := h
  refine lv_if_lt (tgt := 14) hx hb dX7_isTerm_1 (by decide) (fun c_1 => ?_) (fun c_1 => ?_)
  · have h := ht_ c_1
    refine lv_iconst (v := (0 : Int32)) hx hb dX7_isTerm_14 (by decide) ?_
    exact W.zret (v := (0 : Int32)) hx hb hr (by decide +kernel) (fun t ht hW => ⟨⟨(0 : Int32), (), rfl, h, trivial⟩, hS.F ht⟩) hS.2.2 dX7_isTerm_15
  · have h := hf_ c_1
    refine lv_iload_n hx hb dX7_isTerm_4 rfl (lv_at hl 0 rfl) ?_
    refine lv_bipush (v := (100 : Int32)) hx hb dX7_isTerm_5 (by decide) ?_
    obtain ⟨ht_, hf_⟩ := h
    refine lv_icmp_ge (tgt := 14) hx hb dX7_isTerm_7 (by decide) (fun c_2 => ?_) (fun c_2 => ?_)
    · have h := ht_ c_2
      refine lv_iconst (v := (0 : Int32)) hx hb dX7_isTerm_14 (by decide) ?_
      exact W.zret (v := (0 : Int32)) hx hb hr (by decide +kernel) (fun t ht hW => ⟨⟨(0 : Int32), (), rfl, h, trivial⟩, hS.F ht⟩) hS.2.2 dX7_isTerm_15
    · have h := hf_ c_2
      refine lv_iconst (v := (1 : Int32)) hx hb dX7_isTerm_10 (by decide) ?_
      refine lv_goto (tgt := 15) hx hb dX7_isTerm_11 (by decide) ?_
      exact W.zret (v := (1 : Int32)) hx hb hr (by decide +kernel) (fun t ht hW => ⟨⟨(1 : Int32), (), rfl, h, trivial⟩, hS.F ht⟩) hS.2.2 dX7_isTerm_15
abbrev Q_X7_at (dC : Nat → ClassId) (dI : Nat → Nat → Nat) (cI : ClassId) (h0 : Nat) (n0 : Nat) (s0 : (Nat → Int32)) (A : Nat → Prop) (post : Int32 → Prop) : Array Value → State → Outcome → State → Prop := va_Qi (fun (r : Int32) (_ : Unit) => post r) (fun _ _ => True) A
abbrev rm_X7_at : Room := { frames := 0, cells := 0, slots := 0, locals := 0 }
set_option maxHeartbeats 4000000 in
set_option maxRecDepth 100000 in
theorem c_X7_at (l : Launch) (dC : Nat → ClassId) (dI : Nat → Nat → Nat) (cI : ClassId) (h0 : Nat) (sz : Nat) (n0 : Nat) (s0 : (Nat → Int32)) (v1 : Int32) (post : Int32 → Prop) (h : P_X7_at n0 s0 v1 post) : Met l yX7_at wsX7_at rm_X7_at (va_Pc [.ref h0, .int v1] (cpre (dC, dI) [(cI, .int)] [(h0, .inl (cI, n0, .inl s0))] sz)) (Q_X7_at dC dI cI h0 n0 s0 (va_A [] sz) post) 0 0 (va_A [] sz) := by
  refine Met.ofW (cc := cX7_at) (maxL := 2) (ret := (some .int)) (by decide) rfl ?_
  intro p e s m args below meth c s₁ B hml hv
  obtain ⟨rfl, hsz, hP, hK, hD0, hN⟩ := hv
  have hx := B.exec
  have hb := B.bytes
  have hr := B.returns
  have hts := atoms_spec (ws := wsX7_at) B.pre
  have hown : s.vm.findClass RX7 = some m.cls := findClass_of_methodNamed B.named
  have hlocks := B.notSynchronized
  subst hsz
  have hD := hD0
  generalize hAe : va_A [] s.heap.size = A
  have hA : ∀ q : Nat, s.heap.size ≤ q → A q := fun q h => by rw [← hAe]; exact Or.inr h
  clear hAe hD0
  have hS : va_S A s.heap s.heap [] := va_S.rf
  have hP : va_P (dC, dI) vwCl [(h0, .inl (cI, n0, .inl s0))] s.heap := hP
  have hD : va_D (fun _ : Nat => True) [(h0, .inl (cI, n0, .inl s0))] := hD
  have hl := lv_entry ([.ref h0, .int v1]) (n := 2) (Nat.le_of_ble_eq_true rfl)
  rw [lg_entry_eq]
  generalize (lg_sl ([.ref h0, .int v1]) ++ List.replicate (2 - (lg_sl ([.ref h0, .int v1])).length) Slot.unset).toArray = ls at hl ⊢
  have hl : lv_has ls 2 [(0, .ref h0), (1, .int v1)] := hl
  refine lv_aload_n hx hb dX7_at_0 rfl (lv_at hl 0 rfl) ?_
  refine lv_ifnull hx hb dX7_at_1 ?_
  refine lv_iload_n hx hb dX7_at_4 rfl (lv_at hl 1 rfl) ?_
  obtain ⟨ht_, hf_⟩ := h
  refine lv_if_lt (tgt := 20) hx hb dX7_at_5 (by decide) (fun c_2 => ?_) (fun c_2 => ?_)
  · have h := ht_ c_2
    refine lv_iconst (v := (0 : Int32)) hx hb dX7_at_20 (by decide) ?_
    exact W.iret (v := (0 : Int32)) hx hb hr (fun t ht hW => ⟨⟨(0 : Int32), (), rfl, h, trivial⟩, hS.F ht⟩) hS.2.2 dX7_at_21
  · have h := hf_ c_2
    refine lv_iload_n hx hb dX7_at_8 rfl (lv_at hl 1 rfl) ?_
    refine lv_aload_n hx hb dX7_at_9 rfl (lv_at hl 0 rfl) ?_
    refine va_alen hx hb hK hP 0 0 rfl rfl (v := (Int32.ofNat n0)) rfl dX7_at_10 ?_
    obtain ⟨ht_, hf_⟩ := h
    refine lv_icmp_ge (tgt := 20) hx hb dX7_at_11 (by decide) (fun c_3 => ?_) (fun c_3 => ?_)
    · have h := ht_ c_3
      refine lv_iconst (v := (0 : Int32)) hx hb dX7_at_20 (by decide) ?_
      exact W.iret (v := (0 : Int32)) hx hb hr (fun t ht hW => ⟨⟨(0 : Int32), (), rfl, h, trivial⟩, hS.F ht⟩) hS.2.2 dX7_at_21
    · have h := hf_ c_3
      refine lv_aload_n hx hb dX7_at_14 rfl (lv_at hl 0 rfl) ?_
      refine lv_iload_n hx hb dX7_at_15 rfl (lv_at hl 1 rfl) ?_
      obtain ⟨hin, h⟩ := h
      refine va_iald (n := n0) hx hb hK hP 0 0 rfl rfl hin dX7_at_16 ?_
      refine lv_goto (tgt := 21) hx hb dX7_at_17 (by decide) ?_
      exact W.iret (v := (s0 (v1).toNatClampNeg)) hx hb hr (fun t ht hW => ⟨⟨(s0 (v1).toNatClampNeg), (), rfl, h, trivial⟩, hS.F ht⟩) hS.2.2 dX7_at_21
abbrev Q_X7_partShift (dC : Nat → ClassId) (dI : Nat → Nat → Nat) (cI : ClassId)   (A : Nat → Prop) (post : Int32 → Prop) : Array Value → State → Outcome → State → Prop := va_Qi (fun (r : Int32) (_ : Unit) => post r) (fun _ _ => True) A
abbrev rm_X7_partShift : Room := { frames := 0, cells := 0, slots := 0, locals := 0 }
set_option maxHeartbeats 4000000 in
set_option maxRecDepth 100000 in
theorem c_X7_partShift (l : Launch) (dC : Nat → ClassId) (dI : Nat → Nat → Nat) (cI : ClassId)  (sz : Nat) (v0 : Int32) (post : Int32 → Prop) (h : P_X7_partShift v0 post) : Met l yX7_partShift wsX7_partShift rm_X7_partShift (va_Pc [.int v0] (cpre (dC, dI) [(cI, .int)] [] sz)) (Q_X7_partShift dC dI cI (va_A [] sz) post) 0 0 (va_A [] sz) := by
  refine Met.ofW (cc := cX7_partShift) (maxL := 1) (ret := (some .int)) (by decide) rfl ?_
  intro p e s m args below meth c s₁ B hml hv
  obtain ⟨rfl, hsz, hP, hK, hD0, hN⟩ := hv
  have hx := B.exec
  have hb := B.bytes
  have hr := B.returns
  have hts := atoms_spec (ws := wsX7_partShift) B.pre
  have hown : s.vm.findClass RX7 = some m.cls := findClass_of_methodNamed B.named
  have hlocks := B.notSynchronized
  subst hsz
  have hD := hD0
  generalize hAe : va_A [] s.heap.size = A
  have hA : ∀ q : Nat, s.heap.size ≤ q → A q := fun q h => by rw [← hAe]; exact Or.inr h
  clear hAe hD0
  have hS : va_S A s.heap s.heap [] := va_S.rf
  have hP : va_P (dC, dI) vwCl [] s.heap := hP
  have hD : va_D (fun _ : Nat => True) [] := hD
  have hl := lv_entry ([.int v0]) (n := 1) (Nat.le_of_ble_eq_true rfl)
  rw [lg_entry_eq]
  generalize (lg_sl ([.int v0]) ++ List.replicate (1 - (lg_sl ([.int v0])).length) Slot.unset).toArray = ls at hl ⊢
  have hl : lv_has ls 1 [(0, .int v0)] := hl
  refine lv_bipush (v := (6 : Int32)) hx hb dX7_partShift_0 (by decide) ?_
  refine lv_iconst (v := (2 : Int32)) hx hb dX7_partShift_2 (by decide) ?_
  refine lv_iload_n hx hb dX7_partShift_3 rfl (lv_at hl 0 rfl) ?_
  refine lv_isub hx hb dX7_partShift_4 ?_
  refine lv_imul hx hb dX7_partShift_5 ?_
  exact W.iret (v := ((6 : Int32) * ((2 : Int32) - v0))) hx hb hr (fun t ht hW => ⟨⟨((6 : Int32) * ((2 : Int32) - v0)), (), rfl, h, trivial⟩, hS.F ht⟩) hS.2.2 dX7_partShift_6
abbrev Q_X7_put (dC : Nat → ClassId) (dI : Nat → Nat → Nat) (cI : ClassId) (h0 : Nat) (n0 : Nat) (s0 : (Nat → Int32)) (A : Nat → Prop) (post : (Nat → Int32) → Prop) : Array Value → State → Outcome → State → Prop := va_Qv post (fun (u : (Nat → Int32)) (t : State) => va_P (dC, dI) vwCl [(h0, .inl (cI, n0, .inl u))] t.heap ∧ va_D A [(h0, .inl (cI, n0, .inl u))]) A
abbrev rm_X7_put : Room := { frames := 0, cells := 0, slots := 0, locals := 0 }
set_option maxHeartbeats 4000000 in
set_option maxRecDepth 100000 in
theorem c_X7_put (l : Launch) (dC : Nat → ClassId) (dI : Nat → Nat → Nat) (cI : ClassId) (h0 : Nat) (sz : Nat) (n0 : Nat) (s0 : (Nat → Int32)) (v1 : Int32) (v2 : Int32) (post : (Nat → Int32) → Prop) (h : P_X7_put n0 s0 v1 v2 post) : Met l yX7_put wsX7_put rm_X7_put (va_Pc [.ref h0, .int v1, .int v2] (cpre (dC, dI) [(cI, .int)] [(h0, .inl (cI, n0, .inl s0))] sz)) (Q_X7_put dC dI cI h0 n0 s0 (va_A [(h0, .inl (cI, n0, .inl s0))] sz) post) 0 0 (va_A [(h0, .inl (cI, n0, .inl s0))] sz) := by
  refine Met.ofW (cc := cX7_put) (maxL := 3) (ret := none) (by decide) rfl ?_
  intro p e s m args below meth c s₁ B hml hv
  obtain ⟨rfl, hsz, hP, hK, hD0, hN⟩ := hv
  have hx := B.exec
  have hb := B.bytes
  have hr := B.returns
  have hts := atoms_spec (ws := wsX7_put) B.pre
  have hown : s.vm.findClass RX7 = some m.cls := findClass_of_methodNamed B.named
  have hlocks := B.notSynchronized
  subst hsz
  have hD := hD0.self (sz := s.heap.size)
  generalize hAe : va_A [(h0, .inl (cI, n0, .inl s0))] s.heap.size = A at hD ⊢
  have hA : ∀ q : Nat, s.heap.size ≤ q → A q := fun q h => by rw [← hAe]; exact Or.inr h
  clear hAe hD0
  have hS : va_S A s.heap s.heap [] := va_S.rf
  have hP : va_P (dC, dI) vwCl [(h0, .inl (cI, n0, .inl s0))] s.heap := hP
  have hD : va_D A [(h0, .inl (cI, n0, .inl s0))] := hD
  have hl := lv_entry ([.ref h0, .int v1, .int v2]) (n := 3) (Nat.le_of_ble_eq_true rfl)
  rw [lg_entry_eq]
  generalize (lg_sl ([.ref h0, .int v1, .int v2]) ++ List.replicate (3 - (lg_sl ([.ref h0, .int v1, .int v2])).length) Slot.unset).toArray = ls at hl ⊢
  have hl : lv_has ls 3 [(0, .ref h0), (1, .int v1), (2, .int v2)] := hl
  refine lv_aload_n hx hb dX7_put_0 rfl (lv_at hl 0 rfl) ?_
  refine lv_ifnull hx hb dX7_put_1 ?_
  refine lv_iload_n hx hb dX7_put_4 rfl (lv_at hl 1 rfl) ?_
  obtain ⟨ht_, hf_⟩ := h
  refine lv_if_lt (tgt := 18) hx hb dX7_put_5 (by decide) (fun c_2 => ?_) (fun c_2 => ?_)
  · have h := ht_ c_2
    exact W.vret hx hb hr (fun t ht hW => ⟨⟨s0, rfl, h, ⟨by rw [ht]; exact hP, hD⟩⟩, hS.F ht⟩) hS.2.2 dX7_put_18
  · have h := hf_ c_2
    refine lv_iload_n hx hb dX7_put_8 rfl (lv_at hl 1 rfl) ?_
    refine lv_aload_n hx hb dX7_put_9 rfl (lv_at hl 0 rfl) ?_
    refine va_alen hx hb hK hP 0 0 rfl rfl (v := (Int32.ofNat n0)) rfl dX7_put_10 ?_
    obtain ⟨ht_, hf_⟩ := h
    refine lv_icmp_ge (tgt := 18) hx hb dX7_put_11 (by decide) (fun c_3 => ?_) (fun c_3 => ?_)
    · have h := ht_ c_3
      exact W.vret hx hb hr (fun t ht hW => ⟨⟨s0, rfl, h, ⟨by rw [ht]; exact hP, hD⟩⟩, hS.F ht⟩) hS.2.2 dX7_put_18
    · have h := hf_ c_3
      refine lv_aload_n hx hb dX7_put_14 rfl (lv_at hl 0 rfl) ?_
      refine lv_iload_n hx hb dX7_put_15 rfl (lv_at hl 1 rfl) ?_
      refine lv_iload_n hx hb dX7_put_16 rfl (lv_at hl 2 rfl) ?_
      obtain ⟨hin, h⟩ := h
      refine va_iast (n := n0) hx hb hK hP hD hS 0 0 rfl rfl hin dX7_put_17 (fun H locs hP hD hS => ?_)
      have hP : va_P (dC, dI) vwCl [(h0, .inl (cI, n0, .inl (upd s0 (v1).toNatClampNeg v2)))] _ := hP
      have hD : va_D A [(h0, .inl (cI, n0, .inl (upd s0 (v1).toNatClampNeg v2)))] := hD
      exact W.vret hx hb hr (fun t ht hW => ⟨⟨(upd s0 (v1).toNatClampNeg v2), rfl, h, ⟨by rw [ht]; exact hP, hD⟩⟩, hS.F ht⟩) hS.2.2 dX7_put_18
abbrev Q_X7_rolled (dC : Nat → ClassId) (dI : Nat → Nat → Nat) (cI : ClassId)   (A : Nat → Prop) (post : Int32 → Prop) : Array Value → State → Outcome → State → Prop := va_Qi (fun (r : Int32) (_ : Unit) => post r) (fun _ _ => True) A
abbrev rm_X7_rolled : Room := { frames := 0, cells := 0, slots := 0, locals := 0 }
set_option maxHeartbeats 4000000 in
set_option maxRecDepth 100000 in
theorem c_X7_rolled (l : Launch) (dC : Nat → ClassId) (dI : Nat → Nat → Nat) (cI : ClassId)  (sz : Nat) (v0 : Int32) (v1 : Int32) (post : Int32 → Prop) (h : P_X7_rolled v0 v1 post) : Met l yX7_rolled wsX7_rolled rm_X7_rolled (va_Pc [.int v0, .int v1] (cpre (dC, dI) [(cI, .int)] [] sz)) (Q_X7_rolled dC dI cI (va_A [] sz) post) 0 0 (va_A [] sz) := by
  refine Met.ofW (cc := cX7_rolled) (maxL := 3) (ret := (some .int)) (by decide) rfl ?_
  intro p e s m args below meth c s₁ B hml hv
  obtain ⟨rfl, hsz, hP, hK, hD0, hN⟩ := hv
  have hx := B.exec
  have hb := B.bytes
  have hr := B.returns
  have hts := atoms_spec (ws := wsX7_rolled) B.pre
  have hown : s.vm.findClass RX7 = some m.cls := findClass_of_methodNamed B.named
  have hlocks := B.notSynchronized
  subst hsz
  have hD := hD0
  generalize hAe : va_A [] s.heap.size = A
  have hA : ∀ q : Nat, s.heap.size ≤ q → A q := fun q h => by rw [← hAe]; exact Or.inr h
  clear hAe hD0
  have hS : va_S A s.heap s.heap [] := va_S.rf
  have hP : va_P (dC, dI) vwCl [] s.heap := hP
  have hD : va_D (fun _ : Nat => True) [] := hD
  have hl := lv_entry ([.int v0, .int v1]) (n := 3) (Nat.le_of_ble_eq_true rfl)
  rw [lg_entry_eq]
  generalize (lg_sl ([.int v0, .int v1]) ++ List.replicate (3 - (lg_sl ([.int v0, .int v1])).length) Slot.unset).toArray = ls at hl ⊢
  have hl : lv_has ls 3 [(0, .int v0), (1, .int v1)] := hl
  refine lv_bipush (v := (6 : Int32)) hx hb dX7_rolled_0 (by decide) ?_
  refine lv_iload_n hx hb dX7_rolled_2 rfl (lv_at hl 1 rfl) ?_
  refine lv_imul hx hb dX7_rolled_3 ?_
  refine lv_istore_n (lv' := [(2, .int ((6 : Int32) * v1)), (0, .int v0), (1, .int v1)]) hx hb dX7_rolled_4 rfl hl (by decide) rfl (fun ls hl => ?_)
  refine lv_iload_n hx hb dX7_rolled_5 rfl (lv_at hl 1 rfl) ?_
  refine lv_iload_n hx hb dX7_rolled_6 rfl (lv_at hl 0 rfl) ?_
  refine lv_ishl hx hb dX7_rolled_7 ?_
  refine lv_iload_n hx hb dX7_rolled_8 rfl (lv_at hl 1 rfl) ?_
  refine lv_bipush (v := (18 : Int32)) hx hb dX7_rolled_9 (by decide) ?_
  refine lv_iload_n hx hb dX7_rolled_11 rfl (lv_at hl 0 rfl) ?_
  refine lv_isub hx hb dX7_rolled_12 ?_
  refine lv_ishr hx hb dX7_rolled_13 ?_
  refine lv_ior hx hb dX7_rolled_14 ?_
  refine lv_ldcw (v := (262143 : Int32)) hx hb hown (hts (.constant RX7 258 (262143 : Int32)) (by decide +kernel)) dX7_rolled_15 ?_
  refine lv_iand hx hb dX7_rolled_18 ?_
  exact W.iret (v := (((v0 <<< (((6 : Int32) * v1) &&& 31)) ||| (v0 >>> (((18 : Int32) - ((6 : Int32) * v1)) &&& 31))) &&& (262143 : Int32))) hx hb hr (fun t ht hW => ⟨⟨(((v0 <<< (((6 : Int32) * v1) &&& 31)) ||| (v0 >>> (((18 : Int32) - ((6 : Int32) * v1)) &&& 31))) &&& (262143 : Int32)), (), rfl, h, trivial⟩, hS.F ht⟩) hS.2.2 dX7_rolled_19
abbrev Q_X7_isOrder (dC : Nat → ClassId) (dI : Nat → Nat → Nat) (cI : ClassId)   (A : Nat → Prop) (post : Int32 → Prop) : Array Value → State → Outcome → State → Prop := va_Qi (fun (r : Int32) (_ : Unit) => post r) (fun _ _ => True) A
abbrev rm_X7_isOrder : Room := { frames := 0, cells := 0, slots := 0, locals := 0 }
set_option maxHeartbeats 4000000 in
set_option maxRecDepth 100000 in
theorem c_X7_isOrder (l : Launch) (dC : Nat → ClassId) (dI : Nat → Nat → Nat) (cI : ClassId)  (sz : Nat) (v0 : Int32) (post : Int32 → Prop) (h : P_X7_isOrder v0 post) : Met l yX7_isOrder wsX7_isOrder rm_X7_isOrder (va_Pc [.int v0] (cpre (dC, dI) [(cI, .int)] [] sz)) (Q_X7_isOrder dC dI cI (va_A [] sz) post) 0 0 (va_A [] sz) := by
  refine Met.ofW (cc := cX7_isOrder) (maxL := 1) (ret := (some .boolean)) (by decide) rfl ?_
  intro p e s m args below meth c s₁ B hml hv
  obtain ⟨rfl, hsz, hP, hK, hD0, hN⟩ := hv
  have hx := B.exec
  have hb := B.bytes
  have hr := B.returns
  have hts := atoms_spec (ws := wsX7_isOrder) B.pre
  have hown : s.vm.findClass RX7 = some m.cls := findClass_of_methodNamed B.named
  have hlocks := B.notSynchronized
  subst hsz
  have hD := hD0
  generalize hAe : va_A [] s.heap.size = A
  have hA : ∀ q : Nat, s.heap.size ≤ q → A q := fun q h => by rw [← hAe]; exact Or.inr h
  clear hAe hD0
  have hS : va_S A s.heap s.heap [] := va_S.rf
  have hP : va_P (dC, dI) vwCl [] s.heap := hP
  have hD : va_D (fun _ : Nat => True) [] := hD
  have hl := lv_entry ([.int v0]) (n := 1) (Nat.le_of_ble_eq_true rfl)
  rw [lg_entry_eq]
  generalize (lg_sl ([.int v0]) ++ List.replicate (1 - (lg_sl ([.int v0])).length) Slot.unset).toArray = ls at hl ⊢
  have hl : lv_has ls 1 [(0, .int v0)] := hl
  refine lv_iload_n hx hb dX7_isOrder_0 rfl (lv_at hl 0 rfl) ?_
  obtain ⟨ht_, hf_⟩ := h
  refine lv_if_lt (tgt := 13) hx hb dX7_isOrder_1 (by decide) (fun c_1 => ?_) (fun c_1 => ?_)
  · have h := ht_ c_1
    refine lv_iconst (v := (0 : Int32)) hx hb dX7_isOrder_13 (by decide) ?_
    exact W.zret (v := (0 : Int32)) hx hb hr (by decide +kernel) (fun t ht hW => ⟨⟨(0 : Int32), (), rfl, h, trivial⟩, hS.F ht⟩) hS.2.2 dX7_isOrder_14
  · have h := hf_ c_1
    refine lv_iload_n hx hb dX7_isOrder_4 rfl (lv_at hl 0 rfl) ?_
    refine lv_iconst (v := (3 : Int32)) hx hb dX7_isOrder_5 (by decide) ?_
    obtain ⟨ht_, hf_⟩ := h
    refine lv_icmp_ge (tgt := 13) hx hb dX7_isOrder_6 (by decide) (fun c_2 => ?_) (fun c_2 => ?_)
    · have h := ht_ c_2
      refine lv_iconst (v := (0 : Int32)) hx hb dX7_isOrder_13 (by decide) ?_
      exact W.zret (v := (0 : Int32)) hx hb hr (by decide +kernel) (fun t ht hW => ⟨⟨(0 : Int32), (), rfl, h, trivial⟩, hS.F ht⟩) hS.2.2 dX7_isOrder_14
    · have h := hf_ c_2
      refine lv_iconst (v := (1 : Int32)) hx hb dX7_isOrder_9 (by decide) ?_
      refine lv_goto (tgt := 14) hx hb dX7_isOrder_10 (by decide) ?_
      exact W.zret (v := (1 : Int32)) hx hb hr (by decide +kernel) (fun t ht hW => ⟨⟨(1 : Int32), (), rfl, h, trivial⟩, hS.F ht⟩) hS.2.2 dX7_isOrder_14
abbrev Q_X7_rolledBack (dC : Nat → ClassId) (dI : Nat → Nat → Nat) (cI : ClassId)   (A : Nat → Prop) (post : Int32 → Prop) : Array Value → State → Outcome → State → Prop := va_Qi (fun (r : Int32) (_ : Unit) => post r) (fun _ _ => True) A
abbrev rm_X7_rolledBack : Room := { frames := 0, cells := 0, slots := 0, locals := 0 }
set_option maxHeartbeats 4000000 in
set_option maxRecDepth 100000 in
theorem c_X7_rolledBack (l : Launch) (dC : Nat → ClassId) (dI : Nat → Nat → Nat) (cI : ClassId)  (sz : Nat) (v0 : Int32) (v1 : Int32) (post : Int32 → Prop) (h : P_X7_rolledBack v0 v1 post) : Met l yX7_rolledBack wsX7_rolledBack rm_X7_rolledBack (va_Pc [.int v0, .int v1] (cpre (dC, dI) [(cI, .int)] [] sz)) (Q_X7_rolledBack dC dI cI (va_A [] sz) post) 0 0 (va_A [] sz) := by
  refine Met.ofW (cc := cX7_rolledBack) (maxL := 3) (ret := (some .int)) (by decide) rfl ?_
  intro p e s m args below meth c s₁ B hml hv
  obtain ⟨rfl, hsz, hP, hK, hD0, hN⟩ := hv
  have hx := B.exec
  have hb := B.bytes
  have hr := B.returns
  have hts := atoms_spec (ws := wsX7_rolledBack) B.pre
  have hown : s.vm.findClass RX7 = some m.cls := findClass_of_methodNamed B.named
  have hlocks := B.notSynchronized
  subst hsz
  have hD := hD0
  generalize hAe : va_A [] s.heap.size = A
  have hA : ∀ q : Nat, s.heap.size ≤ q → A q := fun q h => by rw [← hAe]; exact Or.inr h
  clear hAe hD0
  have hS : va_S A s.heap s.heap [] := va_S.rf
  have hP : va_P (dC, dI) vwCl [] s.heap := hP
  have hD : va_D (fun _ : Nat => True) [] := hD
  have hl := lv_entry ([.int v0, .int v1]) (n := 3) (Nat.le_of_ble_eq_true rfl)
  rw [lg_entry_eq]
  generalize (lg_sl ([.int v0, .int v1]) ++ List.replicate (3 - (lg_sl ([.int v0, .int v1])).length) Slot.unset).toArray = ls at hl ⊢
  have hl : lv_has ls 3 [(0, .int v0), (1, .int v1)] := hl
  refine lv_bipush (v := (6 : Int32)) hx hb dX7_rolledBack_0 (by decide) ?_
  refine lv_iload_n hx hb dX7_rolledBack_2 rfl (lv_at hl 1 rfl) ?_
  refine lv_imul hx hb dX7_rolledBack_3 ?_
  refine lv_istore_n (lv' := [(2, .int ((6 : Int32) * v1)), (0, .int v0), (1, .int v1)]) hx hb dX7_rolledBack_4 rfl hl (by decide) rfl (fun ls hl => ?_)
  refine lv_iload_n hx hb dX7_rolledBack_5 rfl (lv_at hl 1 rfl) ?_
  refine lv_iload_n hx hb dX7_rolledBack_6 rfl (lv_at hl 0 rfl) ?_
  refine lv_ishr hx hb dX7_rolledBack_7 ?_
  refine lv_iload_n hx hb dX7_rolledBack_8 rfl (lv_at hl 1 rfl) ?_
  refine lv_bipush (v := (18 : Int32)) hx hb dX7_rolledBack_9 (by decide) ?_
  refine lv_iload_n hx hb dX7_rolledBack_11 rfl (lv_at hl 0 rfl) ?_
  refine lv_isub hx hb dX7_rolledBack_12 ?_
  refine lv_ishl hx hb dX7_rolledBack_13 ?_
  refine lv_ior hx hb dX7_rolledBack_14 ?_
  refine lv_ldcw (v := (262143 : Int32)) hx hb hown (hts (.constant RX7 258 (262143 : Int32)) (by decide +kernel)) dX7_rolledBack_15 ?_
  refine lv_iand hx hb dX7_rolledBack_18 ?_
  exact W.iret (v := (((v0 >>> (((6 : Int32) * v1) &&& 31)) ||| (v0 <<< (((18 : Int32) - ((6 : Int32) * v1)) &&& 31))) &&& (262143 : Int32))) hx hb hr (fun t ht hW => ⟨⟨(((v0 >>> (((6 : Int32) * v1) &&& 31)) ||| (v0 <<< (((18 : Int32) - ((6 : Int32) * v1)) &&& 31))) &&& (262143 : Int32)), (), rfl, h, trivial⟩, hS.F ht⟩) hS.2.2 dX7_rolledBack_19
abbrev Q_X7_partOf (dC : Nat → ClassId) (dI : Nat → Nat → Nat) (cI : ClassId)   (A : Nat → Prop) (post : Int32 → Prop) : Array Value → State → Outcome → State → Prop := va_Qi (fun (r : Int32) (_ : Unit) => post r) (fun _ _ => True) A
abbrev rm_X7_partOf : Room := { frames := 1, cells := 0, slots := 0, locals := 20 }
set_option maxHeartbeats 4000000 in
set_option maxRecDepth 100000 in
theorem c_X7_partOf (l : Launch) (dC : Nat → ClassId) (dI : Nat → Nat → Nat) (cI : ClassId)  (sz : Nat) (v0 : Int32) (v1 : Int32) (post : Int32 → Prop) (h : P_X7_partOf v0 v1 post) : Met l yX7_partOf wsX7_partOf rm_X7_partOf (va_Pc [.int v0, .int v1] (cpre (dC, dI) [(cI, .int)] [] sz)) (Q_X7_partOf dC dI cI (va_A [] sz) post) 0 0 (va_A [] sz) := by
  refine Met.ofW (cc := cX7_partOf) (maxL := 2) (ret := (some .int)) (by decide) rfl ?_
  intro p e s m args below meth c s₁ B hml hv
  obtain ⟨rfl, hsz, hP, hK, hD0, hN⟩ := hv
  have hx := B.exec
  have hb := B.bytes
  have hr := B.returns
  have hts := atoms_spec (ws := wsX7_partOf) B.pre
  have hown : s.vm.findClass RX7 = some m.cls := findClass_of_methodNamed B.named
  have hlocks := B.notSynchronized
  subst hsz
  have hD := hD0
  generalize hAe : va_A [] s.heap.size = A
  have hA : ∀ q : Nat, s.heap.size ≤ q → A q := fun q h => by rw [← hAe]; exact Or.inr h
  clear hAe hD0
  have hS : va_S A s.heap s.heap [] := va_S.rf
  have hP : va_P (dC, dI) vwCl [] s.heap := hP
  have hD : va_D (fun _ : Nat => True) [] := hD
  have hl := lv_entry ([.int v0, .int v1]) (n := 2) (Nat.le_of_ble_eq_true rfl)
  rw [lg_entry_eq]
  generalize (lg_sl ([.int v0, .int v1]) ++ List.replicate (2 - (lg_sl ([.int v0, .int v1])).length) Slot.unset).toArray = ls at hl ⊢
  have hl : lv_has ls 2 [(0, .int v0), (1, .int v1)] := hl
  refine lv_iload_n hx hb dX7_partOf_0 rfl (lv_at hl 0 rfl) ?_
  refine lv_iload_n hx hb dX7_partOf_1 rfl (lv_at hl 1 rfl) ?_
  have hPc := hP.sub (ws' := []) [] rfl
  have hDc := hD.sub (ws' := []) [] (by decide) rfl
  have hFc := fr0 hA hS
  refine va_calli (va_runS (As := [.int v1]) (rest := [.int v0]) ⟨hx, hb, hml, hown, hts⟩ (c_X7_partShift l dC dI cI  _ v1 _ h) (va_cwS 1 hts gX7_partOf_X7_partShift rfl rfl rfl (by decide +kernel) ⟨Nat.le_of_ble_eq_true rfl, Nat.le_of_ble_eq_true rfl⟩) (pb_S hPc hK hDc hN) rfl rfl hl.1 rfl (lv_room (Nat.le_of_ble_eq_true rfl)) dX7_partOf_2 ⟨Nat.zero_le _, Nat.zero_le _⟩) hS (fun q _ h => hFc q h) hFc (fun r_2 u_1 t H locs ht hvm h hB hz1 hk1 hS => ?_)
  have hP := vaPk hP hk1
  refine lv_ishr hx hb dX7_partOf_5 ?_
  refine lv_bipush (v := (63 : Int32)) hx hb dX7_partOf_6 (by decide) ?_
  refine lv_iand hx hb dX7_partOf_8 ?_
  exact W.iret (v := ((v0 >>> (r_2 &&& 31)) &&& (63 : Int32))) hx hb hr (fun t ht hW => ⟨⟨((v0 >>> (r_2 &&& 31)) &&& (63 : Int32)), (), rfl, h, trivial⟩, hS.F ht⟩) hS.2.2 dX7_partOf_9
abbrev Q_X7_isTermOrAny (dC : Nat → ClassId) (dI : Nat → Nat → Nat) (cI : ClassId)   (A : Nat → Prop) (post : Int32 → Prop) : Array Value → State → Outcome → State → Prop := va_Qi (fun (r : Int32) (_ : Unit) => post r) (fun _ _ => True) A
abbrev rm_X7_isTermOrAny : Room := { frames := 0, cells := 0, slots := 0, locals := 0 }
set_option maxHeartbeats 4000000 in
set_option maxRecDepth 100000 in
theorem c_X7_isTermOrAny (l : Launch) (dC : Nat → ClassId) (dI : Nat → Nat → Nat) (cI : ClassId)  (sz : Nat) (v0 : Int32) (post : Int32 → Prop) (h : P_X7_isTermOrAny v0 post) : Met l yX7_isTermOrAny wsX7_isTermOrAny rm_X7_isTermOrAny (va_Pc [.int v0] (cpre (dC, dI) [(cI, .int)] [] sz)) (Q_X7_isTermOrAny dC dI cI (va_A [] sz) post) 0 0 (va_A [] sz) := by
  refine Met.ofW (cc := cX7_isTermOrAny) (maxL := 1) (ret := (some .boolean)) (by decide) rfl ?_
  intro p e s m args below meth c s₁ B hml hv
  obtain ⟨rfl, hsz, hP, hK, hD0, hN⟩ := hv
  have hx := B.exec
  have hb := B.bytes
  have hr := B.returns
  have hts := atoms_spec (ws := wsX7_isTermOrAny) B.pre
  have hown : s.vm.findClass RX7 = some m.cls := findClass_of_methodNamed B.named
  have hlocks := B.notSynchronized
  subst hsz
  have hD := hD0
  generalize hAe : va_A [] s.heap.size = A
  have hA : ∀ q : Nat, s.heap.size ≤ q → A q := fun q h => by rw [← hAe]; exact Or.inr h
  clear hAe hD0
  have hS : va_S A s.heap s.heap [] := va_S.rf
  have hP : va_P (dC, dI) vwCl [] s.heap := hP
  have hD : va_D (fun _ : Nat => True) [] := hD
  have hl := lv_entry ([.int v0]) (n := 1) (Nat.le_of_ble_eq_true rfl)
  rw [lg_entry_eq]
  generalize (lg_sl ([.int v0]) ++ List.replicate (1 - (lg_sl ([.int v0])).length) Slot.unset).toArray = ls at hl ⊢
  have hl : lv_has ls 1 [(0, .int v0)] := hl
  refine lv_iload_n hx hb dX7_isTermOrAny_0 rfl (lv_at hl 0 rfl) ?_
  refine lv_iconst (v := (-1 : Int32)) hx hb dX7_isTermOrAny_1 (by decide) ?_
  obtain ⟨ht_, hf_⟩ := h
  refine lv_icmp_lt (tgt := 15) hx hb dX7_isTermOrAny_2 (by decide) (fun c_1 => ?_) (fun c_1 => ?_)
  · have h := ht_ c_1
    refine lv_iconst (v := (0 : Int32)) hx hb dX7_isTermOrAny_15 (by decide) ?_
    exact W.zret (v := (0 : Int32)) hx hb hr (by decide +kernel) (fun t ht hW => ⟨⟨(0 : Int32), (), rfl, h, trivial⟩, hS.F ht⟩) hS.2.2 dX7_isTermOrAny_16
  · have h := hf_ c_1
    refine lv_iload_n hx hb dX7_isTermOrAny_5 rfl (lv_at hl 0 rfl) ?_
    refine lv_bipush (v := (100 : Int32)) hx hb dX7_isTermOrAny_6 (by decide) ?_
    obtain ⟨ht_, hf_⟩ := h
    refine lv_icmp_ge (tgt := 15) hx hb dX7_isTermOrAny_8 (by decide) (fun c_2 => ?_) (fun c_2 => ?_)
    · have h := ht_ c_2
      refine lv_iconst (v := (0 : Int32)) hx hb dX7_isTermOrAny_15 (by decide) ?_
      exact W.zret (v := (0 : Int32)) hx hb hr (by decide +kernel) (fun t ht hW => ⟨⟨(0 : Int32), (), rfl, h, trivial⟩, hS.F ht⟩) hS.2.2 dX7_isTermOrAny_16
    · have h := hf_ c_2
      refine lv_iconst (v := (1 : Int32)) hx hb dX7_isTermOrAny_11 (by decide) ?_
      refine lv_goto (tgt := 16) hx hb dX7_isTermOrAny_12 (by decide) ?_
      exact W.zret (v := (1 : Int32)) hx hb hr (by decide +kernel) (fun t ht hW => ⟨⟨(1 : Int32), (), rfl, h, trivial⟩, hS.F ht⟩) hS.2.2 dX7_isTermOrAny_16
abbrev Q_X7_maskFor (dC : Nat → ClassId) (dI : Nat → Nat → Nat) (cI : ClassId)   (A : Nat → Prop) (post : Int32 → Prop) : Array Value → State → Outcome → State → Prop := va_Qi (fun (r : Int32) (_ : Unit) => post r) (fun _ _ => True) A
abbrev rm_X7_maskFor : Room := { frames := 1, cells := 0, slots := 0, locals := 20 }
set_option maxHeartbeats 4000000 in
set_option maxRecDepth 100000 in
theorem c_X7_maskFor (l : Launch) (dC : Nat → ClassId) (dI : Nat → Nat → Nat) (cI : ClassId)  (sz : Nat) (v0 : Int32) (v1 : Int32) (v2 : Int32) (post : Int32 → Prop) (h : P_X7_maskFor v0 v1 v2 post) : Met l yX7_maskFor wsX7_maskFor rm_X7_maskFor (va_Pc [.int v0, .int v1, .int v2] (cpre (dC, dI) [(cI, .int)] [] sz)) (Q_X7_maskFor dC dI cI (va_A [] sz) post) 0 0 (va_A [] sz) := by
  refine Met.ofW (cc := cX7_maskFor) (maxL := 3) (ret := (some .int)) (by decide) rfl ?_
  intro p e s m args below meth c s₁ B hml hv
  obtain ⟨rfl, hsz, hP, hK, hD0, hN⟩ := hv
  have hx := B.exec
  have hb := B.bytes
  have hr := B.returns
  have hts := atoms_spec (ws := wsX7_maskFor) B.pre
  have hown : s.vm.findClass RX7 = some m.cls := findClass_of_methodNamed B.named
  have hlocks := B.notSynchronized
  subst hsz
  have hD := hD0
  generalize hAe : va_A [] s.heap.size = A
  have hA : ∀ q : Nat, s.heap.size ≤ q → A q := fun q h => by rw [← hAe]; exact Or.inr h
  clear hAe hD0
  have hS : va_S A s.heap s.heap [] := va_S.rf
  have hP : va_P (dC, dI) vwCl [] s.heap := hP
  have hD : va_D (fun _ : Nat => True) [] := hD
  have hl := lv_entry ([.int v0, .int v1, .int v2]) (n := 3) (Nat.le_of_ble_eq_true rfl)
  rw [lg_entry_eq]
  generalize (lg_sl ([.int v0, .int v1, .int v2]) ++ List.replicate (3 - (lg_sl ([.int v0, .int v1, .int v2])).length) Slot.unset).toArray = ls at hl ⊢
  have hl : lv_has ls 3 [(0, .int v0), (1, .int v1), (2, .int v2)] := hl
  have lab_30 : ∀ (x0_1 : Int32) (x1_2 : Int32) (h : P_X7_maskFor_j30 v2 x0_1 x1_2 post) (H : Heap) (locs : List Loc) (hP : va_P (dC, dI) vwCl [] H) (hD : va_D (fun _ : Nat => True) []) (hS : va_S A s.heap H locs) (ls : Array Slot) (hl : lv_has ls 3 [(2, .int v2)]), W p l e rm_X7_maskFor s m ([.int v0, .int v1, .int v2] : List Value).toArray below meth c H locs 0 0 (MQ below (Q_X7_maskFor dC dI cI A post) (([.int v0, .int v1, .int v2] : List Value).toArray) s 0 0 A) (F0 m 30 ls [.int x0_1, .int x1_2]) := by
    intro x0_1 x1_2 h H locs hP hD hS ls hl
    refine lv_ior hx hb dX7_maskFor_30 ?_
    refine lv_iload_n hx hb dX7_maskFor_31 rfl (lv_at hl 0 rfl) ?_
    obtain ⟨ht_, hf_⟩ := h
    refine lv_if_eq (tgt := 45) hx hb dX7_maskFor_32 (by decide) (fun c_3 => ?_) (fun c_3 => ?_)
    · have h := ht_ c_3
      refine lv_iconst (v := (0 : Int32)) hx hb dX7_maskFor_45 (by decide) ?_
      refine lv_ior hx hb dX7_maskFor_46 ?_
      exact W.iret (v := ((x1_2 ||| x0_1) ||| (0 : Int32))) hx hb hr (fun t ht hW => ⟨⟨((x1_2 ||| x0_1) ||| (0 : Int32)), (), rfl, h, trivial⟩, hS.F ht⟩) hS.2.2 dX7_maskFor_47
    · have h := hf_ c_3
      refine lv_bipush (v := (63 : Int32)) hx hb dX7_maskFor_35 (by decide) ?_
      refine lv_iconst (v := (2 : Int32)) hx hb dX7_maskFor_37 (by decide) ?_
      have hPc := hP.sub (ws' := []) [] rfl
      have hDc := hD.sub (ws' := []) [] (by decide) rfl
      have hFc := fr0 hA hS
      refine va_calli (va_runS (As := [.int (2 : Int32)]) (rest := [.int (63 : Int32), .int (x1_2 ||| x0_1)]) ⟨hx, hb, hml, hown, hts⟩ (c_X7_partShift l dC dI cI  _ (2 : Int32) _ h) (va_cwS 1 hts gX7_maskFor_X7_partShift rfl rfl rfl (by decide +kernel) ⟨Nat.le_of_ble_eq_true rfl, Nat.le_of_ble_eq_true rfl⟩) (pb_S hPc hK hDc hN) rfl rfl hl.1 rfl (lv_room (Nat.le_of_ble_eq_true rfl)) dX7_maskFor_38 ⟨Nat.zero_le _, Nat.zero_le _⟩) hS (fun q _ h => hFc q h) hFc (fun r_5 u_4 t H locs ht hvm h hB hz1 hk1 hS => ?_)
      have hP := vaPk hP hk1
      refine lv_ishl hx hb dX7_maskFor_41 ?_
      refine lv_goto (tgt := 46) hx hb dX7_maskFor_42 (by decide) ?_
      refine lv_ior hx hb dX7_maskFor_46 ?_
      exact W.iret (v := ((x1_2 ||| x0_1) ||| ((63 : Int32) <<< (r_5 &&& 31)))) hx hb hr (fun t ht hW => ⟨⟨((x1_2 ||| x0_1) ||| ((63 : Int32) <<< (r_5 &&& 31))), (), rfl, h, trivial⟩, hS.F ht⟩) hS.2.2 dX7_maskFor_47
  have lab_15 : ∀ (x0_6 : Int32) (h : P_X7_maskFor_j15 v1 v2 x0_6 post) (H : Heap) (locs : List Loc) (hP : va_P (dC, dI) vwCl [] H) (hD : va_D (fun _ : Nat => True) []) (hS : va_S A s.heap H locs) (ls : Array Slot) (hl : lv_has ls 3 [(1, .int v1), (2, .int v2)]), W p l e rm_X7_maskFor s m ([.int v0, .int v1, .int v2] : List Value).toArray below meth c H locs 0 0 (MQ below (Q_X7_maskFor dC dI cI A post) (([.int v0, .int v1, .int v2] : List Value).toArray) s 0 0 A) (F0 m 15 ls [.int x0_6]) := by
    intro x0_6 h H locs hP hD hS ls hl
    refine lv_iload_n hx hb dX7_maskFor_15 rfl (lv_at hl 0 rfl) ?_
    obtain ⟨ht_, hf_⟩ := h
    refine lv_if_eq (tgt := 29) hx hb dX7_maskFor_16 (by decide) (fun c_7 => ?_) (fun c_7 => ?_)
    · have h := ht_ c_7
      refine lv_iconst (v := (0 : Int32)) hx hb dX7_maskFor_29 (by decide) ?_
      have hl : lv_has ls 3 [(2, .int v2)] := lv_sub hl [1] rfl
      exact lab_30 (0 : Int32) x0_6 h _ _ hP hD hS _ hl
    · have h := hf_ c_7
      refine lv_bipush (v := (63 : Int32)) hx hb dX7_maskFor_19 (by decide) ?_
      refine lv_iconst (v := (1 : Int32)) hx hb dX7_maskFor_21 (by decide) ?_
      have hPc := hP.sub (ws' := []) [] rfl
      have hDc := hD.sub (ws' := []) [] (by decide) rfl
      have hFc := fr0 hA hS
      refine va_calli (va_runS (As := [.int (1 : Int32)]) (rest := [.int (63 : Int32), .int x0_6]) ⟨hx, hb, hml, hown, hts⟩ (c_X7_partShift l dC dI cI  _ (1 : Int32) _ h) (va_cwS 1 hts gX7_maskFor_X7_partShift rfl rfl rfl (by decide +kernel) ⟨Nat.le_of_ble_eq_true rfl, Nat.le_of_ble_eq_true rfl⟩) (pb_S hPc hK hDc hN) rfl rfl hl.1 rfl (lv_room (Nat.le_of_ble_eq_true rfl)) dX7_maskFor_22 ⟨Nat.zero_le _, Nat.zero_le _⟩) hS (fun q _ h => hFc q h) hFc (fun r_9 u_8 t H locs ht hvm h hB hz1 hk1 hS => ?_)
      have hP := vaPk hP hk1
      refine lv_ishl hx hb dX7_maskFor_25 ?_
      refine lv_goto (tgt := 30) hx hb dX7_maskFor_26 (by decide) ?_
      have hl : lv_has ls 3 [(2, .int v2)] := lv_sub hl [1] rfl
      exact lab_30 ((63 : Int32) <<< (r_9 &&& 31)) x0_6 h _ _ hP hD hS _ hl
  refine lv_iload_n hx hb dX7_maskFor_0 rfl (lv_at hl 0 rfl) ?_
  obtain ⟨ht_, hf_⟩ := h
  refine lv_if_eq (tgt := 14) hx hb dX7_maskFor_1 (by decide) (fun c_10 => ?_) (fun c_10 => ?_)
  · have h := ht_ c_10
    refine lv_iconst (v := (0 : Int32)) hx hb dX7_maskFor_14 (by decide) ?_
    have hl : lv_has ls 3 [(1, .int v1), (2, .int v2)] := lv_sub hl [1, 2] rfl
    exact lab_15 (0 : Int32) h _ _ hP hD hS _ hl
  · have h := hf_ c_10
    refine lv_bipush (v := (63 : Int32)) hx hb dX7_maskFor_4 (by decide) ?_
    refine lv_iconst (v := (0 : Int32)) hx hb dX7_maskFor_6 (by decide) ?_
    have hPc := hP.sub (ws' := []) [] rfl
    have hDc := hD.sub (ws' := []) [] (by decide) rfl
    have hFc := fr0 hA hS
    refine va_calli (va_runS (As := [.int (0 : Int32)]) (rest := [.int (63 : Int32)]) ⟨hx, hb, hml, hown, hts⟩ (c_X7_partShift l dC dI cI  _ (0 : Int32) _ h) (va_cwS 1 hts gX7_maskFor_X7_partShift rfl rfl rfl (by decide +kernel) ⟨Nat.le_of_ble_eq_true rfl, Nat.le_of_ble_eq_true rfl⟩) (pb_S hPc hK hDc hN) rfl rfl hl.1 rfl (lv_room (Nat.le_of_ble_eq_true rfl)) dX7_maskFor_7 ⟨Nat.zero_le _, Nat.zero_le _⟩) hS (fun q _ h => hFc q h) hFc (fun r_12 u_11 t H locs ht hvm h hB hz1 hk1 hS => ?_)
    have hP := vaPk hP hk1
    refine lv_ishl hx hb dX7_maskFor_10 ?_
    refine lv_goto (tgt := 15) hx hb dX7_maskFor_11 (by decide) ?_
    have hl : lv_has ls 3 [(1, .int v1), (2, .int v2)] := lv_sub hl [1, 2] rfl
    exact lab_15 ((63 : Int32) <<< (r_12 &&& 31)) h _ _ hP hD hS _ hl
abbrev Q_X7_orderOf (dC : Nat → ClassId) (dI : Nat → Nat → Nat) (cI : ClassId)   (A : Nat → Prop) (post : Int32 → Prop) : Array Value → State → Outcome → State → Prop := va_Qi (fun (r : Int32) (_ : Unit) => post r) (fun _ _ => True) A
abbrev rm_X7_orderOf : Room := { frames := 2, cells := 0, slots := 0, locals := 41 }
set_option maxHeartbeats 4000000 in
set_option maxRecDepth 100000 in
theorem c_X7_orderOf (l : Launch) (dC : Nat → ClassId) (dI : Nat → Nat → Nat) (cI : ClassId)  (sz : Nat) (v0 : Int32) (post : Int32 → Prop) (h : P_X7_orderOf v0 post) : Met l yX7_orderOf wsX7_orderOf rm_X7_orderOf (va_Pc [.int v0] (cpre (dC, dI) [(cI, .int)] [] sz)) (Q_X7_orderOf dC dI cI (va_A [] sz) post) 0 0 (va_A [] sz) := by
  refine Met.ofW (cc := cX7_orderOf) (maxL := 4) (ret := (some .int)) (by decide) rfl ?_
  intro p e s m args below meth c s₁ B hml hv
  obtain ⟨rfl, hsz, hP, hK, hD0, hN⟩ := hv
  have hx := B.exec
  have hb := B.bytes
  have hr := B.returns
  have hts := atoms_spec (ws := wsX7_orderOf) B.pre
  have hown : s.vm.findClass RX7 = some m.cls := findClass_of_methodNamed B.named
  have hlocks := B.notSynchronized
  subst hsz
  have hD := hD0
  generalize hAe : va_A [] s.heap.size = A
  have hA : ∀ q : Nat, s.heap.size ≤ q → A q := fun q h => by rw [← hAe]; exact Or.inr h
  clear hAe hD0
  have hS : va_S A s.heap s.heap [] := va_S.rf
  have hP : va_P (dC, dI) vwCl [] s.heap := hP
  have hD : va_D (fun _ : Nat => True) [] := hD
  have hl := lv_entry ([.int v0]) (n := 4) (Nat.le_of_ble_eq_true rfl)
  rw [lg_entry_eq]
  generalize (lg_sl ([.int v0]) ++ List.replicate (4 - (lg_sl ([.int v0])).length) Slot.unset).toArray = ls at hl ⊢
  have hl : lv_has ls 4 [(0, .int v0)] := hl
  have lab_52 : ∀ (v1_1 : Int32) (v2_2 : Int32) (h : P_X7_orderOf_j52 v1_1 v2_2 post) (H : Heap) (locs : List Loc) (hP : va_P (dC, dI) vwCl [] H) (hD : va_D (fun _ : Nat => True) []) (hS : va_S A s.heap H locs) (ls : Array Slot) (hl : lv_has ls 4 [(1, .int v1_1), (2, .int v2_2)]), W p l e rm_X7_orderOf s m ([.int v0] : List Value).toArray below meth c H locs 0 0 (MQ below (Q_X7_orderOf dC dI cI A post) (([.int v0] : List Value).toArray) s 0 0 A) (F0 m 52 ls []) := by
    intro v1_1 v2_2 h H locs hP hD hS ls hl
    refine lv_iload_n hx hb dX7_orderOf_52 rfl (lv_at hl 1 rfl) ?_
    obtain ⟨ht_, hf_⟩ := h
    refine lv_if_eq (tgt := 64) hx hb dX7_orderOf_53 (by decide) (fun c_3 => ?_) (fun c_3 => ?_)
    · have h := ht_ c_3
      refine lv_iconst (v := (0 : Int32)) hx hb dX7_orderOf_64 (by decide) ?_
      exact W.iret (v := (0 : Int32)) hx hb hr (fun t ht hW => ⟨⟨(0 : Int32), (), rfl, h, trivial⟩, hS.F ht⟩) hS.2.2 dX7_orderOf_65
    · have h := hf_ c_3
      refine lv_iload_n hx hb dX7_orderOf_56 rfl (lv_at hl 0 rfl) ?_
      obtain ⟨ht_, hf_⟩ := h
      refine lv_if_ne (tgt := 64) hx hb dX7_orderOf_57 (by decide) (fun c_4 => ?_) (fun c_4 => ?_)
      · have h := ht_ c_4
        refine lv_iconst (v := (0 : Int32)) hx hb dX7_orderOf_64 (by decide) ?_
        exact W.iret (v := (0 : Int32)) hx hb hr (fun t ht hW => ⟨⟨(0 : Int32), (), rfl, h, trivial⟩, hS.F ht⟩) hS.2.2 dX7_orderOf_65
      · have h := hf_ c_4
        refine lv_iconst (v := (1 : Int32)) hx hb dX7_orderOf_60 (by decide) ?_
        refine lv_goto (tgt := 65) hx hb dX7_orderOf_61 (by decide) ?_
        exact W.iret (v := (1 : Int32)) hx hb hr (fun t ht hW => ⟨⟨(1 : Int32), (), rfl, h, trivial⟩, hS.F ht⟩) hS.2.2 dX7_orderOf_65
  have lab_41 : ∀ (v1_5 : Int32) (v2_6 : Int32) (x0_7 : Int32) (h : P_X7_orderOf_j41 v1_5 v2_6 x0_7 post) (H : Heap) (locs : List Loc) (hP : va_P (dC, dI) vwCl [] H) (hD : va_D (fun _ : Nat => True) []) (hS : va_S A s.heap H locs) (ls : Array Slot) (hl : lv_has ls 4 [(1, .int v1_5), (2, .int v2_6)]), W p l e rm_X7_orderOf s m ([.int v0] : List Value).toArray below meth c H locs 0 0 (MQ below (Q_X7_orderOf dC dI cI A post) (([.int v0] : List Value).toArray) s 0 0 A) (F0 m 41 ls [.int x0_7]) := by
    intro v1_5 v2_6 x0_7 h H locs hP hD hS ls hl
    refine lv_istore_n (lv' := [(3, .int x0_7), (1, .int v1_5), (2, .int v2_6)]) hx hb dX7_orderOf_41 rfl hl (by decide) rfl (fun ls hl => ?_)
    refine lv_iload_n hx hb dX7_orderOf_42 rfl (lv_at hl 0 rfl) ?_
    obtain ⟨ht_, hf_⟩ := h
    refine lv_if_eq (tgt := 52) hx hb dX7_orderOf_43 (by decide) (fun c_8 => ?_) (fun c_8 => ?_)
    · have h := ht_ c_8
      have hl : lv_has ls 4 [(1, .int v1_5), (2, .int v2_6)] := lv_sub hl [1, 2] rfl
      exact lab_52 v1_5 v2_6 h _ _ hP hD hS _ hl
    · have h := hf_ c_8
      refine lv_iload_n hx hb dX7_orderOf_46 rfl (lv_at hl 2 rfl) ?_
      obtain ⟨ht_, hf_⟩ := h
      refine lv_if_ne (tgt := 52) hx hb dX7_orderOf_47 (by decide) (fun c_9 => ?_) (fun c_9 => ?_)
      · have h := ht_ c_9
        have hl : lv_has ls 4 [(1, .int v1_5), (2, .int v2_6)] := lv_sub hl [1, 2] rfl
        exact lab_52 v1_5 v2_6 h _ _ hP hD hS _ hl
      · have h := hf_ c_9
        refine lv_iconst (v := (2 : Int32)) hx hb dX7_orderOf_50 (by decide) ?_
        exact W.iret (v := (2 : Int32)) hx hb hr (fun t ht hW => ⟨⟨(2 : Int32), (), rfl, h, trivial⟩, hS.F ht⟩) hS.2.2 dX7_orderOf_51
  have lab_27 : ∀ (v1_10 : Int32) (x0_11 : Int32) (h : P_X7_orderOf_j27 v0 v1_10 x0_11 post) (H : Heap) (locs : List Loc) (hP : va_P (dC, dI) vwCl [] H) (hD : va_D (fun _ : Nat => True) []) (hS : va_S A s.heap H locs) (ls : Array Slot) (hl : lv_has ls 4 [(0, .int v0), (1, .int v1_10)]), W p l e rm_X7_orderOf s m ([.int v0] : List Value).toArray below meth c H locs 0 0 (MQ below (Q_X7_orderOf dC dI cI A post) (([.int v0] : List Value).toArray) s 0 0 A) (F0 m 27 ls [.int x0_11]) := by
    intro v1_10 x0_11 h H locs hP hD hS ls hl
    refine lv_istore_n (lv' := [(2, .int x0_11), (0, .int v0), (1, .int v1_10)]) hx hb dX7_orderOf_27 rfl hl (by decide) rfl (fun ls hl => ?_)
    refine lv_iload_n hx hb dX7_orderOf_28 rfl (lv_at hl 1 rfl) ?_
    refine lv_iconst (v := (2 : Int32)) hx hb dX7_orderOf_29 (by decide) ?_
    have hPc := hP.sub (ws' := []) [] rfl
    have hDc := hD.sub (ws' := []) [] (by decide) rfl
    have hFc := fr0 hA hS
    refine va_calli (va_runS (As := [.int v0, .int (2 : Int32)]) (rest := []) ⟨hx, hb, hml, hown, hts⟩ (c_X7_partOf l dC dI cI  _ v0 (2 : Int32) _ h) (va_cwS 2 hts gX7_orderOf_X7_partOf rfl rfl rfl (by decide +kernel) ⟨Nat.le_of_ble_eq_true rfl, Nat.le_of_ble_eq_true rfl⟩) (pb_S hPc hK hDc hN) rfl rfl hl.1 rfl (lv_room (Nat.le_of_ble_eq_true rfl)) dX7_orderOf_30 ⟨Nat.zero_le _, Nat.zero_le _⟩) hS (fun q _ h => hFc q h) hFc (fun r_13 u_12 t H locs ht hvm h hB hz1 hk1 hS => ?_)
    have hP := vaPk hP hk1
    obtain ⟨ht_, hf_⟩ := h
    refine lv_if_eq (tgt := 40) hx hb dX7_orderOf_33 (by decide) (fun c_14 => ?_) (fun c_14 => ?_)
    · have h := ht_ c_14
      refine lv_iconst (v := (0 : Int32)) hx hb dX7_orderOf_40 (by decide) ?_
      have hl : lv_has ls 4 [(1, .int v1_10), (2, .int x0_11)] := lv_sub hl [2, 0] rfl
      exact lab_41 v1_10 x0_11 (0 : Int32) h _ _ hP hD hS _ hl
    · have h := hf_ c_14
      refine lv_iconst (v := (1 : Int32)) hx hb dX7_orderOf_36 (by decide) ?_
      refine lv_goto (tgt := 41) hx hb dX7_orderOf_37 (by decide) ?_
      have hl : lv_has ls 4 [(1, .int v1_10), (2, .int x0_11)] := lv_sub hl [2, 0] rfl
      exact lab_41 v1_10 x0_11 (1 : Int32) h _ _ hP hD hS _ hl
  have lab_13 : ∀ (x0_15 : Int32) (h : P_X7_orderOf_j13 v0 x0_15 post) (H : Heap) (locs : List Loc) (hP : va_P (dC, dI) vwCl [] H) (hD : va_D (fun _ : Nat => True) []) (hS : va_S A s.heap H locs) (ls : Array Slot) (hl : lv_has ls 4 [(0, .int v0)]), W p l e rm_X7_orderOf s m ([.int v0] : List Value).toArray below meth c H locs 0 0 (MQ below (Q_X7_orderOf dC dI cI A post) (([.int v0] : List Value).toArray) s 0 0 A) (F0 m 13 ls [.int x0_15]) := by
    intro x0_15 h H locs hP hD hS ls hl
    refine lv_istore_n (lv' := [(1, .int x0_15), (0, .int v0)]) hx hb dX7_orderOf_13 rfl hl (by decide) rfl (fun ls hl => ?_)
    refine lv_iload_n hx hb dX7_orderOf_14 rfl (lv_at hl 1 rfl) ?_
    refine lv_iconst (v := (1 : Int32)) hx hb dX7_orderOf_15 (by decide) ?_
    have hPc := hP.sub (ws' := []) [] rfl
    have hDc := hD.sub (ws' := []) [] (by decide) rfl
    have hFc := fr0 hA hS
    refine va_calli (va_runS (As := [.int v0, .int (1 : Int32)]) (rest := []) ⟨hx, hb, hml, hown, hts⟩ (c_X7_partOf l dC dI cI  _ v0 (1 : Int32) _ h) (va_cwS 2 hts gX7_orderOf_X7_partOf rfl rfl rfl (by decide +kernel) ⟨Nat.le_of_ble_eq_true rfl, Nat.le_of_ble_eq_true rfl⟩) (pb_S hPc hK hDc hN) rfl rfl hl.1 rfl (lv_room (Nat.le_of_ble_eq_true rfl)) dX7_orderOf_16 ⟨Nat.zero_le _, Nat.zero_le _⟩) hS (fun q _ h => hFc q h) hFc (fun r_17 u_16 t H locs ht hvm h hB hz1 hk1 hS => ?_)
    have hP := vaPk hP hk1
    obtain ⟨ht_, hf_⟩ := h
    refine lv_if_eq (tgt := 26) hx hb dX7_orderOf_19 (by decide) (fun c_18 => ?_) (fun c_18 => ?_)
    · have h := ht_ c_18
      refine lv_iconst (v := (0 : Int32)) hx hb dX7_orderOf_26 (by decide) ?_
      have hl : lv_has ls 4 [(0, .int v0), (1, .int x0_15)] := lv_sub hl [1, 0] rfl
      exact lab_27 x0_15 (0 : Int32) h _ _ hP hD hS _ hl
    · have h := hf_ c_18
      refine lv_iconst (v := (1 : Int32)) hx hb dX7_orderOf_22 (by decide) ?_
      refine lv_goto (tgt := 27) hx hb dX7_orderOf_23 (by decide) ?_
      have hl : lv_has ls 4 [(0, .int v0), (1, .int x0_15)] := lv_sub hl [1, 0] rfl
      exact lab_27 x0_15 (1 : Int32) h _ _ hP hD hS _ hl
  refine lv_iload_n hx hb dX7_orderOf_0 rfl (lv_at hl 0 rfl) ?_
  refine lv_iconst (v := (0 : Int32)) hx hb dX7_orderOf_1 (by decide) ?_
  have hPc := hP.sub (ws' := []) [] rfl
  have hDc := hD.sub (ws' := []) [] (by decide) rfl
  have hFc := fr0 hA hS
  refine va_calli (va_runS (As := [.int v0, .int (0 : Int32)]) (rest := []) ⟨hx, hb, hml, hown, hts⟩ (c_X7_partOf l dC dI cI  _ v0 (0 : Int32) _ h) (va_cwS 2 hts gX7_orderOf_X7_partOf rfl rfl rfl (by decide +kernel) ⟨Nat.le_of_ble_eq_true rfl, Nat.le_of_ble_eq_true rfl⟩) (pb_S hPc hK hDc hN) rfl rfl hl.1 rfl (lv_room (Nat.le_of_ble_eq_true rfl)) dX7_orderOf_2 ⟨Nat.zero_le _, Nat.zero_le _⟩) hS (fun q _ h => hFc q h) hFc (fun r_20 u_19 t H locs ht hvm h hB hz1 hk1 hS => ?_)
  have hP := vaPk hP hk1
  obtain ⟨ht_, hf_⟩ := h
  refine lv_if_eq (tgt := 12) hx hb dX7_orderOf_5 (by decide) (fun c_21 => ?_) (fun c_21 => ?_)
  · have h := ht_ c_21
    refine lv_iconst (v := (0 : Int32)) hx hb dX7_orderOf_12 (by decide) ?_
    exact lab_13 (0 : Int32) h _ _ hP hD hS _ hl
  · have h := hf_ c_21
    refine lv_iconst (v := (1 : Int32)) hx hb dX7_orderOf_8 (by decide) ?_
    refine lv_goto (tgt := 13) hx hb dX7_orderOf_9 (by decide) ?_
    exact lab_13 (1 : Int32) h _ _ hP hD hS _ hl
abbrev Q_X7_isTermOrVariable (dC : Nat → ClassId) (dI : Nat → Nat → Nat) (cI : ClassId)   (A : Nat → Prop) (post : Int32 → Prop) : Array Value → State → Outcome → State → Prop := va_Qi (fun (r : Int32) (_ : Unit) => post r) (fun _ _ => True) A
abbrev rm_X7_isTermOrVariable : Room := { frames := 0, cells := 0, slots := 0, locals := 0 }
set_option maxHeartbeats 4000000 in
set_option maxRecDepth 100000 in
theorem c_X7_isTermOrVariable (l : Launch) (dC : Nat → ClassId) (dI : Nat → Nat → Nat) (cI : ClassId)  (sz : Nat) (v0 : Int32) (post : Int32 → Prop) (h : P_X7_isTermOrVariable v0 post) : Met l yX7_isTermOrVariable wsX7_isTermOrVariable rm_X7_isTermOrVariable (va_Pc [.int v0] (cpre (dC, dI) [(cI, .int)] [] sz)) (Q_X7_isTermOrVariable dC dI cI (va_A [] sz) post) 0 0 (va_A [] sz) := by
  refine Met.ofW (cc := cX7_isTermOrVariable) (maxL := 1) (ret := (some .boolean)) (by decide) rfl ?_
  intro p e s m args below meth c s₁ B hml hv
  obtain ⟨rfl, hsz, hP, hK, hD0, hN⟩ := hv
  have hx := B.exec
  have hb := B.bytes
  have hr := B.returns
  have hts := atoms_spec (ws := wsX7_isTermOrVariable) B.pre
  have hown : s.vm.findClass RX7 = some m.cls := findClass_of_methodNamed B.named
  have hlocks := B.notSynchronized
  subst hsz
  have hD := hD0
  generalize hAe : va_A [] s.heap.size = A
  have hA : ∀ q : Nat, s.heap.size ≤ q → A q := fun q h => by rw [← hAe]; exact Or.inr h
  clear hAe hD0
  have hS : va_S A s.heap s.heap [] := va_S.rf
  have hP : va_P (dC, dI) vwCl [] s.heap := hP
  have hD : va_D (fun _ : Nat => True) [] := hD
  have hl := lv_entry ([.int v0]) (n := 1) (Nat.le_of_ble_eq_true rfl)
  rw [lg_entry_eq]
  generalize (lg_sl ([.int v0]) ++ List.replicate (1 - (lg_sl ([.int v0])).length) Slot.unset).toArray = ls at hl ⊢
  have hl : lv_has ls 1 [(0, .int v0)] := hl
  refine lv_iload_n hx hb dX7_isTermOrVariable_0 rfl (lv_at hl 0 rfl) ?_
  refine lv_bipush (v := (-4 : Int32)) hx hb dX7_isTermOrVariable_1 (by decide) ?_
  obtain ⟨ht_, hf_⟩ := h
  refine lv_icmp_lt (tgt := 16) hx hb dX7_isTermOrVariable_3 (by decide) (fun c_1 => ?_) (fun c_1 => ?_)
  · have h := ht_ c_1
    refine lv_iconst (v := (0 : Int32)) hx hb dX7_isTermOrVariable_16 (by decide) ?_
    exact W.zret (v := (0 : Int32)) hx hb hr (by decide +kernel) (fun t ht hW => ⟨⟨(0 : Int32), (), rfl, h, trivial⟩, hS.F ht⟩) hS.2.2 dX7_isTermOrVariable_17
  · have h := hf_ c_1
    refine lv_iload_n hx hb dX7_isTermOrVariable_6 rfl (lv_at hl 0 rfl) ?_
    refine lv_bipush (v := (100 : Int32)) hx hb dX7_isTermOrVariable_7 (by decide) ?_
    obtain ⟨ht_, hf_⟩ := h
    refine lv_icmp_ge (tgt := 16) hx hb dX7_isTermOrVariable_9 (by decide) (fun c_2 => ?_) (fun c_2 => ?_)
    · have h := ht_ c_2
      refine lv_iconst (v := (0 : Int32)) hx hb dX7_isTermOrVariable_16 (by decide) ?_
      exact W.zret (v := (0 : Int32)) hx hb hr (by decide +kernel) (fun t ht hW => ⟨⟨(0 : Int32), (), rfl, h, trivial⟩, hS.F ht⟩) hS.2.2 dX7_isTermOrVariable_17
    · have h := hf_ c_2
      refine lv_iconst (v := (1 : Int32)) hx hb dX7_isTermOrVariable_12 (by decide) ?_
      refine lv_goto (tgt := 17) hx hb dX7_isTermOrVariable_13 (by decide) ?_
      exact W.zret (v := (1 : Int32)) hx hb hr (by decide +kernel) (fun t ht hW => ⟨⟨(1 : Int32), (), rfl, h, trivial⟩, hS.F ht⟩) hS.2.2 dX7_isTermOrVariable_17
abbrev Q_X7_hasBit (dC : Nat → ClassId) (dI : Nat → Nat → Nat) (cI : ClassId)   (A : Nat → Prop) (post : Int32 → Prop) : Array Value → State → Outcome → State → Prop := va_Qi (fun (r : Int32) (_ : Unit) => post r) (fun _ _ => True) A
abbrev rm_X7_hasBit : Room := { frames := 0, cells := 0, slots := 0, locals := 0 }
set_option maxHeartbeats 4000000 in
set_option maxRecDepth 100000 in
theorem c_X7_hasBit (l : Launch) (dC : Nat → ClassId) (dI : Nat → Nat → Nat) (cI : ClassId)  (sz : Nat) (v0 : Int32) (v1 : Int32) (post : Int32 → Prop) (h : P_X7_hasBit v0 v1 post) : Met l yX7_hasBit wsX7_hasBit rm_X7_hasBit (va_Pc [.int v0, .int v1] (cpre (dC, dI) [(cI, .int)] [] sz)) (Q_X7_hasBit dC dI cI (va_A [] sz) post) 0 0 (va_A [] sz) := by
  refine Met.ofW (cc := cX7_hasBit) (maxL := 2) (ret := (some .boolean)) (by decide) rfl ?_
  intro p e s m args below meth c s₁ B hml hv
  obtain ⟨rfl, hsz, hP, hK, hD0, hN⟩ := hv
  have hx := B.exec
  have hb := B.bytes
  have hr := B.returns
  have hts := atoms_spec (ws := wsX7_hasBit) B.pre
  have hown : s.vm.findClass RX7 = some m.cls := findClass_of_methodNamed B.named
  have hlocks := B.notSynchronized
  subst hsz
  have hD := hD0
  generalize hAe : va_A [] s.heap.size = A
  have hA : ∀ q : Nat, s.heap.size ≤ q → A q := fun q h => by rw [← hAe]; exact Or.inr h
  clear hAe hD0
  have hS : va_S A s.heap s.heap [] := va_S.rf
  have hP : va_P (dC, dI) vwCl [] s.heap := hP
  have hD : va_D (fun _ : Nat => True) [] := hD
  have hl := lv_entry ([.int v0, .int v1]) (n := 2) (Nat.le_of_ble_eq_true rfl)
  rw [lg_entry_eq]
  generalize (lg_sl ([.int v0, .int v1]) ++ List.replicate (2 - (lg_sl ([.int v0, .int v1])).length) Slot.unset).toArray = ls at hl ⊢
  have hl : lv_has ls 2 [(0, .int v0), (1, .int v1)] := hl
  refine lv_iload_n hx hb dX7_hasBit_0 rfl (lv_at hl 0 rfl) ?_
  refine lv_iload_n hx hb dX7_hasBit_1 rfl (lv_at hl 1 rfl) ?_
  refine lv_ishr hx hb dX7_hasBit_2 ?_
  refine lv_iconst (v := (1 : Int32)) hx hb dX7_hasBit_3 (by decide) ?_
  refine lv_iand hx hb dX7_hasBit_4 ?_
  obtain ⟨ht_, hf_⟩ := h
  refine lv_if_eq (tgt := 12) hx hb dX7_hasBit_5 (by decide) (fun c_1 => ?_) (fun c_1 => ?_)
  · have h := ht_ c_1
    refine lv_iconst (v := (0 : Int32)) hx hb dX7_hasBit_12 (by decide) ?_
    exact W.zret (v := (0 : Int32)) hx hb hr (by decide +kernel) (fun t ht hW => ⟨⟨(0 : Int32), (), rfl, h, trivial⟩, hS.F ht⟩) hS.2.2 dX7_hasBit_13
  · have h := hf_ c_1
    refine lv_iconst (v := (1 : Int32)) hx hb dX7_hasBit_8 (by decide) ?_
    refine lv_goto (tgt := 13) hx hb dX7_hasBit_9 (by decide) ?_
    exact W.zret (v := (1 : Int32)) hx hb hr (by decide +kernel) (fun t ht hW => ⟨⟨(1 : Int32), (), rfl, h, trivial⟩, hS.F ht⟩) hS.2.2 dX7_hasBit_13
abbrev Q_X7_cellShift (dC : Nat → ClassId) (dI : Nat → Nat → Nat) (cI : ClassId)   (A : Nat → Prop) (post : Int32 → Prop) : Array Value → State → Outcome → State → Prop := va_Qi (fun (r : Int32) (_ : Unit) => post r) (fun _ _ => True) A
abbrev rm_X7_cellShift : Room := { frames := 0, cells := 0, slots := 0, locals := 0 }
set_option maxHeartbeats 4000000 in
set_option maxRecDepth 100000 in
theorem c_X7_cellShift (l : Launch) (dC : Nat → ClassId) (dI : Nat → Nat → Nat) (cI : ClassId)  (sz : Nat) (v0 : Int32) (post : Int32 → Prop) (h : P_X7_cellShift v0 post) : Met l yX7_cellShift wsX7_cellShift rm_X7_cellShift (va_Pc [.int v0] (cpre (dC, dI) [(cI, .int)] [] sz)) (Q_X7_cellShift dC dI cI (va_A [] sz) post) 0 0 (va_A [] sz) := by
  refine Met.ofW (cc := cX7_cellShift) (maxL := 1) (ret := (some .int)) (by decide) rfl ?_
  intro p e s m args below meth c s₁ B hml hv
  obtain ⟨rfl, hsz, hP, hK, hD0, hN⟩ := hv
  have hx := B.exec
  have hb := B.bytes
  have hr := B.returns
  have hts := atoms_spec (ws := wsX7_cellShift) B.pre
  have hown : s.vm.findClass RX7 = some m.cls := findClass_of_methodNamed B.named
  have hlocks := B.notSynchronized
  subst hsz
  have hD := hD0
  generalize hAe : va_A [] s.heap.size = A
  have hA : ∀ q : Nat, s.heap.size ≤ q → A q := fun q h => by rw [← hAe]; exact Or.inr h
  clear hAe hD0
  have hS : va_S A s.heap s.heap [] := va_S.rf
  have hP : va_P (dC, dI) vwCl [] s.heap := hP
  have hD : va_D (fun _ : Nat => True) [] := hD
  have hl := lv_entry ([.int v0]) (n := 1) (Nat.le_of_ble_eq_true rfl)
  rw [lg_entry_eq]
  generalize (lg_sl ([.int v0]) ++ List.replicate (1 - (lg_sl ([.int v0])).length) Slot.unset).toArray = ls at hl ⊢
  have hl : lv_has ls 1 [(0, .int v0)] := hl
  refine lv_bipush (v := (6 : Int32)) hx hb dX7_cellShift_0 (by decide) ?_
  refine lv_iconst (v := (3 : Int32)) hx hb dX7_cellShift_2 (by decide) ?_
  refine lv_iload_n hx hb dX7_cellShift_3 rfl (lv_at hl 0 rfl) ?_
  refine lv_isub hx hb dX7_cellShift_4 ?_
  refine lv_imul hx hb dX7_cellShift_5 ?_
  exact W.iret (v := ((6 : Int32) * ((3 : Int32) - v0))) hx hb hr (fun t ht hW => ⟨⟨((6 : Int32) * ((3 : Int32) - v0)), (), rfl, h, trivial⟩, hS.F ht⟩) hS.2.2 dX7_cellShift_6
abbrev Q_X7_cellOf (dC : Nat → ClassId) (dI : Nat → Nat → Nat) (cI : ClassId)   (A : Nat → Prop) (post : Int32 → Prop) : Array Value → State → Outcome → State → Prop := va_Qi (fun (r : Int32) (_ : Unit) => post r) (fun _ _ => True) A
abbrev rm_X7_cellOf : Room := { frames := 1, cells := 0, slots := 0, locals := 20 }
set_option maxHeartbeats 4000000 in
set_option maxRecDepth 100000 in
theorem c_X7_cellOf (l : Launch) (dC : Nat → ClassId) (dI : Nat → Nat → Nat) (cI : ClassId)  (sz : Nat) (v0 : Int32) (v1 : Int32) (post : Int32 → Prop) (h : P_X7_cellOf v0 v1 post) : Met l yX7_cellOf wsX7_cellOf rm_X7_cellOf (va_Pc [.int v0, .int v1] (cpre (dC, dI) [(cI, .int)] [] sz)) (Q_X7_cellOf dC dI cI (va_A [] sz) post) 0 0 (va_A [] sz) := by
  refine Met.ofW (cc := cX7_cellOf) (maxL := 2) (ret := (some .int)) (by decide) rfl ?_
  intro p e s m args below meth c s₁ B hml hv
  obtain ⟨rfl, hsz, hP, hK, hD0, hN⟩ := hv
  have hx := B.exec
  have hb := B.bytes
  have hr := B.returns
  have hts := atoms_spec (ws := wsX7_cellOf) B.pre
  have hown : s.vm.findClass RX7 = some m.cls := findClass_of_methodNamed B.named
  have hlocks := B.notSynchronized
  subst hsz
  have hD := hD0
  generalize hAe : va_A [] s.heap.size = A
  have hA : ∀ q : Nat, s.heap.size ≤ q → A q := fun q h => by rw [← hAe]; exact Or.inr h
  clear hAe hD0
  have hS : va_S A s.heap s.heap [] := va_S.rf
  have hP : va_P (dC, dI) vwCl [] s.heap := hP
  have hD : va_D (fun _ : Nat => True) [] := hD
  have hl := lv_entry ([.int v0, .int v1]) (n := 2) (Nat.le_of_ble_eq_true rfl)
  rw [lg_entry_eq]
  generalize (lg_sl ([.int v0, .int v1]) ++ List.replicate (2 - (lg_sl ([.int v0, .int v1])).length) Slot.unset).toArray = ls at hl ⊢
  have hl : lv_has ls 2 [(0, .int v0), (1, .int v1)] := hl
  refine lv_iload_n hx hb dX7_cellOf_0 rfl (lv_at hl 0 rfl) ?_
  refine lv_iload_n hx hb dX7_cellOf_1 rfl (lv_at hl 1 rfl) ?_
  have hPc := hP.sub (ws' := []) [] rfl
  have hDc := hD.sub (ws' := []) [] (by decide) rfl
  have hFc := fr0 hA hS
  refine va_calli (va_runS (As := [.int v1]) (rest := [.int v0]) ⟨hx, hb, hml, hown, hts⟩ (c_X7_cellShift l dC dI cI  _ v1 _ h) (va_cwS 1 hts gX7_cellOf_X7_cellShift rfl rfl rfl (by decide +kernel) ⟨Nat.le_of_ble_eq_true rfl, Nat.le_of_ble_eq_true rfl⟩) (pb_S hPc hK hDc hN) rfl rfl hl.1 rfl (lv_room (Nat.le_of_ble_eq_true rfl)) dX7_cellOf_2 ⟨Nat.zero_le _, Nat.zero_le _⟩) hS (fun q _ h => hFc q h) hFc (fun r_2 u_1 t H locs ht hvm h hB hz1 hk1 hS => ?_)
  have hP := vaPk hP hk1
  refine lv_ishr hx hb dX7_cellOf_5 ?_
  refine lv_bipush (v := (63 : Int32)) hx hb dX7_cellOf_6 (by decide) ?_
  refine lv_iand hx hb dX7_cellOf_8 ?_
  exact W.iret (v := ((v0 >>> (r_2 &&& 31)) &&& (63 : Int32))) hx hb hr (fun t ht hW => ⟨⟨((v0 >>> (r_2 &&& 31)) &&& (63 : Int32)), (), rfl, h, trivial⟩, hS.F ht⟩) hS.2.2 dX7_cellOf_9
abbrev Q_X7_rowMask (dC : Nat → ClassId) (dI : Nat → Nat → Nat) (cI : ClassId)   (A : Nat → Prop) (post : Int32 → Prop) : Array Value → State → Outcome → State → Prop := va_Qi (fun (r : Int32) (_ : Unit) => post r) (fun _ _ => True) A
abbrev rm_X7_rowMask : Room := { frames := 1, cells := 0, slots := 0, locals := 21 }
set_option maxHeartbeats 4000000 in
set_option maxRecDepth 100000 in
theorem c_X7_rowMask (l : Launch) (dC : Nat → ClassId) (dI : Nat → Nat → Nat) (cI : ClassId)  (sz : Nat) (v0 : Int32) (post : Int32 → Prop) (h : P_X7_rowMask v0 post) : Met l yX7_rowMask wsX7_rowMask rm_X7_rowMask (va_Pc [.int v0] (cpre (dC, dI) [(cI, .int)] [] sz)) (Q_X7_rowMask dC dI cI (va_A [] sz) post) 0 0 (va_A [] sz) := by
  refine Met.ofW (cc := cX7_rowMask) (maxL := 3) (ret := (some .int)) (by decide) rfl ?_
  intro p e s m args below meth c s₁ B hml hv
  obtain ⟨rfl, hsz, hP, hK, hD0, hN⟩ := hv
  have hx := B.exec
  have hb := B.bytes
  have hr := B.returns
  have hts := atoms_spec (ws := wsX7_rowMask) B.pre
  have hown : s.vm.findClass RX7 = some m.cls := findClass_of_methodNamed B.named
  have hlocks := B.notSynchronized
  subst hsz
  have hD := hD0
  generalize hAe : va_A [] s.heap.size = A
  have hA : ∀ q : Nat, s.heap.size ≤ q → A q := fun q h => by rw [← hAe]; exact Or.inr h
  clear hAe hD0
  have hS : va_S A s.heap s.heap [] := va_S.rf
  have hP : va_P (dC, dI) vwCl [] s.heap := hP
  have hD : va_D (fun _ : Nat => True) [] := hD
  have hl := lv_entry ([.int v0]) (n := 3) (Nat.le_of_ble_eq_true rfl)
  rw [lg_entry_eq]
  generalize (lg_sl ([.int v0]) ++ List.replicate (3 - (lg_sl ([.int v0])).length) Slot.unset).toArray = ls at hl ⊢
  have hl : lv_has ls 3 [(0, .int v0)] := hl
  refine lv_iconst (v := (0 : Int32)) hx hb dX7_rowMask_0 (by decide) ?_
  refine lv_istore_n (lv' := [(1, .int (0 : Int32)), (0, .int v0)]) hx hb dX7_rowMask_1 rfl hl (by decide) rfl (fun ls hl => ?_)
  refine lv_iconst (v := (0 : Int32)) hx hb dX7_rowMask_2 (by decide) ?_
  refine lv_istore_n (lv' := [(2, .int (0 : Int32)), (1, .int (0 : Int32)), (0, .int v0)]) hx hb dX7_rowMask_3 rfl hl (by decide) rfl (fun ls hl => ?_)
  have hl : lv_has ls 3 [(0, .int v0), (1, .int (0 : Int32)), (2, .int (0 : Int32))] := lv_sub hl [2, 1, 0] rfl
  obtain ⟨I_1, hI_1, n_1, h⟩ := h
  have loop_1 : ∀ (n_1 : Nat) (v1_2 : Int32) (v2_3 : Int32) (h : I_1 n_1 (v1_2, v2_3)) (H : Heap) (locs : List Loc) (hP : va_P (dC, dI) vwCl [] H) (hD : va_D (fun _ : Nat => True) []) (hS : va_S A s.heap H locs) (ls : Array Slot) (hl : lv_has ls 3 [(0, .int v0), (1, .int v1_2), (2, .int v2_3)]), W p l e rm_X7_rowMask s m ([.int v0] : List Value).toArray below meth c H locs 0 0 (MQ below (Q_X7_rowMask dC dI cI A post) (([.int v0] : List Value).toArray) s 0 0 A) (F0 m 4 ls []) := by
    intro n_1
    induction n_1 using Nat.strongRecOn with
    | ind n_1 ih_1 =>
      intro v1_2 v2_3 h H locs hP hD hS ls hl
      have h := hI_1 n_1 _ h
      refine lv_iload_n hx hb dX7_rowMask_4 rfl (lv_at hl 2 rfl) ?_
      refine lv_iconst (v := (4 : Int32)) hx hb dX7_rowMask_5 (by decide) ?_
      obtain ⟨ht_, hf_⟩ := h
      refine lv_icmp_ge (tgt := 33) hx hb dX7_rowMask_6 (by decide) (fun c_4 => ?_) (fun c_4 => ?_)
      · have h := ht_ c_4
        refine lv_iload_n hx hb dX7_rowMask_33 rfl (lv_at hl 1 rfl) ?_
        exact W.iret (v := v1_2) hx hb hr (fun t ht hW => ⟨⟨v1_2, (), rfl, h, trivial⟩, hS.F ht⟩) hS.2.2 dX7_rowMask_34
      · have h := hf_ c_4
        refine lv_iload_n hx hb dX7_rowMask_9 rfl (lv_at hl 0 rfl) ?_
        refine lv_iload_n hx hb dX7_rowMask_10 rfl (lv_at hl 2 rfl) ?_
        have hPc := hP.sub (ws' := []) [] rfl
        have hDc := hD.sub (ws' := []) [] (by decide) rfl
        have hFc := fr0 hA hS
        refine va_calli (va_runS (As := [.int v0, .int v2_3]) (rest := []) ⟨hx, hb, hml, hown, hts⟩ (c_X7_hasBit l dC dI cI  _ v0 v2_3 _ h) (va_cwS 2 hts gX7_rowMask_X7_hasBit rfl rfl rfl (by decide +kernel) ⟨Nat.le_of_ble_eq_true rfl, Nat.le_of_ble_eq_true rfl⟩) (pb_S hPc hK hDc hN) rfl rfl hl.1 rfl (lv_room (Nat.le_of_ble_eq_true rfl)) dX7_rowMask_11 ⟨Nat.zero_le _, Nat.zero_le _⟩) hS (fun q _ h => hFc q h) hFc (fun r_6 u_5 t H locs ht hvm h hB hz1 hk1 hS => ?_)
        have hP := vaPk hP hk1
        obtain ⟨ht_, hf_⟩ := h
        refine lv_if_eq (tgt := 27) hx hb dX7_rowMask_14 (by decide) (fun c_7 => ?_) (fun c_7 => ?_)
        · have h := ht_ c_7
          refine lv_iinc (v := (v2_3 + (1 : Int32))) (lv' := [(2, .int (v2_3 + (1 : Int32))), (0, .int v0), (1, .int v1_2)]) hx hb dX7_rowMask_27 hl (k := 2) rfl rfl (by decide) rfl (fun ls hl => ?_)
          refine lv_goto (tgt := 4) hx hb dX7_rowMask_30 (by decide) ?_
          have hl : lv_has ls 3 [(0, .int v0), (1, .int v1_2), (2, .int (v2_3 + (1 : Int32)))] := lv_sub hl [1, 2, 0] rfl
          obtain ⟨k_8, hk_9, h⟩ := h
          exact ih_1 k_8 hk_9 v1_2 (v2_3 + (1 : Int32)) h _ _ hP hD hS _ hl
        · have h := hf_ c_7
          refine lv_iload_n hx hb dX7_rowMask_17 rfl (lv_at hl 1 rfl) ?_
          refine lv_bipush (v := (63 : Int32)) hx hb dX7_rowMask_18 (by decide) ?_
          refine lv_iload_n hx hb dX7_rowMask_20 rfl (lv_at hl 2 rfl) ?_
          have hPc := hP.sub (ws' := []) [] rfl
          have hDc := hD.sub (ws' := []) [] (by decide) rfl
          have hFc := fr0 hA hS
          refine va_calli (va_runS (As := [.int v2_3]) (rest := [.int (63 : Int32), .int v1_2]) ⟨hx, hb, hml, hown, hts⟩ (c_X7_cellShift l dC dI cI  _ v2_3 _ h) (va_cwS 1 hts gX7_rowMask_X7_cellShift rfl rfl rfl (by decide +kernel) ⟨Nat.le_of_ble_eq_true rfl, Nat.le_of_ble_eq_true rfl⟩) (pb_S hPc hK hDc hN) rfl rfl hl.1 rfl (lv_room (Nat.le_of_ble_eq_true rfl)) dX7_rowMask_21 ⟨Nat.zero_le _, Nat.zero_le _⟩) hS (fun q _ h => hFc q h) hFc (fun r_11 u_10 t H locs ht hvm h hB hz1 hk1 hS => ?_)
          have hP := vaPk hP hk1
          refine lv_ishl hx hb dX7_rowMask_24 ?_
          refine lv_ior hx hb dX7_rowMask_25 ?_
          refine lv_istore_n (lv' := [(1, .int (v1_2 ||| ((63 : Int32) <<< (r_11 &&& 31)))), (0, .int v0), (2, .int v2_3)]) hx hb dX7_rowMask_26 rfl hl (by decide) rfl (fun ls hl => ?_)
          refine lv_iinc (v := (v2_3 + (1 : Int32))) (lv' := [(2, .int (v2_3 + (1 : Int32))), (1, .int (v1_2 ||| ((63 : Int32) <<< (r_11 &&& 31)))), (0, .int v0)]) hx hb dX7_rowMask_27 hl (k := 2) rfl rfl (by decide) rfl (fun ls hl => ?_)
          refine lv_goto (tgt := 4) hx hb dX7_rowMask_30 (by decide) ?_
          have hl : lv_has ls 3 [(0, .int v0), (1, .int (v1_2 ||| ((63 : Int32) <<< (r_11 &&& 31)))), (2, .int (v2_3 + (1 : Int32)))] := lv_sub hl [2, 1, 0] rfl
          obtain ⟨k_12, hk_13, h⟩ := h
          exact ih_1 k_12 hk_13 (v1_2 ||| ((63 : Int32) <<< (r_11 &&& 31))) (v2_3 + (1 : Int32)) h _ _ hP hD hS _ hl
  exact loop_1 n_1 (0 : Int32) (0 : Int32) h _ _ hP hD hS _ hl
abbrev Q_X7_isVariable (dC : Nat → ClassId) (dI : Nat → Nat → Nat) (cI : ClassId)   (A : Nat → Prop) (post : Int32 → Prop) : Array Value → State → Outcome → State → Prop := va_Qi (fun (r : Int32) (_ : Unit) => post r) (fun _ _ => True) A
abbrev rm_X7_isVariable : Room := { frames := 0, cells := 0, slots := 0, locals := 0 }
set_option maxHeartbeats 4000000 in
set_option maxRecDepth 100000 in
theorem c_X7_isVariable (l : Launch) (dC : Nat → ClassId) (dI : Nat → Nat → Nat) (cI : ClassId)  (sz : Nat) (v0 : Int32) (post : Int32 → Prop) (h : P_X7_isVariable v0 post) : Met l yX7_isVariable wsX7_isVariable rm_X7_isVariable (va_Pc [.int v0] (cpre (dC, dI) [(cI, .int)] [] sz)) (Q_X7_isVariable dC dI cI (va_A [] sz) post) 0 0 (va_A [] sz) := by
  refine Met.ofW (cc := cX7_isVariable) (maxL := 1) (ret := (some .boolean)) (by decide) rfl ?_
  intro p e s m args below meth c s₁ B hml hv
  obtain ⟨rfl, hsz, hP, hK, hD0, hN⟩ := hv
  have hx := B.exec
  have hb := B.bytes
  have hr := B.returns
  have hts := atoms_spec (ws := wsX7_isVariable) B.pre
  have hown : s.vm.findClass RX7 = some m.cls := findClass_of_methodNamed B.named
  have hlocks := B.notSynchronized
  subst hsz
  have hD := hD0
  generalize hAe : va_A [] s.heap.size = A
  have hA : ∀ q : Nat, s.heap.size ≤ q → A q := fun q h => by rw [← hAe]; exact Or.inr h
  clear hAe hD0
  have hS : va_S A s.heap s.heap [] := va_S.rf
  have hP : va_P (dC, dI) vwCl [] s.heap := hP
  have hD : va_D (fun _ : Nat => True) [] := hD
  have hl := lv_entry ([.int v0]) (n := 1) (Nat.le_of_ble_eq_true rfl)
  rw [lg_entry_eq]
  generalize (lg_sl ([.int v0]) ++ List.replicate (1 - (lg_sl ([.int v0])).length) Slot.unset).toArray = ls at hl ⊢
  have hl : lv_has ls 1 [(0, .int v0)] := hl
  refine lv_iload_n hx hb dX7_isVariable_0 rfl (lv_at hl 0 rfl) ?_
  obtain ⟨ht_, hf_⟩ := h
  refine lv_if_lt (tgt := 13) hx hb dX7_isVariable_1 (by decide) (fun c_1 => ?_) (fun c_1 => ?_)
  · have h := ht_ c_1
    refine lv_iconst (v := (0 : Int32)) hx hb dX7_isVariable_13 (by decide) ?_
    exact W.zret (v := (0 : Int32)) hx hb hr (by decide +kernel) (fun t ht hW => ⟨⟨(0 : Int32), (), rfl, h, trivial⟩, hS.F ht⟩) hS.2.2 dX7_isVariable_14
  · have h := hf_ c_1
    refine lv_iload_n hx hb dX7_isVariable_4 rfl (lv_at hl 0 rfl) ?_
    refine lv_iconst (v := (4 : Int32)) hx hb dX7_isVariable_5 (by decide) ?_
    obtain ⟨ht_, hf_⟩ := h
    refine lv_icmp_ge (tgt := 13) hx hb dX7_isVariable_6 (by decide) (fun c_2 => ?_) (fun c_2 => ?_)
    · have h := ht_ c_2
      refine lv_iconst (v := (0 : Int32)) hx hb dX7_isVariable_13 (by decide) ?_
      exact W.zret (v := (0 : Int32)) hx hb hr (by decide +kernel) (fun t ht hW => ⟨⟨(0 : Int32), (), rfl, h, trivial⟩, hS.F ht⟩) hS.2.2 dX7_isVariable_14
    · have h := hf_ c_2
      refine lv_iconst (v := (1 : Int32)) hx hb dX7_isVariable_9 (by decide) ?_
      refine lv_goto (tgt := 14) hx hb dX7_isVariable_10 (by decide) ?_
      exact W.zret (v := (1 : Int32)) hx hb hr (by decide +kernel) (fun t ht hW => ⟨⟨(1 : Int32), (), rfl, h, trivial⟩, hS.F ht⟩) hS.2.2 dX7_isVariable_14
