abbrev mc_L_act : Nat := 2
abbrev ms_L_act : Nat := 12
abbrev Q_L_act (dC : Nat → ClassId) (dI : Nat → Nat → Nat) (cI : ClassId) (h0 h0_1 h0_2 h0_3 h0_4 h0_5 h0_6 h0_7 h0_8 h0_9 h0_10 h0_11 h0_12 h0_13 h0_14 h0_15 h0_16 h0_17 h0_18 h0_19 h0_20 h0_21 h0_22 h0_23 h0_24 h0_25 h0_26 h0_27 h0_28 h0_29 h0_30 : Nat) (A : Nat → Prop) (post : Int32 → TriS → Prop) : Array Value → State → Outcome → State → Prop := va_Qi post (fun (u : TriS) (t : State) => ∃ h0_23_m h0_24_m h0_27_m h0_28_m : Nat, va_P (dC, dI) vwCl (lwO cI h0 h0_1 h0_2 h0_3 h0_4 h0_5 h0_6 h0_7 h0_8 h0_9 h0_10 h0_11 h0_12 h0_13 h0_14 h0_15 h0_16 h0_17 h0_18 h0_19 h0_20 h0_21 h0_22 h0_23_m h0_24_m h0_25 h0_26 h0_27_m h0_28_m h0_29 h0_30 u) t.heap ∧ va_D A (lwO cI h0 h0_1 h0_2 h0_3 h0_4 h0_5 h0_6 h0_7 h0_8 h0_9 h0_10 h0_11 h0_12 h0_13 h0_14 h0_15 h0_16 h0_17 h0_18 h0_19 h0_20 h0_21 h0_22 h0_23_m h0_24_m h0_25 h0_26 h0_27_m h0_28_m h0_29 h0_30 u)) A
abbrev rm_L_act : Room := { frames := 8, cells := 2, slots := 12, locals := 175 }
set_option maxHeartbeats 4000000 in
set_option maxRecDepth 100000 in
theorem c_L_act (l : Launch) (hst : l.stackTraces = false) (dC : Nat → ClassId) (dI : Nat → Nat → Nat) (cI : ClassId) (h0 h0_1 h0_2 h0_3 h0_4 h0_5 h0_6 h0_7 h0_8 h0_9 h0_10 h0_11 h0_12 h0_13 h0_14 h0_15 h0_16 h0_17 h0_18 h0_19 h0_20 h0_21 h0_22 h0_23 h0_24 h0_25 h0_26 h0_27 h0_28 h0_29 h0_30 : Nat) (sz : Nat) (s0 : TriS) (v1 : Int32) (v2 : Int32) (v3 : Int32) (v4 : Int32) (post : Int32 → TriS → Prop) (h : P_L_act s0 v1 v2 v3 v4 post) : vx_Met l yL_act wsL_act rm_L_act (va_Pc [.ref h0, .int v1, .int v2, .int v3, .int v4] (cprel (dC, dI) [(cI, .int)] (lwO cI h0 h0_1 h0_2 h0_3 h0_4 h0_5 h0_6 h0_7 h0_8 h0_9 h0_10 h0_11 h0_12 h0_13 h0_14 h0_15 h0_16 h0_17 h0_18 h0_19 h0_20 h0_21 h0_22 h0_23 h0_24 h0_25 h0_26 h0_27 h0_28 h0_29 h0_30 s0) sz (va_A (lwO cI h0 h0_1 h0_2 h0_3 h0_4 h0_5 h0_6 h0_7 h0_8 h0_9 h0_10 h0_11 h0_12 h0_13 h0_14 h0_15 h0_16 h0_17 h0_18 h0_19 h0_20 h0_21 h0_22 h0_23 h0_24 h0_25 h0_26 h0_27 h0_28 h0_29 h0_30 s0) sz))) (Q_L_act dC dI cI h0 h0_1 h0_2 h0_3 h0_4 h0_5 h0_6 h0_7 h0_8 h0_9 h0_10 h0_11 h0_12 h0_13 h0_14 h0_15 h0_16 h0_17 h0_18 h0_19 h0_20 h0_21 h0_22 h0_23 h0_24 h0_25 h0_26 h0_27 h0_28 h0_29 h0_30 (va_A (lwO cI h0 h0_1 h0_2 h0_3 h0_4 h0_5 h0_6 h0_7 h0_8 h0_9 h0_10 h0_11 h0_12 h0_13 h0_14 h0_15 h0_16 h0_17 h0_18 h0_19 h0_20 h0_21 h0_22 h0_23 h0_24 h0_25 h0_26 h0_27 h0_28 h0_29 h0_30 s0) sz) post) (fun _ _ _ => False) mc_L_act ms_L_act (va_A (lwO cI h0 h0_1 h0_2 h0_3 h0_4 h0_5 h0_6 h0_7 h0_8 h0_9 h0_10 h0_11 h0_12 h0_13 h0_14 h0_15 h0_16 h0_17 h0_18 h0_19 h0_20 h0_21 h0_22 h0_23 h0_24 h0_25 h0_26 h0_27 h0_28 h0_29 h0_30 s0) sz) := by
  refine vx_ofWH (cc := cL_act) (maxL := 6) (ret := (some .int)) (hh := [(0, 224, 225, 59), (0, 224, 230, 61), (0, 224, 235, 63)]) (by decide) rfl ?_
  intro p e s m args below meth c s₁ B hml hv
  obtain ⟨rfl, ⟨⟨hsz, hP, hK, hD0, hN⟩, hX⟩, hC⟩ := hv
  have hx := B.exec
  have hb := B.bytes
  have hr := B.returns
  have hts := atoms_spec (ws := wsL_act) B.pre
  have he := vx_table (x := yL_act) B (hts (.codeWith yL_act cL_act 6 (some .int) [(0, 224, 225, 59), (0, 224, 230, 61), (0, 224, 235, 63)]) List.mem_cons_self)
  have hown : s.vm.findClass RL = some m.cls := findClass_of_methodNamed B.named
  have hlocks := B.notSynchronized
  subst hsz
  have hD := hD0.self (sz := s.heap.size)
  generalize hAe : va_A (lwO cI h0 h0_1 h0_2 h0_3 h0_4 h0_5 h0_6 h0_7 h0_8 h0_9 h0_10 h0_11 h0_12 h0_13 h0_14 h0_15 h0_16 h0_17 h0_18 h0_19 h0_20 h0_21 h0_22 h0_23 h0_24 h0_25 h0_26 h0_27 h0_28 h0_29 h0_30 s0) s.heap.size = A at hD hX ⊢
  have hA : ∀ q : Nat, s.heap.size ≤ q → A q := fun q h => by rw [← hAe]; exact Or.inr h
  clear hAe hD0
  have hS : va_S A s.heap s.heap [] := va_S.rf
  have hl := lv_entry ([.ref h0, .int v1, .int v2, .int v3, .int v4]) (n := 6) (Nat.le_of_ble_eq_true rfl)
  rw [lg_entry_eq]
  generalize (lg_sl ([.ref h0, .int v1, .int v2, .int v3, .int v4]) ++ List.replicate (6 - (lg_sl ([.ref h0, .int v1, .int v2, .int v3, .int v4])).length) Slot.unset).toArray = ls at hl ⊢
  have hl : lv_has ls 6 [(0, .ref h0), (1, .int v1), (2, .int v2), (3, .int v3), (4, .int v4)] := hl
  refine lv_iload_n hx hb dL_act_0 rfl (lv_at hl 1 rfl) ?_
  obtain ⟨ht_, hf_⟩ := h
  refine lv_if_ne (tgt := 23) hx hb dL_act_1 (by decide) (fun c_1 => ?_) (fun c_1 => ?_)
  · have h := ht_ c_1
    refine lv_iload_n hx hb dL_act_23 rfl (lv_at hl 1 rfl) ?_
    refine lv_iconst (v := (1 : Int32)) hx hb dL_act_24 (by decide) ?_
    obtain ⟨ht_, hf_⟩ := h
    refine lv_icmp_ne (tgt := 47) hx hb dL_act_25 (by decide) (fun c_2 => ?_) (fun c_2 => ?_)
    · have h := ht_ c_2
      refine lv_iload_n hx hb dL_act_47 rfl (lv_at hl 1 rfl) ?_
      refine lv_iconst (v := (2 : Int32)) hx hb dL_act_48 (by decide) ?_
      obtain ⟨ht_, hf_⟩ := h
      refine lv_icmp_ne (tgt := 63) hx hb dL_act_49 (by decide) (fun c_3 => ?_) (fun c_3 => ?_)
      · have h := ht_ c_3
        refine lv_iload_n hx hb dL_act_63 rfl (lv_at hl 1 rfl) ?_
        refine lv_iconst (v := (3 : Int32)) hx hb dL_act_64 (by decide) ?_
        obtain ⟨ht_, hf_⟩ := h
        refine lv_icmp_ne (tgt := 76) hx hb dL_act_65 (by decide) (fun c_4 => ?_) (fun c_4 => ?_)
        · have h := ht_ c_4
          refine lv_iload_n hx hb dL_act_76 rfl (lv_at hl 1 rfl) ?_
          refine lv_iconst (v := (4 : Int32)) hx hb dL_act_77 (by decide) ?_
          obtain ⟨ht_, hf_⟩ := h
          refine lv_icmp_ne (tgt := 89) hx hb dL_act_78 (by decide) (fun c_5 => ?_) (fun c_5 => ?_)
          · have h := ht_ c_5
            refine lv_iload_n hx hb dL_act_89 rfl (lv_at hl 1 rfl) ?_
            refine lv_iconst (v := (5 : Int32)) hx hb dL_act_90 (by decide) ?_
            obtain ⟨ht_, hf_⟩ := h
            refine lv_icmp_ne (tgt := 105) hx hb dL_act_91 (by decide) (fun c_6 => ?_) (fun c_6 => ?_)
            · have h := ht_ c_6
              refine lv_iload_n hx hb dL_act_105 rfl (lv_at hl 1 rfl) ?_
              refine lv_bipush (v := (6 : Int32)) hx hb dL_act_106 (by decide) ?_
              obtain ⟨ht_, hf_⟩ := h
              refine lv_icmp_ne (tgt := 120) hx hb dL_act_108 (by decide) (fun c_7 => ?_) (fun c_7 => ?_)
              · have h := ht_ c_7
                refine lv_iload_n hx hb dL_act_120 rfl (lv_at hl 1 rfl) ?_
                refine lv_bipush (v := (7 : Int32)) hx hb dL_act_121 (by decide) ?_
                obtain ⟨ht_, hf_⟩ := h
                refine lv_icmp_ne (tgt := 137) hx hb dL_act_123 (by decide) (fun c_8 => ?_) (fun c_8 => ?_)
                · have h := ht_ c_8
                  refine lv_iload_n hx hb dL_act_137 rfl (lv_at hl 1 rfl) ?_
                  refine lv_bipush (v := (8 : Int32)) hx hb dL_act_138 (by decide) ?_
                  obtain ⟨ht_, hf_⟩ := h
                  refine lv_icmp_ne (tgt := 151) hx hb dL_act_140 (by decide) (fun c_9 => ?_) (fun c_9 => ?_)
                  · have h := ht_ c_9
                    refine lv_iload_n hx hb dL_act_151 rfl (lv_at hl 1 rfl) ?_
                    refine lv_bipush (v := (9 : Int32)) hx hb dL_act_152 (by decide) ?_
                    obtain ⟨ht_, hf_⟩ := h
                    refine lv_icmp_ne (tgt := 165) hx hb dL_act_154 (by decide) (fun c_10 => ?_) (fun c_10 => ?_)
                    · have h := ht_ c_10
                      refine lv_iload_n hx hb dL_act_165 rfl (lv_at hl 1 rfl) ?_
                      refine lv_bipush (v := (10 : Int32)) hx hb dL_act_166 (by decide) ?_
                      obtain ⟨ht_, hf_⟩ := h
                      refine lv_icmp_ne (tgt := 178) hx hb dL_act_168 (by decide) (fun c_11 => ?_) (fun c_11 => ?_)
                      · have h := ht_ c_11
                        refine lv_iload_n hx hb dL_act_178 rfl (lv_at hl 1 rfl) ?_
                        refine lv_bipush (v := (11 : Int32)) hx hb dL_act_179 (by decide) ?_
                        obtain ⟨ht_, hf_⟩ := h
                        refine lv_icmp_ne (tgt := 191) hx hb dL_act_181 (by decide) (fun c_12 => ?_) (fun c_12 => ?_)
                        · have h := ht_ c_12
                          refine lv_iload_n hx hb dL_act_191 rfl (lv_at hl 1 rfl) ?_
                          refine lv_bipush (v := (12 : Int32)) hx hb dL_act_192 (by decide) ?_
                          obtain ⟨ht_, hf_⟩ := h
                          refine lv_icmp_ne (tgt := 204) hx hb dL_act_194 (by decide) (fun c_13 => ?_) (fun c_13 => ?_)
                          · have h := ht_ c_13
                            refine lv_iload_n hx hb dL_act_204 rfl (lv_at hl 1 rfl) ?_
                            refine lv_bipush (v := (13 : Int32)) hx hb dL_act_205 (by decide) ?_
                            obtain ⟨ht_, hf_⟩ := h
                            refine lv_icmp_ne (tgt := 219) hx hb dL_act_207 (by decide) (fun c_14 => ?_) (fun c_14 => ?_)
                            · have h := ht_ c_14
                              refine lv_aload_n hx hb dL_act_219 rfl (lv_at hl 0 rfl) ?_
                              refine lv_iload_n hx hb dL_act_220 rfl (lv_at hl 2 rfl) ?_
                              have hFc := fr0 hA hS
                              refine vx_calli (vx_runV (As := [.int v2]) (rest := []) ⟨hx, hb, hml, hown, hts⟩ (c_X7_termsFor l hst dC dI cI h0 h0_1 h0_2 h0_3 h0_4 h0_5 h0_6 h0_7 h0_8 h0_9 h0_10 h0_11 h0_12 h0_13 h0_14 h0_15 h0_16 h0_17 h0_18 h0_19 h0_20 h0_21 h0_22 h0_23 h0_24 h0_25 h0_26 h0_27 h0_28 h0_29 h0_30 _ s0 v2 _ _ h) (cwV 1 hts gL_act_X7_termsFor rfl rfl rfl (by decide +kernel) ⟨Nat.le_of_ble_eq_true rfl, Nat.le_of_ble_eq_true rfl⟩) (pbj_V hP hK hD hN hX hFc hS (ci := 7) (q0 := 0) rfl rfl) rfl rfl hl.1 rfl (lv_room (Nat.le_of_ble_eq_true rfl)) dL_act_221 ⟨Nat.le_of_ble_eq_true rfl, Nat.le_of_ble_eq_true rfl⟩) hS (fun q _ h => hFc q h) hFc (fun q _ h => hFc q h) (fun E9 ce9 q9 u_15 t H locs ht hvm h hB hz1 hk1 hS hce hcv hcl => ?_) (fun r_16 u_15 t H locs ht hvm h hB hz1 hk1 hS => ?_)
                              · have hE : True := trivial
                                have hP := vaPk hP hk1
                                obtain rfl := hB
                                rcases h with ⟨rfl, h⟩ | ⟨rfl, h⟩ | ⟨rfl, h⟩
                                · refine vx_catch (name := "java/lang/IndexOutOfBoundsException") hown [] _ _ he (fun z hz => (nomatch hz)) (by decide +kernel) (by decide +kernel) (hts (.classLink RL 59 "java/lang/IndexOutOfBoundsException") (by decide +kernel)) (va_Nw.use rfl (hX.2.2.2.1 "java/lang/IndexOutOfBoundsException" (by decide))) hce hcv hcl ?_
                                  refine lv_astore (lv' := [(5, .ref q9), (0, .ref h0), (1, .int v1), (2, .int v2), (3, .int v3), (4, .int v4)]) hx hb dL_act_225 hl (by decide) rfl (fun ls hl => ?_)
                                  refine lv_bipush (v := (-91 : Int32)) hx hb dL_act_227 (by decide) ?_
                                  refine vx_ret ?_
                                  refine W.widen (k := mc_L_act) (n := ms_L_act) (Nat.le_of_ble_eq_true rfl) (Nat.le_of_ble_eq_true rfl) ?_
                                  exact W.iret (v := (-91 : Int32)) hx hb hr (fun t ht hW => ⟨⟨(-91 : Int32), s0, rfl, h, ⟨h0_23, h0_24, h0_27, h0_28, by rw [ht]; exact hP, hD⟩⟩, hS.F ht⟩) hS.2.2 dL_act_229
                                · refine vx_catch (name := "java/lang/IllegalArgumentException") hown [_] _ _ he (fun z hz => by rw [List.mem_singleton] at hz; subst hz; exact Or.inr ⟨by decide, "java/lang/IndexOutOfBoundsException", (hts (.classLink RL 59 "java/lang/IndexOutOfBoundsException") (by decide +kernel)), hC ("java/lang/IllegalArgumentException", "java/lang/IndexOutOfBoundsException") (by decide)⟩) (by decide +kernel) (by decide +kernel) (hts (.classLink RL 61 "java/lang/IllegalArgumentException") (by decide +kernel)) (va_Nw.use rfl (hX.2.2.2.1 "java/lang/IllegalArgumentException" (by decide))) hce hcv hcl ?_
                                  refine lv_astore (lv' := [(5, .ref q9), (0, .ref h0), (1, .int v1), (2, .int v2), (3, .int v3), (4, .int v4)]) hx hb dL_act_230 hl (by decide) rfl (fun ls hl => ?_)
                                  refine lv_bipush (v := (-92 : Int32)) hx hb dL_act_232 (by decide) ?_
                                  refine vx_ret ?_
                                  refine W.widen (k := mc_L_act) (n := ms_L_act) (Nat.le_of_ble_eq_true rfl) (Nat.le_of_ble_eq_true rfl) ?_
                                  exact W.iret (v := (-92 : Int32)) hx hb hr (fun t ht hW => ⟨⟨(-92 : Int32), s0, rfl, h, ⟨h0_23, h0_24, h0_27, h0_28, by rw [ht]; exact hP, hD⟩⟩, hS.F ht⟩) hS.2.2 dL_act_234
                                · refine vx_catch (name := "java/lang/IllegalStateException") hown [_, _] _ _ he (fun z hz => (List.mem_cons.mp hz).elim (fun hz => by subst hz; exact Or.inr ⟨by decide, "java/lang/IndexOutOfBoundsException", (hts (.classLink RL 59 "java/lang/IndexOutOfBoundsException") (by decide +kernel)), hC ("java/lang/IllegalStateException", "java/lang/IndexOutOfBoundsException") (by decide)⟩) (fun hz => by rw [List.mem_singleton] at hz; subst hz; exact Or.inr ⟨by decide, "java/lang/IllegalArgumentException", (hts (.classLink RL 61 "java/lang/IllegalArgumentException") (by decide +kernel)), hC ("java/lang/IllegalStateException", "java/lang/IllegalArgumentException") (by decide)⟩)) (by decide +kernel) (by decide +kernel) (hts (.classLink RL 63 "java/lang/IllegalStateException") (by decide +kernel)) (va_Nw.use rfl (hX.2.2.2.1 "java/lang/IllegalStateException" (by decide))) hce hcv hcl ?_
                                  refine lv_astore (lv' := [(5, .ref q9), (0, .ref h0), (1, .int v1), (2, .int v2), (3, .int v3), (4, .int v4)]) hx hb dL_act_235 hl (by decide) rfl (fun ls hl => ?_)
                                  refine lv_bipush (v := (-93 : Int32)) hx hb dL_act_237 (by decide) ?_
                                  refine vx_ret ?_
                                  refine W.widen (k := mc_L_act) (n := ms_L_act) (Nat.le_of_ble_eq_true rfl) (Nat.le_of_ble_eq_true rfl) ?_
                                  exact W.iret (v := (-93 : Int32)) hx hb hr (fun t ht hW => ⟨⟨(-93 : Int32), s0, rfl, h, ⟨h0_23, h0_24, h0_27, h0_28, by rw [ht]; exact hP, hD⟩⟩, hS.F ht⟩) hS.2.2 dL_act_239
                              · have hE : True := trivial
                                have hP := vaPk hP hk1
                                refine vx_ret ?_
                                refine W.widen (k := mc_L_act) (n := ms_L_act) (Nat.le_of_ble_eq_true rfl) (Nat.le_of_ble_eq_true rfl) ?_
                                exact W.iret (v := r_16) hx hb hr (fun t ht hW => ⟨⟨r_16, s0, rfl, h, ⟨h0_23, h0_24, h0_27, h0_28, by rw [ht]; exact hP, hD⟩⟩, hS.F ht⟩) hS.2.2 dL_act_224
                            · have h := hf_ c_14
                              refine lv_aload_n hx hb dL_act_210 rfl (lv_at hl 0 rfl) ?_
                              refine lv_iload_n hx hb dL_act_211 rfl (lv_at hl 2 rfl) ?_
                              refine lv_iload_n hx hb dL_act_212 rfl (lv_at hl 3 rfl) ?_
                              have hFc := fr0 hA hS
                              refine vx_calli (vx_runV (As := [.int v2, .int v3]) (rest := []) ⟨hx, hb, hml, hown, hts⟩ (c_X7_answer l hst dC dI cI h0 h0_1 h0_2 h0_3 h0_4 h0_5 h0_6 h0_7 h0_8 h0_9 h0_10 h0_11 h0_12 h0_13 h0_14 h0_15 h0_16 h0_17 h0_18 h0_19 h0_20 h0_21 h0_22 h0_23 h0_24 h0_25 h0_26 h0_27 h0_28 h0_29 h0_30 _ s0 v2 v3 _ _ h) (cwV 2 hts gL_act_X7_answer rfl rfl rfl (by decide +kernel) ⟨Nat.le_of_ble_eq_true rfl, Nat.le_of_ble_eq_true rfl⟩) (pbj_V hP hK hD hN hX hFc hS (ci := 7) (q0 := 0) rfl rfl) rfl rfl hl.1 rfl (lv_room (Nat.le_of_ble_eq_true rfl)) dL_act_213 ⟨Nat.le_of_ble_eq_true rfl, Nat.le_of_ble_eq_true rfl⟩) hS (fun q _ h => hFc q h) hFc (fun q _ h => hFc q h) (fun E9 ce9 q9 u_17 t H locs ht hvm h hB hz1 hk1 hS hce hcv hcl => ?_) (fun r_18 u_17 t H locs ht hvm h hB hz1 hk1 hS => ?_)
                              · have hE : True := trivial
                                have hP := vaPk hP hk1
                                obtain rfl := hB
                                rcases h with ⟨rfl, h⟩ | ⟨rfl, h⟩ | ⟨rfl, h⟩
                                · refine vx_catch (name := "java/lang/IndexOutOfBoundsException") hown [] _ _ he (fun z hz => (nomatch hz)) (by decide +kernel) (by decide +kernel) (hts (.classLink RL 59 "java/lang/IndexOutOfBoundsException") (by decide +kernel)) (va_Nw.use rfl (hX.2.2.2.1 "java/lang/IndexOutOfBoundsException" (by decide))) hce hcv hcl ?_
                                  refine lv_astore (lv' := [(5, .ref q9), (0, .ref h0), (1, .int v1), (2, .int v2), (3, .int v3), (4, .int v4)]) hx hb dL_act_225 hl (by decide) rfl (fun ls hl => ?_)
                                  refine lv_bipush (v := (-91 : Int32)) hx hb dL_act_227 (by decide) ?_
                                  refine vx_ret ?_
                                  refine W.widen (k := mc_L_act) (n := ms_L_act) (Nat.le_of_ble_eq_true rfl) (Nat.le_of_ble_eq_true rfl) ?_
                                  exact W.iret (v := (-91 : Int32)) hx hb hr (fun t ht hW => ⟨⟨(-91 : Int32), s0, rfl, h, ⟨h0_23, h0_24, h0_27, h0_28, by rw [ht]; exact hP, hD⟩⟩, hS.F ht⟩) hS.2.2 dL_act_229
                                · refine vx_catch (name := "java/lang/IllegalArgumentException") hown [_] _ _ he (fun z hz => by rw [List.mem_singleton] at hz; subst hz; exact Or.inr ⟨by decide, "java/lang/IndexOutOfBoundsException", (hts (.classLink RL 59 "java/lang/IndexOutOfBoundsException") (by decide +kernel)), hC ("java/lang/IllegalArgumentException", "java/lang/IndexOutOfBoundsException") (by decide)⟩) (by decide +kernel) (by decide +kernel) (hts (.classLink RL 61 "java/lang/IllegalArgumentException") (by decide +kernel)) (va_Nw.use rfl (hX.2.2.2.1 "java/lang/IllegalArgumentException" (by decide))) hce hcv hcl ?_
                                  refine lv_astore (lv' := [(5, .ref q9), (0, .ref h0), (1, .int v1), (2, .int v2), (3, .int v3), (4, .int v4)]) hx hb dL_act_230 hl (by decide) rfl (fun ls hl => ?_)
                                  refine lv_bipush (v := (-92 : Int32)) hx hb dL_act_232 (by decide) ?_
                                  refine vx_ret ?_
                                  refine W.widen (k := mc_L_act) (n := ms_L_act) (Nat.le_of_ble_eq_true rfl) (Nat.le_of_ble_eq_true rfl) ?_
                                  exact W.iret (v := (-92 : Int32)) hx hb hr (fun t ht hW => ⟨⟨(-92 : Int32), s0, rfl, h, ⟨h0_23, h0_24, h0_27, h0_28, by rw [ht]; exact hP, hD⟩⟩, hS.F ht⟩) hS.2.2 dL_act_234
                                · refine vx_catch (name := "java/lang/IllegalStateException") hown [_, _] _ _ he (fun z hz => (List.mem_cons.mp hz).elim (fun hz => by subst hz; exact Or.inr ⟨by decide, "java/lang/IndexOutOfBoundsException", (hts (.classLink RL 59 "java/lang/IndexOutOfBoundsException") (by decide +kernel)), hC ("java/lang/IllegalStateException", "java/lang/IndexOutOfBoundsException") (by decide)⟩) (fun hz => by rw [List.mem_singleton] at hz; subst hz; exact Or.inr ⟨by decide, "java/lang/IllegalArgumentException", (hts (.classLink RL 61 "java/lang/IllegalArgumentException") (by decide +kernel)), hC ("java/lang/IllegalStateException", "java/lang/IllegalArgumentException") (by decide)⟩)) (by decide +kernel) (by decide +kernel) (hts (.classLink RL 63 "java/lang/IllegalStateException") (by decide +kernel)) (va_Nw.use rfl (hX.2.2.2.1 "java/lang/IllegalStateException" (by decide))) hce hcv hcl ?_
                                  refine lv_astore (lv' := [(5, .ref q9), (0, .ref h0), (1, .int v1), (2, .int v2), (3, .int v3), (4, .int v4)]) hx hb dL_act_235 hl (by decide) rfl (fun ls hl => ?_)
                                  refine lv_bipush (v := (-93 : Int32)) hx hb dL_act_237 (by decide) ?_
                                  refine vx_ret ?_
                                  refine W.widen (k := mc_L_act) (n := ms_L_act) (Nat.le_of_ble_eq_true rfl) (Nat.le_of_ble_eq_true rfl) ?_
                                  exact W.iret (v := (-93 : Int32)) hx hb hr (fun t ht hW => ⟨⟨(-93 : Int32), s0, rfl, h, ⟨h0_23, h0_24, h0_27, h0_28, by rw [ht]; exact hP, hD⟩⟩, hS.F ht⟩) hS.2.2 dL_act_239
                              · have hE : True := trivial
                                have hP := vaPk hP hk1
                                refine lv_goto (tgt := 224) hx hb dL_act_216 (by decide) ?_
                                refine vx_ret ?_
                                refine W.widen (k := mc_L_act) (n := ms_L_act) (Nat.le_of_ble_eq_true rfl) (Nat.le_of_ble_eq_true rfl) ?_
                                exact W.iret (v := r_18) hx hb hr (fun t ht hW => ⟨⟨r_18, s0, rfl, h, ⟨h0_23, h0_24, h0_27, h0_28, by rw [ht]; exact hP, hD⟩⟩, hS.F ht⟩) hS.2.2 dL_act_224
                          · have h := hf_ c_13
                            refine lv_aload_n hx hb dL_act_197 rfl (lv_at hl 0 rfl) ?_
                            have hFc := frw hD hS hA
                            refine vx_calli (vx_runV (As := []) (rest := []) ⟨hx, hb, hml, hown, hts⟩ (c_X7_answerByLoops l hst dC dI cI h0 h0_1 h0_2 h0_3 h0_4 h0_5 h0_6 h0_7 h0_8 h0_9 h0_10 h0_11 h0_12 h0_13 h0_14 h0_15 h0_16 h0_17 h0_18 h0_19 h0_20 h0_21 h0_22 h0_23 h0_24 h0_25 h0_26 h0_27 h0_28 h0_29 h0_30 _ s0 _ _ h) (cwV 0 hts gL_act_X7_answerByLoops rfl rfl rfl (by decide +kernel) ⟨Nat.le_of_ble_eq_true rfl, Nat.le_of_ble_eq_true rfl⟩) (pbj_V hP hK hD hN hX hFc hS (ci := 7) (q0 := 0) rfl rfl) rfl rfl hl.1 rfl (lv_room (Nat.le_of_ble_eq_true rfl)) dL_act_198 ⟨Nat.le_of_ble_eq_true rfl, Nat.le_of_ble_eq_true rfl⟩) hS (fun q _ h => hFc q h) hFc (fun q _ h => hFc q h) (fun E9 ce9 q9 u_19 t H locs ht hvm h hB hz1 hk1 hS hce hcv hcl => ?_) (fun r_20 u_19 t H locs ht hvm h hB hz1 hk1 hS => ?_)
                            · have hE : True := trivial
                              obtain ⟨u_19k, u_19u⟩ := u_19
                              obtain ⟨hE9, hB⟩ := hB
                              obtain rfl := hE9
                              obtain ⟨m_21, m_22, m_23, m_24, hP1, hD1⟩ := hB
                              rw [ht] at hP1
                              have hP : va_P (dC, dI) vwCl (lwO cI h0 h0_1 h0_2 h0_3 h0_4 h0_5 h0_6 h0_7 h0_8 h0_9 h0_10 h0_11 h0_12 h0_13 h0_14 h0_15 h0_16 h0_17 h0_18 h0_19 h0_20 h0_21 h0_22 m_21 m_22 h0_25 h0_26 m_23 m_24 h0_29 h0_30 u_19u) H := hP1
                              have hD : va_D A (lwO cI h0 h0_1 h0_2 h0_3 h0_4 h0_5 h0_6 h0_7 h0_8 h0_9 h0_10 h0_11 h0_12 h0_13 h0_14 h0_15 h0_16 h0_17 h0_18 h0_19 h0_20 h0_21 h0_22 m_21 m_22 h0_25 h0_26 m_23 m_24 h0_29 h0_30 u_19u) := hD1.weaken (fun _ _ _ h => hFc _ h)
                              rcases h with ⟨rfl, h⟩ | ⟨rfl, h⟩ | ⟨rfl, h⟩
                              · refine vx_catch (name := "java/lang/IndexOutOfBoundsException") hown [] _ _ he (fun z hz => (nomatch hz)) (by decide +kernel) (by decide +kernel) (hts (.classLink RL 59 "java/lang/IndexOutOfBoundsException") (by decide +kernel)) (va_Nw.use rfl (hX.2.2.2.1 "java/lang/IndexOutOfBoundsException" (by decide))) hce hcv hcl ?_
                                refine lv_astore (lv' := [(5, .ref q9), (0, .ref h0), (1, .int v1), (2, .int v2), (3, .int v3), (4, .int v4)]) hx hb dL_act_225 hl (by decide) rfl (fun ls hl => ?_)
                                refine lv_bipush (v := (-91 : Int32)) hx hb dL_act_227 (by decide) ?_
                                refine vx_ret ?_
                                refine W.widen (k := mc_L_act) (n := ms_L_act) (Nat.le_of_ble_eq_true rfl) (Nat.le_of_ble_eq_true rfl) ?_
                                exact W.iret (v := (-91 : Int32)) hx hb hr (fun t ht hW => ⟨⟨(-91 : Int32), u_19u, rfl, h, ⟨m_21, m_22, m_23, m_24, by rw [ht]; exact hP, hD⟩⟩, hS.F ht⟩) hS.2.2 dL_act_229
                              · refine vx_catch (name := "java/lang/IllegalArgumentException") hown [_] _ _ he (fun z hz => by rw [List.mem_singleton] at hz; subst hz; exact Or.inr ⟨by decide, "java/lang/IndexOutOfBoundsException", (hts (.classLink RL 59 "java/lang/IndexOutOfBoundsException") (by decide +kernel)), hC ("java/lang/IllegalArgumentException", "java/lang/IndexOutOfBoundsException") (by decide)⟩) (by decide +kernel) (by decide +kernel) (hts (.classLink RL 61 "java/lang/IllegalArgumentException") (by decide +kernel)) (va_Nw.use rfl (hX.2.2.2.1 "java/lang/IllegalArgumentException" (by decide))) hce hcv hcl ?_
                                refine lv_astore (lv' := [(5, .ref q9), (0, .ref h0), (1, .int v1), (2, .int v2), (3, .int v3), (4, .int v4)]) hx hb dL_act_230 hl (by decide) rfl (fun ls hl => ?_)
                                refine lv_bipush (v := (-92 : Int32)) hx hb dL_act_232 (by decide) ?_
                                refine vx_ret ?_
                                refine W.widen (k := mc_L_act) (n := ms_L_act) (Nat.le_of_ble_eq_true rfl) (Nat.le_of_ble_eq_true rfl) ?_
                                exact W.iret (v := (-92 : Int32)) hx hb hr (fun t ht hW => ⟨⟨(-92 : Int32), u_19u, rfl, h, ⟨m_21, m_22, m_23, m_24, by rw [ht]; exact hP, hD⟩⟩, hS.F ht⟩) hS.2.2 dL_act_234
                              · refine vx_catch (name := "java/lang/IllegalStateException") hown [_, _] _ _ he (fun z hz => (List.mem_cons.mp hz).elim (fun hz => by subst hz; exact Or.inr ⟨by decide, "java/lang/IndexOutOfBoundsException", (hts (.classLink RL 59 "java/lang/IndexOutOfBoundsException") (by decide +kernel)), hC ("java/lang/IllegalStateException", "java/lang/IndexOutOfBoundsException") (by decide)⟩) (fun hz => by rw [List.mem_singleton] at hz; subst hz; exact Or.inr ⟨by decide, "java/lang/IllegalArgumentException", (hts (.classLink RL 61 "java/lang/IllegalArgumentException") (by decide +kernel)), hC ("java/lang/IllegalStateException", "java/lang/IllegalArgumentException") (by decide)⟩)) (by decide +kernel) (by decide +kernel) (hts (.classLink RL 63 "java/lang/IllegalStateException") (by decide +kernel)) (va_Nw.use rfl (hX.2.2.2.1 "java/lang/IllegalStateException" (by decide))) hce hcv hcl ?_
                                refine lv_astore (lv' := [(5, .ref q9), (0, .ref h0), (1, .int v1), (2, .int v2), (3, .int v3), (4, .int v4)]) hx hb dL_act_235 hl (by decide) rfl (fun ls hl => ?_)
                                refine lv_bipush (v := (-93 : Int32)) hx hb dL_act_237 (by decide) ?_
                                refine vx_ret ?_
                                refine W.widen (k := mc_L_act) (n := ms_L_act) (Nat.le_of_ble_eq_true rfl) (Nat.le_of_ble_eq_true rfl) ?_
                                exact W.iret (v := (-93 : Int32)) hx hb hr (fun t ht hW => ⟨⟨(-93 : Int32), u_19u, rfl, h, ⟨m_21, m_22, m_23, m_24, by rw [ht]; exact hP, hD⟩⟩, hS.F ht⟩) hS.2.2 dL_act_239
                            · have hE : True := trivial
                              obtain ⟨m_25, m_26, m_27, m_28, hP1, hD1⟩ := hB
                              rw [ht] at hP1
                              have hP : va_P (dC, dI) vwCl (lwO cI h0 h0_1 h0_2 h0_3 h0_4 h0_5 h0_6 h0_7 h0_8 h0_9 h0_10 h0_11 h0_12 h0_13 h0_14 h0_15 h0_16 h0_17 h0_18 h0_19 h0_20 h0_21 h0_22 m_25 m_26 h0_25 h0_26 m_27 m_28 h0_29 h0_30 u_19) H := hP1
                              have hD : va_D A (lwO cI h0 h0_1 h0_2 h0_3 h0_4 h0_5 h0_6 h0_7 h0_8 h0_9 h0_10 h0_11 h0_12 h0_13 h0_14 h0_15 h0_16 h0_17 h0_18 h0_19 h0_20 h0_21 h0_22 m_25 m_26 h0_25 h0_26 m_27 m_28 h0_29 h0_30 u_19) := hD1.weaken (fun _ _ _ h => hFc _ h)
                              refine lv_goto (tgt := 224) hx hb dL_act_201 (by decide) ?_
                              refine vx_ret ?_
                              refine W.widen (k := mc_L_act) (n := ms_L_act) (Nat.le_of_ble_eq_true rfl) (Nat.le_of_ble_eq_true rfl) ?_
                              exact W.iret (v := r_20) hx hb hr (fun t ht hW => ⟨⟨r_20, u_19, rfl, h, ⟨m_25, m_26, m_27, m_28, by rw [ht]; exact hP, hD⟩⟩, hS.F ht⟩) hS.2.2 dL_act_224
                        · have h := hf_ c_12
                          refine lv_aload_n hx hb dL_act_184 rfl (lv_at hl 0 rfl) ?_
                          have hFc := frw hD hS hA
                          refine vx_calli (vx_runV (As := []) (rest := []) ⟨hx, hb, hml, hown, hts⟩ (c_X7_answerByVariables l hst dC dI cI h0 h0_1 h0_2 h0_3 h0_4 h0_5 h0_6 h0_7 h0_8 h0_9 h0_10 h0_11 h0_12 h0_13 h0_14 h0_15 h0_16 h0_17 h0_18 h0_19 h0_20 h0_21 h0_22 h0_23 h0_24 h0_25 h0_26 h0_27 h0_28 h0_29 h0_30 _ s0 _ _ h) (cwV 0 hts gL_act_X7_answerByVariables rfl rfl rfl (by decide +kernel) ⟨Nat.le_of_ble_eq_true rfl, Nat.le_of_ble_eq_true rfl⟩) (pbj_V hP hK hD hN hX hFc hS (ci := 7) (q0 := 0) rfl rfl) rfl rfl hl.1 rfl (lv_room (Nat.le_of_ble_eq_true rfl)) dL_act_185 ⟨Nat.le_of_ble_eq_true rfl, Nat.le_of_ble_eq_true rfl⟩) hS (fun q _ h => hFc q h) hFc (fun q _ h => hFc q h) (fun E9 ce9 q9 u_29 t H locs ht hvm h hB hz1 hk1 hS hce hcv hcl => ?_) (fun r_30 u_29 t H locs ht hvm h hB hz1 hk1 hS => ?_)
                          · have hE : True := trivial
                            obtain ⟨u_29k, u_29u⟩ := u_29
                            obtain ⟨hE9, hB⟩ := hB
                            obtain rfl := hE9
                            obtain ⟨m_31, m_32, m_33, m_34, hP1, hD1⟩ := hB
                            rw [ht] at hP1
                            have hP : va_P (dC, dI) vwCl (lwO cI h0 h0_1 h0_2 h0_3 h0_4 h0_5 h0_6 h0_7 h0_8 h0_9 h0_10 h0_11 h0_12 h0_13 h0_14 h0_15 h0_16 h0_17 h0_18 h0_19 h0_20 h0_21 h0_22 m_31 m_32 h0_25 h0_26 m_33 m_34 h0_29 h0_30 u_29u) H := hP1
                            have hD : va_D A (lwO cI h0 h0_1 h0_2 h0_3 h0_4 h0_5 h0_6 h0_7 h0_8 h0_9 h0_10 h0_11 h0_12 h0_13 h0_14 h0_15 h0_16 h0_17 h0_18 h0_19 h0_20 h0_21 h0_22 m_31 m_32 h0_25 h0_26 m_33 m_34 h0_29 h0_30 u_29u) := hD1.weaken (fun _ _ _ h => hFc _ h)
                            rcases h with ⟨rfl, h⟩ | ⟨rfl, h⟩ | ⟨rfl, h⟩
                            · refine vx_catch (name := "java/lang/IndexOutOfBoundsException") hown [] _ _ he (fun z hz => (nomatch hz)) (by decide +kernel) (by decide +kernel) (hts (.classLink RL 59 "java/lang/IndexOutOfBoundsException") (by decide +kernel)) (va_Nw.use rfl (hX.2.2.2.1 "java/lang/IndexOutOfBoundsException" (by decide))) hce hcv hcl ?_
                              refine lv_astore (lv' := [(5, .ref q9), (0, .ref h0), (1, .int v1), (2, .int v2), (3, .int v3), (4, .int v4)]) hx hb dL_act_225 hl (by decide) rfl (fun ls hl => ?_)
                              refine lv_bipush (v := (-91 : Int32)) hx hb dL_act_227 (by decide) ?_
                              refine vx_ret ?_
                              refine W.widen (k := mc_L_act) (n := ms_L_act) (Nat.le_of_ble_eq_true rfl) (Nat.le_of_ble_eq_true rfl) ?_
                              exact W.iret (v := (-91 : Int32)) hx hb hr (fun t ht hW => ⟨⟨(-91 : Int32), u_29u, rfl, h, ⟨m_31, m_32, m_33, m_34, by rw [ht]; exact hP, hD⟩⟩, hS.F ht⟩) hS.2.2 dL_act_229
                            · refine vx_catch (name := "java/lang/IllegalArgumentException") hown [_] _ _ he (fun z hz => by rw [List.mem_singleton] at hz; subst hz; exact Or.inr ⟨by decide, "java/lang/IndexOutOfBoundsException", (hts (.classLink RL 59 "java/lang/IndexOutOfBoundsException") (by decide +kernel)), hC ("java/lang/IllegalArgumentException", "java/lang/IndexOutOfBoundsException") (by decide)⟩) (by decide +kernel) (by decide +kernel) (hts (.classLink RL 61 "java/lang/IllegalArgumentException") (by decide +kernel)) (va_Nw.use rfl (hX.2.2.2.1 "java/lang/IllegalArgumentException" (by decide))) hce hcv hcl ?_
                              refine lv_astore (lv' := [(5, .ref q9), (0, .ref h0), (1, .int v1), (2, .int v2), (3, .int v3), (4, .int v4)]) hx hb dL_act_230 hl (by decide) rfl (fun ls hl => ?_)
                              refine lv_bipush (v := (-92 : Int32)) hx hb dL_act_232 (by decide) ?_
                              refine vx_ret ?_
                              refine W.widen (k := mc_L_act) (n := ms_L_act) (Nat.le_of_ble_eq_true rfl) (Nat.le_of_ble_eq_true rfl) ?_
                              exact W.iret (v := (-92 : Int32)) hx hb hr (fun t ht hW => ⟨⟨(-92 : Int32), u_29u, rfl, h, ⟨m_31, m_32, m_33, m_34, by rw [ht]; exact hP, hD⟩⟩, hS.F ht⟩) hS.2.2 dL_act_234
                            · refine vx_catch (name := "java/lang/IllegalStateException") hown [_, _] _ _ he (fun z hz => (List.mem_cons.mp hz).elim (fun hz => by subst hz; exact Or.inr ⟨by decide, "java/lang/IndexOutOfBoundsException", (hts (.classLink RL 59 "java/lang/IndexOutOfBoundsException") (by decide +kernel)), hC ("java/lang/IllegalStateException", "java/lang/IndexOutOfBoundsException") (by decide)⟩) (fun hz => by rw [List.mem_singleton] at hz; subst hz; exact Or.inr ⟨by decide, "java/lang/IllegalArgumentException", (hts (.classLink RL 61 "java/lang/IllegalArgumentException") (by decide +kernel)), hC ("java/lang/IllegalStateException", "java/lang/IllegalArgumentException") (by decide)⟩)) (by decide +kernel) (by decide +kernel) (hts (.classLink RL 63 "java/lang/IllegalStateException") (by decide +kernel)) (va_Nw.use rfl (hX.2.2.2.1 "java/lang/IllegalStateException" (by decide))) hce hcv hcl ?_
                              refine lv_astore (lv' := [(5, .ref q9), (0, .ref h0), (1, .int v1), (2, .int v2), (3, .int v3), (4, .int v4)]) hx hb dL_act_235 hl (by decide) rfl (fun ls hl => ?_)
                              refine lv_bipush (v := (-93 : Int32)) hx hb dL_act_237 (by decide) ?_
                              refine vx_ret ?_
                              refine W.widen (k := mc_L_act) (n := ms_L_act) (Nat.le_of_ble_eq_true rfl) (Nat.le_of_ble_eq_true rfl) ?_
                              exact W.iret (v := (-93 : Int32)) hx hb hr (fun t ht hW => ⟨⟨(-93 : Int32), u_29u, rfl, h, ⟨m_31, m_32, m_33, m_34, by rw [ht]; exact hP, hD⟩⟩, hS.F ht⟩) hS.2.2 dL_act_239
                          · have hE : True := trivial
                            obtain ⟨m_35, m_36, m_37, m_38, hP1, hD1⟩ := hB
                            rw [ht] at hP1
                            have hP : va_P (dC, dI) vwCl (lwO cI h0 h0_1 h0_2 h0_3 h0_4 h0_5 h0_6 h0_7 h0_8 h0_9 h0_10 h0_11 h0_12 h0_13 h0_14 h0_15 h0_16 h0_17 h0_18 h0_19 h0_20 h0_21 h0_22 m_35 m_36 h0_25 h0_26 m_37 m_38 h0_29 h0_30 u_29) H := hP1
                            have hD : va_D A (lwO cI h0 h0_1 h0_2 h0_3 h0_4 h0_5 h0_6 h0_7 h0_8 h0_9 h0_10 h0_11 h0_12 h0_13 h0_14 h0_15 h0_16 h0_17 h0_18 h0_19 h0_20 h0_21 h0_22 m_35 m_36 h0_25 h0_26 m_37 m_38 h0_29 h0_30 u_29) := hD1.weaken (fun _ _ _ h => hFc _ h)
                            refine lv_goto (tgt := 224) hx hb dL_act_188 (by decide) ?_
                            refine vx_ret ?_
                            refine W.widen (k := mc_L_act) (n := ms_L_act) (Nat.le_of_ble_eq_true rfl) (Nat.le_of_ble_eq_true rfl) ?_
                            exact W.iret (v := r_30) hx hb hr (fun t ht hW => ⟨⟨r_30, u_29, rfl, h, ⟨m_35, m_36, m_37, m_38, by rw [ht]; exact hP, hD⟩⟩, hS.F ht⟩) hS.2.2 dL_act_224
                      · have h := hf_ c_11
                        refine lv_aload_n hx hb dL_act_171 rfl (lv_at hl 0 rfl) ?_
                        have hFc := frw hD hS hA
                        refine vx_calli (vx_runV (As := []) (rest := []) ⟨hx, hb, hml, hown, hts⟩ (c_X7_answerByMerging l hst dC dI cI h0 h0_1 h0_2 h0_3 h0_4 h0_5 h0_6 h0_7 h0_8 h0_9 h0_10 h0_11 h0_12 h0_13 h0_14 h0_15 h0_16 h0_17 h0_18 h0_19 h0_20 h0_21 h0_22 h0_23 h0_24 h0_25 h0_26 h0_27 h0_28 h0_29 h0_30 _ s0 _ _ h) (cwV 0 hts gL_act_X7_answerByMerging rfl rfl rfl (by decide +kernel) ⟨Nat.le_of_ble_eq_true rfl, Nat.le_of_ble_eq_true rfl⟩) (pbj_V hP hK hD hN hX hFc hS (ci := 7) (q0 := 0) rfl rfl) rfl rfl hl.1 rfl (lv_room (Nat.le_of_ble_eq_true rfl)) dL_act_172 ⟨Nat.le_of_ble_eq_true rfl, Nat.le_of_ble_eq_true rfl⟩) hS (fun q _ h => hFc q h) hFc (fun q _ h => hFc q h) (fun E9 ce9 q9 u_39 t H locs ht hvm h hB hz1 hk1 hS hce hcv hcl => ?_) (fun r_40 u_39 t H locs ht hvm h hB hz1 hk1 hS => ?_)
                        · have hE : True := trivial
                          obtain ⟨u_39k, u_39u⟩ := u_39
                          obtain ⟨hE9, hB⟩ := hB
                          obtain rfl := hE9
                          obtain ⟨m_41, m_42, m_43, m_44, hP1, hD1⟩ := hB
                          rw [ht] at hP1
                          have hP : va_P (dC, dI) vwCl (lwO cI h0 h0_1 h0_2 h0_3 h0_4 h0_5 h0_6 h0_7 h0_8 h0_9 h0_10 h0_11 h0_12 h0_13 h0_14 h0_15 h0_16 h0_17 h0_18 h0_19 h0_20 h0_21 h0_22 m_41 m_42 h0_25 h0_26 m_43 m_44 h0_29 h0_30 u_39u) H := hP1
                          have hD : va_D A (lwO cI h0 h0_1 h0_2 h0_3 h0_4 h0_5 h0_6 h0_7 h0_8 h0_9 h0_10 h0_11 h0_12 h0_13 h0_14 h0_15 h0_16 h0_17 h0_18 h0_19 h0_20 h0_21 h0_22 m_41 m_42 h0_25 h0_26 m_43 m_44 h0_29 h0_30 u_39u) := hD1.weaken (fun _ _ _ h => hFc _ h)
                          rcases h with ⟨rfl, h⟩ | ⟨rfl, h⟩ | ⟨rfl, h⟩
                          · refine vx_catch (name := "java/lang/IndexOutOfBoundsException") hown [] _ _ he (fun z hz => (nomatch hz)) (by decide +kernel) (by decide +kernel) (hts (.classLink RL 59 "java/lang/IndexOutOfBoundsException") (by decide +kernel)) (va_Nw.use rfl (hX.2.2.2.1 "java/lang/IndexOutOfBoundsException" (by decide))) hce hcv hcl ?_
                            refine lv_astore (lv' := [(5, .ref q9), (0, .ref h0), (1, .int v1), (2, .int v2), (3, .int v3), (4, .int v4)]) hx hb dL_act_225 hl (by decide) rfl (fun ls hl => ?_)
                            refine lv_bipush (v := (-91 : Int32)) hx hb dL_act_227 (by decide) ?_
                            refine vx_ret ?_
                            refine W.widen (k := mc_L_act) (n := ms_L_act) (Nat.le_of_ble_eq_true rfl) (Nat.le_of_ble_eq_true rfl) ?_
                            exact W.iret (v := (-91 : Int32)) hx hb hr (fun t ht hW => ⟨⟨(-91 : Int32), u_39u, rfl, h, ⟨m_41, m_42, m_43, m_44, by rw [ht]; exact hP, hD⟩⟩, hS.F ht⟩) hS.2.2 dL_act_229
                          · refine vx_catch (name := "java/lang/IllegalArgumentException") hown [_] _ _ he (fun z hz => by rw [List.mem_singleton] at hz; subst hz; exact Or.inr ⟨by decide, "java/lang/IndexOutOfBoundsException", (hts (.classLink RL 59 "java/lang/IndexOutOfBoundsException") (by decide +kernel)), hC ("java/lang/IllegalArgumentException", "java/lang/IndexOutOfBoundsException") (by decide)⟩) (by decide +kernel) (by decide +kernel) (hts (.classLink RL 61 "java/lang/IllegalArgumentException") (by decide +kernel)) (va_Nw.use rfl (hX.2.2.2.1 "java/lang/IllegalArgumentException" (by decide))) hce hcv hcl ?_
                            refine lv_astore (lv' := [(5, .ref q9), (0, .ref h0), (1, .int v1), (2, .int v2), (3, .int v3), (4, .int v4)]) hx hb dL_act_230 hl (by decide) rfl (fun ls hl => ?_)
                            refine lv_bipush (v := (-92 : Int32)) hx hb dL_act_232 (by decide) ?_
                            refine vx_ret ?_
                            refine W.widen (k := mc_L_act) (n := ms_L_act) (Nat.le_of_ble_eq_true rfl) (Nat.le_of_ble_eq_true rfl) ?_
                            exact W.iret (v := (-92 : Int32)) hx hb hr (fun t ht hW => ⟨⟨(-92 : Int32), u_39u, rfl, h, ⟨m_41, m_42, m_43, m_44, by rw [ht]; exact hP, hD⟩⟩, hS.F ht⟩) hS.2.2 dL_act_234
                          · refine vx_catch (name := "java/lang/IllegalStateException") hown [_, _] _ _ he (fun z hz => (List.mem_cons.mp hz).elim (fun hz => by subst hz; exact Or.inr ⟨by decide, "java/lang/IndexOutOfBoundsException", (hts (.classLink RL 59 "java/lang/IndexOutOfBoundsException") (by decide +kernel)), hC ("java/lang/IllegalStateException", "java/lang/IndexOutOfBoundsException") (by decide)⟩) (fun hz => by rw [List.mem_singleton] at hz; subst hz; exact Or.inr ⟨by decide, "java/lang/IllegalArgumentException", (hts (.classLink RL 61 "java/lang/IllegalArgumentException") (by decide +kernel)), hC ("java/lang/IllegalStateException", "java/lang/IllegalArgumentException") (by decide)⟩)) (by decide +kernel) (by decide +kernel) (hts (.classLink RL 63 "java/lang/IllegalStateException") (by decide +kernel)) (va_Nw.use rfl (hX.2.2.2.1 "java/lang/IllegalStateException" (by decide))) hce hcv hcl ?_
                            refine lv_astore (lv' := [(5, .ref q9), (0, .ref h0), (1, .int v1), (2, .int v2), (3, .int v3), (4, .int v4)]) hx hb dL_act_235 hl (by decide) rfl (fun ls hl => ?_)
                            refine lv_bipush (v := (-93 : Int32)) hx hb dL_act_237 (by decide) ?_
                            refine vx_ret ?_
                            refine W.widen (k := mc_L_act) (n := ms_L_act) (Nat.le_of_ble_eq_true rfl) (Nat.le_of_ble_eq_true rfl) ?_
                            exact W.iret (v := (-93 : Int32)) hx hb hr (fun t ht hW => ⟨⟨(-93 : Int32), u_39u, rfl, h, ⟨m_41, m_42, m_43, m_44, by rw [ht]; exact hP, hD⟩⟩, hS.F ht⟩) hS.2.2 dL_act_239
                        · have hE : True := trivial
                          obtain ⟨m_45, m_46, m_47, m_48, hP1, hD1⟩ := hB
                          rw [ht] at hP1
                          have hP : va_P (dC, dI) vwCl (lwO cI h0 h0_1 h0_2 h0_3 h0_4 h0_5 h0_6 h0_7 h0_8 h0_9 h0_10 h0_11 h0_12 h0_13 h0_14 h0_15 h0_16 h0_17 h0_18 h0_19 h0_20 h0_21 h0_22 m_45 m_46 h0_25 h0_26 m_47 m_48 h0_29 h0_30 u_39) H := hP1
                          have hD : va_D A (lwO cI h0 h0_1 h0_2 h0_3 h0_4 h0_5 h0_6 h0_7 h0_8 h0_9 h0_10 h0_11 h0_12 h0_13 h0_14 h0_15 h0_16 h0_17 h0_18 h0_19 h0_20 h0_21 h0_22 m_45 m_46 h0_25 h0_26 m_47 m_48 h0_29 h0_30 u_39) := hD1.weaken (fun _ _ _ h => hFc _ h)
                          refine lv_goto (tgt := 224) hx hb dL_act_175 (by decide) ?_
                          refine vx_ret ?_
                          refine W.widen (k := mc_L_act) (n := ms_L_act) (Nat.le_of_ble_eq_true rfl) (Nat.le_of_ble_eq_true rfl) ?_
                          exact W.iret (v := r_40) hx hb hr (fun t ht hW => ⟨⟨r_40, u_39, rfl, h, ⟨m_45, m_46, m_47, m_48, by rw [ht]; exact hP, hD⟩⟩, hS.F ht⟩) hS.2.2 dL_act_224
                    · have h := hf_ c_10
                      refine lv_aload_n hx hb dL_act_157 rfl (lv_at hl 0 rfl) ?_
                      refine lv_iload_n hx hb dL_act_158 rfl (lv_at hl 2 rfl) ?_
                      have hFc := frw hD hS hA
                      refine vx_calli (vx_runV (As := [.int v2]) (rest := []) ⟨hx, hb, hml, hown, hts⟩ (c_X7_joined l hst dC dI cI h0 h0_1 h0_2 h0_3 h0_4 h0_5 h0_6 h0_7 h0_8 h0_9 h0_10 h0_11 h0_12 h0_13 h0_14 h0_15 h0_16 h0_17 h0_18 h0_19 h0_20 h0_21 h0_22 h0_23 h0_24 h0_25 h0_26 h0_27 h0_28 h0_29 h0_30 _ s0 v2 _ _ h) (cwV 1 hts gL_act_X7_joined rfl rfl rfl (by decide +kernel) ⟨Nat.le_of_ble_eq_true rfl, Nat.le_of_ble_eq_true rfl⟩) (pbj_V hP hK hD hN hX hFc hS (ci := 7) (q0 := 0) rfl rfl) rfl rfl hl.1 rfl (lv_room (Nat.le_of_ble_eq_true rfl)) dL_act_159 ⟨Nat.le_of_ble_eq_true rfl, Nat.le_of_ble_eq_true rfl⟩) hS (fun q _ h => hFc q h) hFc (fun q _ h => hFc q h) (fun E9 ce9 q9 u_49 t H locs ht hvm h hB hz1 hk1 hS hce hcv hcl => ?_) (fun r_50 u_49 t H locs ht hvm h hB hz1 hk1 hS => ?_)
                      · have hE : True := trivial
                        obtain ⟨u_49k, u_49u⟩ := u_49
                        obtain ⟨hE9, hB⟩ := hB
                        obtain rfl := hE9
                        obtain ⟨m_51, m_52, m_53, m_54, hP1, hD1⟩ := hB
                        rw [ht] at hP1
                        have hP : va_P (dC, dI) vwCl (lwO cI h0 h0_1 h0_2 h0_3 h0_4 h0_5 h0_6 h0_7 h0_8 h0_9 h0_10 h0_11 h0_12 h0_13 h0_14 h0_15 h0_16 h0_17 h0_18 h0_19 h0_20 h0_21 h0_22 m_51 m_52 h0_25 h0_26 m_53 m_54 h0_29 h0_30 u_49u) H := hP1
                        have hD : va_D A (lwO cI h0 h0_1 h0_2 h0_3 h0_4 h0_5 h0_6 h0_7 h0_8 h0_9 h0_10 h0_11 h0_12 h0_13 h0_14 h0_15 h0_16 h0_17 h0_18 h0_19 h0_20 h0_21 h0_22 m_51 m_52 h0_25 h0_26 m_53 m_54 h0_29 h0_30 u_49u) := hD1.weaken (fun _ _ _ h => hFc _ h)
                        rcases h with ⟨rfl, h⟩ | ⟨rfl, h⟩ | ⟨rfl, h⟩
                        · refine vx_catch (name := "java/lang/IndexOutOfBoundsException") hown [] _ _ he (fun z hz => (nomatch hz)) (by decide +kernel) (by decide +kernel) (hts (.classLink RL 59 "java/lang/IndexOutOfBoundsException") (by decide +kernel)) (va_Nw.use rfl (hX.2.2.2.1 "java/lang/IndexOutOfBoundsException" (by decide))) hce hcv hcl ?_
                          refine lv_astore (lv' := [(5, .ref q9), (0, .ref h0), (1, .int v1), (2, .int v2), (3, .int v3), (4, .int v4)]) hx hb dL_act_225 hl (by decide) rfl (fun ls hl => ?_)
                          refine lv_bipush (v := (-91 : Int32)) hx hb dL_act_227 (by decide) ?_
                          refine vx_ret ?_
                          refine W.widen (k := mc_L_act) (n := ms_L_act) (Nat.le_of_ble_eq_true rfl) (Nat.le_of_ble_eq_true rfl) ?_
                          exact W.iret (v := (-91 : Int32)) hx hb hr (fun t ht hW => ⟨⟨(-91 : Int32), u_49u, rfl, h, ⟨m_51, m_52, m_53, m_54, by rw [ht]; exact hP, hD⟩⟩, hS.F ht⟩) hS.2.2 dL_act_229
                        · refine vx_catch (name := "java/lang/IllegalArgumentException") hown [_] _ _ he (fun z hz => by rw [List.mem_singleton] at hz; subst hz; exact Or.inr ⟨by decide, "java/lang/IndexOutOfBoundsException", (hts (.classLink RL 59 "java/lang/IndexOutOfBoundsException") (by decide +kernel)), hC ("java/lang/IllegalArgumentException", "java/lang/IndexOutOfBoundsException") (by decide)⟩) (by decide +kernel) (by decide +kernel) (hts (.classLink RL 61 "java/lang/IllegalArgumentException") (by decide +kernel)) (va_Nw.use rfl (hX.2.2.2.1 "java/lang/IllegalArgumentException" (by decide))) hce hcv hcl ?_
                          refine lv_astore (lv' := [(5, .ref q9), (0, .ref h0), (1, .int v1), (2, .int v2), (3, .int v3), (4, .int v4)]) hx hb dL_act_230 hl (by decide) rfl (fun ls hl => ?_)
                          refine lv_bipush (v := (-92 : Int32)) hx hb dL_act_232 (by decide) ?_
                          refine vx_ret ?_
                          refine W.widen (k := mc_L_act) (n := ms_L_act) (Nat.le_of_ble_eq_true rfl) (Nat.le_of_ble_eq_true rfl) ?_
                          exact W.iret (v := (-92 : Int32)) hx hb hr (fun t ht hW => ⟨⟨(-92 : Int32), u_49u, rfl, h, ⟨m_51, m_52, m_53, m_54, by rw [ht]; exact hP, hD⟩⟩, hS.F ht⟩) hS.2.2 dL_act_234
                        · refine vx_catch (name := "java/lang/IllegalStateException") hown [_, _] _ _ he (fun z hz => (List.mem_cons.mp hz).elim (fun hz => by subst hz; exact Or.inr ⟨by decide, "java/lang/IndexOutOfBoundsException", (hts (.classLink RL 59 "java/lang/IndexOutOfBoundsException") (by decide +kernel)), hC ("java/lang/IllegalStateException", "java/lang/IndexOutOfBoundsException") (by decide)⟩) (fun hz => by rw [List.mem_singleton] at hz; subst hz; exact Or.inr ⟨by decide, "java/lang/IllegalArgumentException", (hts (.classLink RL 61 "java/lang/IllegalArgumentException") (by decide +kernel)), hC ("java/lang/IllegalStateException", "java/lang/IllegalArgumentException") (by decide)⟩)) (by decide +kernel) (by decide +kernel) (hts (.classLink RL 63 "java/lang/IllegalStateException") (by decide +kernel)) (va_Nw.use rfl (hX.2.2.2.1 "java/lang/IllegalStateException" (by decide))) hce hcv hcl ?_
                          refine lv_astore (lv' := [(5, .ref q9), (0, .ref h0), (1, .int v1), (2, .int v2), (3, .int v3), (4, .int v4)]) hx hb dL_act_235 hl (by decide) rfl (fun ls hl => ?_)
                          refine lv_bipush (v := (-93 : Int32)) hx hb dL_act_237 (by decide) ?_
                          refine vx_ret ?_
                          refine W.widen (k := mc_L_act) (n := ms_L_act) (Nat.le_of_ble_eq_true rfl) (Nat.le_of_ble_eq_true rfl) ?_
                          exact W.iret (v := (-93 : Int32)) hx hb hr (fun t ht hW => ⟨⟨(-93 : Int32), u_49u, rfl, h, ⟨m_51, m_52, m_53, m_54, by rw [ht]; exact hP, hD⟩⟩, hS.F ht⟩) hS.2.2 dL_act_239
                      · have hE : True := trivial
                        obtain ⟨m_55, m_56, m_57, m_58, hP1, hD1⟩ := hB
                        rw [ht] at hP1
                        have hP : va_P (dC, dI) vwCl (lwO cI h0 h0_1 h0_2 h0_3 h0_4 h0_5 h0_6 h0_7 h0_8 h0_9 h0_10 h0_11 h0_12 h0_13 h0_14 h0_15 h0_16 h0_17 h0_18 h0_19 h0_20 h0_21 h0_22 m_55 m_56 h0_25 h0_26 m_57 m_58 h0_29 h0_30 u_49) H := hP1
                        have hD : va_D A (lwO cI h0 h0_1 h0_2 h0_3 h0_4 h0_5 h0_6 h0_7 h0_8 h0_9 h0_10 h0_11 h0_12 h0_13 h0_14 h0_15 h0_16 h0_17 h0_18 h0_19 h0_20 h0_21 h0_22 m_55 m_56 h0_25 h0_26 m_57 m_58 h0_29 h0_30 u_49) := hD1.weaken (fun _ _ _ h => hFc _ h)
                        refine lv_goto (tgt := 224) hx hb dL_act_162 (by decide) ?_
                        refine vx_ret ?_
                        refine W.widen (k := mc_L_act) (n := ms_L_act) (Nat.le_of_ble_eq_true rfl) (Nat.le_of_ble_eq_true rfl) ?_
                        exact W.iret (v := r_50) hx hb hr (fun t ht hW => ⟨⟨r_50, u_49, rfl, h, ⟨m_55, m_56, m_57, m_58, by rw [ht]; exact hP, hD⟩⟩, hS.F ht⟩) hS.2.2 dL_act_224
                  · have h := hf_ c_9
                    refine lv_aload_n hx hb dL_act_143 rfl (lv_at hl 0 rfl) ?_
                    refine lv_iload_n hx hb dL_act_144 rfl (lv_at hl 2 rfl) ?_
                    have hFc := frw hD hS hA
                    refine vx_calli (vx_runV (As := [.int v2]) (rest := []) ⟨hx, hb, hml, hown, hts⟩ (c_X7_matches l hst dC dI cI h0 h0_1 h0_2 h0_3 h0_4 h0_5 h0_6 h0_7 h0_8 h0_9 h0_10 h0_11 h0_12 h0_13 h0_14 h0_15 h0_16 h0_17 h0_18 h0_19 h0_20 h0_21 h0_22 h0_23 h0_24 h0_25 h0_26 h0_27 h0_28 h0_29 h0_30 _ s0 v2 _ _ h) (cwV 1 hts gL_act_X7_matches rfl rfl rfl (by decide +kernel) ⟨Nat.le_of_ble_eq_true rfl, Nat.le_of_ble_eq_true rfl⟩) (pbj_V hP hK hD hN hX hFc hS (ci := 7) (q0 := 0) rfl rfl) rfl rfl hl.1 rfl (lv_room (Nat.le_of_ble_eq_true rfl)) dL_act_145 ⟨Nat.le_of_ble_eq_true rfl, Nat.le_of_ble_eq_true rfl⟩) hS (fun q _ h => hFc q h) hFc (fun q _ h => hFc q h) (fun E9 ce9 q9 u_59 t H locs ht hvm h hB hz1 hk1 hS hce hcv hcl => ?_) (fun r_60 u_59 t H locs ht hvm h hB hz1 hk1 hS => ?_)
                    · have hE : True := trivial
                      obtain ⟨u_59k, u_59u⟩ := u_59
                      obtain ⟨hE9, hB⟩ := hB
                      obtain rfl := hE9
                      obtain ⟨m_61, m_62, m_63, m_64, hP1, hD1⟩ := hB
                      rw [ht] at hP1
                      have hP : va_P (dC, dI) vwCl (lwO cI h0 h0_1 h0_2 h0_3 h0_4 h0_5 h0_6 h0_7 h0_8 h0_9 h0_10 h0_11 h0_12 h0_13 h0_14 h0_15 h0_16 h0_17 h0_18 h0_19 h0_20 h0_21 h0_22 m_61 m_62 h0_25 h0_26 m_63 m_64 h0_29 h0_30 u_59u) H := hP1
                      have hD : va_D A (lwO cI h0 h0_1 h0_2 h0_3 h0_4 h0_5 h0_6 h0_7 h0_8 h0_9 h0_10 h0_11 h0_12 h0_13 h0_14 h0_15 h0_16 h0_17 h0_18 h0_19 h0_20 h0_21 h0_22 m_61 m_62 h0_25 h0_26 m_63 m_64 h0_29 h0_30 u_59u) := hD1.weaken (fun _ _ _ h => hFc _ h)
                      rcases h with ⟨rfl, h⟩ | ⟨rfl, h⟩ | ⟨rfl, h⟩
                      · refine vx_catch (name := "java/lang/IndexOutOfBoundsException") hown [] _ _ he (fun z hz => (nomatch hz)) (by decide +kernel) (by decide +kernel) (hts (.classLink RL 59 "java/lang/IndexOutOfBoundsException") (by decide +kernel)) (va_Nw.use rfl (hX.2.2.2.1 "java/lang/IndexOutOfBoundsException" (by decide))) hce hcv hcl ?_
                        refine lv_astore (lv' := [(5, .ref q9), (0, .ref h0), (1, .int v1), (2, .int v2), (3, .int v3), (4, .int v4)]) hx hb dL_act_225 hl (by decide) rfl (fun ls hl => ?_)
                        refine lv_bipush (v := (-91 : Int32)) hx hb dL_act_227 (by decide) ?_
                        refine vx_ret ?_
                        refine W.widen (k := mc_L_act) (n := ms_L_act) (Nat.le_of_ble_eq_true rfl) (Nat.le_of_ble_eq_true rfl) ?_
                        exact W.iret (v := (-91 : Int32)) hx hb hr (fun t ht hW => ⟨⟨(-91 : Int32), u_59u, rfl, h, ⟨m_61, m_62, m_63, m_64, by rw [ht]; exact hP, hD⟩⟩, hS.F ht⟩) hS.2.2 dL_act_229
                      · refine vx_catch (name := "java/lang/IllegalArgumentException") hown [_] _ _ he (fun z hz => by rw [List.mem_singleton] at hz; subst hz; exact Or.inr ⟨by decide, "java/lang/IndexOutOfBoundsException", (hts (.classLink RL 59 "java/lang/IndexOutOfBoundsException") (by decide +kernel)), hC ("java/lang/IllegalArgumentException", "java/lang/IndexOutOfBoundsException") (by decide)⟩) (by decide +kernel) (by decide +kernel) (hts (.classLink RL 61 "java/lang/IllegalArgumentException") (by decide +kernel)) (va_Nw.use rfl (hX.2.2.2.1 "java/lang/IllegalArgumentException" (by decide))) hce hcv hcl ?_
                        refine lv_astore (lv' := [(5, .ref q9), (0, .ref h0), (1, .int v1), (2, .int v2), (3, .int v3), (4, .int v4)]) hx hb dL_act_230 hl (by decide) rfl (fun ls hl => ?_)
                        refine lv_bipush (v := (-92 : Int32)) hx hb dL_act_232 (by decide) ?_
                        refine vx_ret ?_
                        refine W.widen (k := mc_L_act) (n := ms_L_act) (Nat.le_of_ble_eq_true rfl) (Nat.le_of_ble_eq_true rfl) ?_
                        exact W.iret (v := (-92 : Int32)) hx hb hr (fun t ht hW => ⟨⟨(-92 : Int32), u_59u, rfl, h, ⟨m_61, m_62, m_63, m_64, by rw [ht]; exact hP, hD⟩⟩, hS.F ht⟩) hS.2.2 dL_act_234
                      · refine vx_catch (name := "java/lang/IllegalStateException") hown [_, _] _ _ he (fun z hz => (List.mem_cons.mp hz).elim (fun hz => by subst hz; exact Or.inr ⟨by decide, "java/lang/IndexOutOfBoundsException", (hts (.classLink RL 59 "java/lang/IndexOutOfBoundsException") (by decide +kernel)), hC ("java/lang/IllegalStateException", "java/lang/IndexOutOfBoundsException") (by decide)⟩) (fun hz => by rw [List.mem_singleton] at hz; subst hz; exact Or.inr ⟨by decide, "java/lang/IllegalArgumentException", (hts (.classLink RL 61 "java/lang/IllegalArgumentException") (by decide +kernel)), hC ("java/lang/IllegalStateException", "java/lang/IllegalArgumentException") (by decide)⟩)) (by decide +kernel) (by decide +kernel) (hts (.classLink RL 63 "java/lang/IllegalStateException") (by decide +kernel)) (va_Nw.use rfl (hX.2.2.2.1 "java/lang/IllegalStateException" (by decide))) hce hcv hcl ?_
                        refine lv_astore (lv' := [(5, .ref q9), (0, .ref h0), (1, .int v1), (2, .int v2), (3, .int v3), (4, .int v4)]) hx hb dL_act_235 hl (by decide) rfl (fun ls hl => ?_)
                        refine lv_bipush (v := (-93 : Int32)) hx hb dL_act_237 (by decide) ?_
                        refine vx_ret ?_
                        refine W.widen (k := mc_L_act) (n := ms_L_act) (Nat.le_of_ble_eq_true rfl) (Nat.le_of_ble_eq_true rfl) ?_
                        exact W.iret (v := (-93 : Int32)) hx hb hr (fun t ht hW => ⟨⟨(-93 : Int32), u_59u, rfl, h, ⟨m_61, m_62, m_63, m_64, by rw [ht]; exact hP, hD⟩⟩, hS.F ht⟩) hS.2.2 dL_act_239
                    · have hE : True := trivial
                      obtain ⟨m_65, m_66, m_67, m_68, hP1, hD1⟩ := hB
                      rw [ht] at hP1
                      have hP : va_P (dC, dI) vwCl (lwO cI h0 h0_1 h0_2 h0_3 h0_4 h0_5 h0_6 h0_7 h0_8 h0_9 h0_10 h0_11 h0_12 h0_13 h0_14 h0_15 h0_16 h0_17 h0_18 h0_19 h0_20 h0_21 h0_22 m_65 m_66 h0_25 h0_26 m_67 m_68 h0_29 h0_30 u_59) H := hP1
                      have hD : va_D A (lwO cI h0 h0_1 h0_2 h0_3 h0_4 h0_5 h0_6 h0_7 h0_8 h0_9 h0_10 h0_11 h0_12 h0_13 h0_14 h0_15 h0_16 h0_17 h0_18 h0_19 h0_20 h0_21 h0_22 m_65 m_66 h0_25 h0_26 m_67 m_68 h0_29 h0_30 u_59) := hD1.weaken (fun _ _ _ h => hFc _ h)
                      refine lv_goto (tgt := 224) hx hb dL_act_148 (by decide) ?_
                      refine vx_ret ?_
                      refine W.widen (k := mc_L_act) (n := ms_L_act) (Nat.le_of_ble_eq_true rfl) (Nat.le_of_ble_eq_true rfl) ?_
                      exact W.iret (v := r_60) hx hb hr (fun t ht hW => ⟨⟨r_60, u_59, rfl, h, ⟨m_65, m_66, m_67, m_68, by rw [ht]; exact hP, hD⟩⟩, hS.F ht⟩) hS.2.2 dL_act_224
                · have h := hf_ c_8
                  refine lv_aload_n hx hb dL_act_126 rfl (lv_at hl 0 rfl) ?_
                  refine lv_iload_n hx hb dL_act_127 rfl (lv_at hl 2 rfl) ?_
                  refine lv_iload_n hx hb dL_act_128 rfl (lv_at hl 3 rfl) ?_
                  refine lv_iload hx hb dL_act_129 (lv_at hl 4 rfl) ?_
                  have hFc := frw hD hS hA
                  refine vx_calli (vx_runV (As := [.int v2, .int v3, .int v4]) (rest := []) ⟨hx, hb, hml, hown, hts⟩ (c_X7_addPattern l hst dC dI cI h0 h0_1 h0_2 h0_3 h0_4 h0_5 h0_6 h0_7 h0_8 h0_9 h0_10 h0_11 h0_12 h0_13 h0_14 h0_15 h0_16 h0_17 h0_18 h0_19 h0_20 h0_21 h0_22 h0_23 h0_24 h0_25 h0_26 h0_27 h0_28 h0_29 h0_30 _ s0 v2 v3 v4 _ _ h) (cwV 3 hts gL_act_X7_addPattern rfl rfl rfl (by decide +kernel) ⟨Nat.le_of_ble_eq_true rfl, Nat.le_of_ble_eq_true rfl⟩) (pbj_V hP hK hD hN hX hFc hS (ci := 7) (q0 := 0) rfl rfl) rfl rfl hl.1 rfl (lv_room (Nat.le_of_ble_eq_true rfl)) dL_act_131 ⟨Nat.le_of_ble_eq_true rfl, Nat.le_of_ble_eq_true rfl⟩) hS (fun q _ h => hFc q h) hFc (fun q _ h => hFc q h) (fun E9 ce9 q9 u_69 t H locs ht hvm h hB hz1 hk1 hS hce hcv hcl => ?_) (fun r_70 u_69 t H locs ht hvm h hB hz1 hk1 hS => ?_)
                  · have hE : True := trivial
                    obtain ⟨u_69k, u_69u⟩ := u_69
                    obtain ⟨hE9, hB⟩ := hB
                    obtain rfl := hE9
                    obtain ⟨m_71, m_72, m_73, m_74, hP1, hD1⟩ := hB
                    rw [ht] at hP1
                    have hP : va_P (dC, dI) vwCl (lwO cI h0 h0_1 h0_2 h0_3 h0_4 h0_5 h0_6 h0_7 h0_8 h0_9 h0_10 h0_11 h0_12 h0_13 h0_14 h0_15 h0_16 h0_17 h0_18 h0_19 h0_20 h0_21 h0_22 m_71 m_72 h0_25 h0_26 m_73 m_74 h0_29 h0_30 u_69u) H := hP1
                    have hD : va_D A (lwO cI h0 h0_1 h0_2 h0_3 h0_4 h0_5 h0_6 h0_7 h0_8 h0_9 h0_10 h0_11 h0_12 h0_13 h0_14 h0_15 h0_16 h0_17 h0_18 h0_19 h0_20 h0_21 h0_22 m_71 m_72 h0_25 h0_26 m_73 m_74 h0_29 h0_30 u_69u) := hD1.weaken (fun _ _ _ h => hFc _ h)
                    rcases h with ⟨rfl, h⟩ | ⟨rfl, h⟩ | ⟨rfl, h⟩
                    · refine vx_catch (name := "java/lang/IndexOutOfBoundsException") hown [] _ _ he (fun z hz => (nomatch hz)) (by decide +kernel) (by decide +kernel) (hts (.classLink RL 59 "java/lang/IndexOutOfBoundsException") (by decide +kernel)) (va_Nw.use rfl (hX.2.2.2.1 "java/lang/IndexOutOfBoundsException" (by decide))) hce hcv hcl ?_
                      refine lv_astore (lv' := [(5, .ref q9), (0, .ref h0), (1, .int v1), (2, .int v2), (3, .int v3), (4, .int v4)]) hx hb dL_act_225 hl (by decide) rfl (fun ls hl => ?_)
                      refine lv_bipush (v := (-91 : Int32)) hx hb dL_act_227 (by decide) ?_
                      refine vx_ret ?_
                      refine W.widen (k := mc_L_act) (n := ms_L_act) (Nat.le_of_ble_eq_true rfl) (Nat.le_of_ble_eq_true rfl) ?_
                      exact W.iret (v := (-91 : Int32)) hx hb hr (fun t ht hW => ⟨⟨(-91 : Int32), u_69u, rfl, h, ⟨m_71, m_72, m_73, m_74, by rw [ht]; exact hP, hD⟩⟩, hS.F ht⟩) hS.2.2 dL_act_229
                    · refine vx_catch (name := "java/lang/IllegalArgumentException") hown [_] _ _ he (fun z hz => by rw [List.mem_singleton] at hz; subst hz; exact Or.inr ⟨by decide, "java/lang/IndexOutOfBoundsException", (hts (.classLink RL 59 "java/lang/IndexOutOfBoundsException") (by decide +kernel)), hC ("java/lang/IllegalArgumentException", "java/lang/IndexOutOfBoundsException") (by decide)⟩) (by decide +kernel) (by decide +kernel) (hts (.classLink RL 61 "java/lang/IllegalArgumentException") (by decide +kernel)) (va_Nw.use rfl (hX.2.2.2.1 "java/lang/IllegalArgumentException" (by decide))) hce hcv hcl ?_
                      refine lv_astore (lv' := [(5, .ref q9), (0, .ref h0), (1, .int v1), (2, .int v2), (3, .int v3), (4, .int v4)]) hx hb dL_act_230 hl (by decide) rfl (fun ls hl => ?_)
                      refine lv_bipush (v := (-92 : Int32)) hx hb dL_act_232 (by decide) ?_
                      refine vx_ret ?_
                      refine W.widen (k := mc_L_act) (n := ms_L_act) (Nat.le_of_ble_eq_true rfl) (Nat.le_of_ble_eq_true rfl) ?_
                      exact W.iret (v := (-92 : Int32)) hx hb hr (fun t ht hW => ⟨⟨(-92 : Int32), u_69u, rfl, h, ⟨m_71, m_72, m_73, m_74, by rw [ht]; exact hP, hD⟩⟩, hS.F ht⟩) hS.2.2 dL_act_234
                    · refine vx_catch (name := "java/lang/IllegalStateException") hown [_, _] _ _ he (fun z hz => (List.mem_cons.mp hz).elim (fun hz => by subst hz; exact Or.inr ⟨by decide, "java/lang/IndexOutOfBoundsException", (hts (.classLink RL 59 "java/lang/IndexOutOfBoundsException") (by decide +kernel)), hC ("java/lang/IllegalStateException", "java/lang/IndexOutOfBoundsException") (by decide)⟩) (fun hz => by rw [List.mem_singleton] at hz; subst hz; exact Or.inr ⟨by decide, "java/lang/IllegalArgumentException", (hts (.classLink RL 61 "java/lang/IllegalArgumentException") (by decide +kernel)), hC ("java/lang/IllegalStateException", "java/lang/IllegalArgumentException") (by decide)⟩)) (by decide +kernel) (by decide +kernel) (hts (.classLink RL 63 "java/lang/IllegalStateException") (by decide +kernel)) (va_Nw.use rfl (hX.2.2.2.1 "java/lang/IllegalStateException" (by decide))) hce hcv hcl ?_
                      refine lv_astore (lv' := [(5, .ref q9), (0, .ref h0), (1, .int v1), (2, .int v2), (3, .int v3), (4, .int v4)]) hx hb dL_act_235 hl (by decide) rfl (fun ls hl => ?_)
                      refine lv_bipush (v := (-93 : Int32)) hx hb dL_act_237 (by decide) ?_
                      refine vx_ret ?_
                      refine W.widen (k := mc_L_act) (n := ms_L_act) (Nat.le_of_ble_eq_true rfl) (Nat.le_of_ble_eq_true rfl) ?_
                      exact W.iret (v := (-93 : Int32)) hx hb hr (fun t ht hW => ⟨⟨(-93 : Int32), u_69u, rfl, h, ⟨m_71, m_72, m_73, m_74, by rw [ht]; exact hP, hD⟩⟩, hS.F ht⟩) hS.2.2 dL_act_239
                  · have hE : True := trivial
                    obtain ⟨m_75, m_76, m_77, m_78, hP1, hD1⟩ := hB
                    rw [ht] at hP1
                    have hP : va_P (dC, dI) vwCl (lwO cI h0 h0_1 h0_2 h0_3 h0_4 h0_5 h0_6 h0_7 h0_8 h0_9 h0_10 h0_11 h0_12 h0_13 h0_14 h0_15 h0_16 h0_17 h0_18 h0_19 h0_20 h0_21 h0_22 m_75 m_76 h0_25 h0_26 m_77 m_78 h0_29 h0_30 u_69) H := hP1
                    have hD : va_D A (lwO cI h0 h0_1 h0_2 h0_3 h0_4 h0_5 h0_6 h0_7 h0_8 h0_9 h0_10 h0_11 h0_12 h0_13 h0_14 h0_15 h0_16 h0_17 h0_18 h0_19 h0_20 h0_21 h0_22 m_75 m_76 h0_25 h0_26 m_77 m_78 h0_29 h0_30 u_69) := hD1.weaken (fun _ _ _ h => hFc _ h)
                    refine lv_goto (tgt := 224) hx hb dL_act_134 (by decide) ?_
                    refine vx_ret ?_
                    refine W.widen (k := mc_L_act) (n := ms_L_act) (Nat.le_of_ble_eq_true rfl) (Nat.le_of_ble_eq_true rfl) ?_
                    exact W.iret (v := r_70) hx hb hr (fun t ht hW => ⟨⟨r_70, u_69, rfl, h, ⟨m_75, m_76, m_77, m_78, by rw [ht]; exact hP, hD⟩⟩, hS.F ht⟩) hS.2.2 dL_act_224
              · have h := hf_ c_7
                refine lv_aload_n hx hb dL_act_111 rfl (lv_at hl 0 rfl) ?_
                refine lv_iload_n hx hb dL_act_112 rfl (lv_at hl 2 rfl) ?_
                refine lv_iload_n hx hb dL_act_113 rfl (lv_at hl 3 rfl) ?_
                have hFc := fr0 hA hS
                refine vx_calli (vx_runV (As := [.int v2, .int v3]) (rest := []) ⟨hx, hb, hml, hown, hts⟩ (c_X7_seek l hst dC dI cI h0 h0_1 h0_2 h0_3 h0_4 h0_5 h0_6 h0_7 h0_8 h0_9 h0_10 h0_11 h0_12 h0_13 h0_14 h0_15 h0_16 h0_17 h0_18 h0_19 h0_20 h0_21 h0_22 h0_23 h0_24 h0_25 h0_26 h0_27 h0_28 h0_29 h0_30 _ s0 v2 v3 _ _ h) (cwV 2 hts gL_act_X7_seek rfl rfl rfl (by decide +kernel) ⟨Nat.le_of_ble_eq_true rfl, Nat.le_of_ble_eq_true rfl⟩) (pbj_V hP hK hD hN hX hFc hS (ci := 7) (q0 := 0) rfl rfl) rfl rfl hl.1 rfl (lv_room (Nat.le_of_ble_eq_true rfl)) dL_act_114 ⟨Nat.le_of_ble_eq_true rfl, Nat.le_of_ble_eq_true rfl⟩) hS (fun q _ h => hFc q h) hFc (fun q _ h => hFc q h) (fun E9 ce9 q9 u_79 t H locs ht hvm h hB hz1 hk1 hS hce hcv hcl => ?_) (fun r_80 u_79 t H locs ht hvm h hB hz1 hk1 hS => ?_)
                · have hE : True := trivial
                  have hP := vaPk hP hk1
                  obtain rfl := hB
                  rcases h with ⟨rfl, h⟩ | ⟨rfl, h⟩ | ⟨rfl, h⟩
                  · refine vx_catch (name := "java/lang/IndexOutOfBoundsException") hown [] _ _ he (fun z hz => (nomatch hz)) (by decide +kernel) (by decide +kernel) (hts (.classLink RL 59 "java/lang/IndexOutOfBoundsException") (by decide +kernel)) (va_Nw.use rfl (hX.2.2.2.1 "java/lang/IndexOutOfBoundsException" (by decide))) hce hcv hcl ?_
                    refine lv_astore (lv' := [(5, .ref q9), (0, .ref h0), (1, .int v1), (2, .int v2), (3, .int v3), (4, .int v4)]) hx hb dL_act_225 hl (by decide) rfl (fun ls hl => ?_)
                    refine lv_bipush (v := (-91 : Int32)) hx hb dL_act_227 (by decide) ?_
                    refine vx_ret ?_
                    refine W.widen (k := mc_L_act) (n := ms_L_act) (Nat.le_of_ble_eq_true rfl) (Nat.le_of_ble_eq_true rfl) ?_
                    exact W.iret (v := (-91 : Int32)) hx hb hr (fun t ht hW => ⟨⟨(-91 : Int32), s0, rfl, h, ⟨h0_23, h0_24, h0_27, h0_28, by rw [ht]; exact hP, hD⟩⟩, hS.F ht⟩) hS.2.2 dL_act_229
                  · refine vx_catch (name := "java/lang/IllegalArgumentException") hown [_] _ _ he (fun z hz => by rw [List.mem_singleton] at hz; subst hz; exact Or.inr ⟨by decide, "java/lang/IndexOutOfBoundsException", (hts (.classLink RL 59 "java/lang/IndexOutOfBoundsException") (by decide +kernel)), hC ("java/lang/IllegalArgumentException", "java/lang/IndexOutOfBoundsException") (by decide)⟩) (by decide +kernel) (by decide +kernel) (hts (.classLink RL 61 "java/lang/IllegalArgumentException") (by decide +kernel)) (va_Nw.use rfl (hX.2.2.2.1 "java/lang/IllegalArgumentException" (by decide))) hce hcv hcl ?_
                    refine lv_astore (lv' := [(5, .ref q9), (0, .ref h0), (1, .int v1), (2, .int v2), (3, .int v3), (4, .int v4)]) hx hb dL_act_230 hl (by decide) rfl (fun ls hl => ?_)
                    refine lv_bipush (v := (-92 : Int32)) hx hb dL_act_232 (by decide) ?_
                    refine vx_ret ?_
                    refine W.widen (k := mc_L_act) (n := ms_L_act) (Nat.le_of_ble_eq_true rfl) (Nat.le_of_ble_eq_true rfl) ?_
                    exact W.iret (v := (-92 : Int32)) hx hb hr (fun t ht hW => ⟨⟨(-92 : Int32), s0, rfl, h, ⟨h0_23, h0_24, h0_27, h0_28, by rw [ht]; exact hP, hD⟩⟩, hS.F ht⟩) hS.2.2 dL_act_234
                  · refine vx_catch (name := "java/lang/IllegalStateException") hown [_, _] _ _ he (fun z hz => (List.mem_cons.mp hz).elim (fun hz => by subst hz; exact Or.inr ⟨by decide, "java/lang/IndexOutOfBoundsException", (hts (.classLink RL 59 "java/lang/IndexOutOfBoundsException") (by decide +kernel)), hC ("java/lang/IllegalStateException", "java/lang/IndexOutOfBoundsException") (by decide)⟩) (fun hz => by rw [List.mem_singleton] at hz; subst hz; exact Or.inr ⟨by decide, "java/lang/IllegalArgumentException", (hts (.classLink RL 61 "java/lang/IllegalArgumentException") (by decide +kernel)), hC ("java/lang/IllegalStateException", "java/lang/IllegalArgumentException") (by decide)⟩)) (by decide +kernel) (by decide +kernel) (hts (.classLink RL 63 "java/lang/IllegalStateException") (by decide +kernel)) (va_Nw.use rfl (hX.2.2.2.1 "java/lang/IllegalStateException" (by decide))) hce hcv hcl ?_
                    refine lv_astore (lv' := [(5, .ref q9), (0, .ref h0), (1, .int v1), (2, .int v2), (3, .int v3), (4, .int v4)]) hx hb dL_act_235 hl (by decide) rfl (fun ls hl => ?_)
                    refine lv_bipush (v := (-93 : Int32)) hx hb dL_act_237 (by decide) ?_
                    refine vx_ret ?_
                    refine W.widen (k := mc_L_act) (n := ms_L_act) (Nat.le_of_ble_eq_true rfl) (Nat.le_of_ble_eq_true rfl) ?_
                    exact W.iret (v := (-93 : Int32)) hx hb hr (fun t ht hW => ⟨⟨(-93 : Int32), s0, rfl, h, ⟨h0_23, h0_24, h0_27, h0_28, by rw [ht]; exact hP, hD⟩⟩, hS.F ht⟩) hS.2.2 dL_act_239
                · have hE : True := trivial
                  have hP := vaPk hP hk1
                  refine lv_goto (tgt := 224) hx hb dL_act_117 (by decide) ?_
                  refine vx_ret ?_
                  refine W.widen (k := mc_L_act) (n := ms_L_act) (Nat.le_of_ble_eq_true rfl) (Nat.le_of_ble_eq_true rfl) ?_
                  exact W.iret (v := r_80) hx hb hr (fun t ht hW => ⟨⟨r_80, s0, rfl, h, ⟨h0_23, h0_24, h0_27, h0_28, by rw [ht]; exact hP, hD⟩⟩, hS.F ht⟩) hS.2.2 dL_act_224
            · have h := hf_ c_6
              refine lv_aload_n hx hb dL_act_94 rfl (lv_at hl 0 rfl) ?_
              refine lv_iload_n hx hb dL_act_95 rfl (lv_at hl 2 rfl) ?_
              refine lv_iload_n hx hb dL_act_96 rfl (lv_at hl 3 rfl) ?_
              refine lv_iload hx hb dL_act_97 (lv_at hl 4 rfl) ?_
              have hFc := fr0 hA hS
              refine vx_calli (vx_runV (As := [.int v2, .int v3, .int v4]) (rest := []) ⟨hx, hb, hml, hown, hts⟩ (c_X7_count l hst dC dI cI h0 h0_1 h0_2 h0_3 h0_4 h0_5 h0_6 h0_7 h0_8 h0_9 h0_10 h0_11 h0_12 h0_13 h0_14 h0_15 h0_16 h0_17 h0_18 h0_19 h0_20 h0_21 h0_22 h0_23 h0_24 h0_25 h0_26 h0_27 h0_28 h0_29 h0_30 _ s0 v2 v3 v4 _ _ h) (cwV 3 hts gL_act_X7_count rfl rfl rfl (by decide +kernel) ⟨Nat.le_of_ble_eq_true rfl, Nat.le_of_ble_eq_true rfl⟩) (pbj_V hP hK hD hN hX hFc hS (ci := 7) (q0 := 0) rfl rfl) rfl rfl hl.1 rfl (lv_room (Nat.le_of_ble_eq_true rfl)) dL_act_99 ⟨Nat.le_of_ble_eq_true rfl, Nat.le_of_ble_eq_true rfl⟩) hS (fun q _ h => hFc q h) hFc (fun q _ h => hFc q h) (fun E9 ce9 q9 u_81 t H locs ht hvm h hB hz1 hk1 hS hce hcv hcl => ?_) (fun r_82 u_81 t H locs ht hvm h hB hz1 hk1 hS => ?_)
              · have hE : True := trivial
                have hP := vaPk hP hk1
                obtain rfl := hB
                rcases h with ⟨rfl, h⟩ | ⟨rfl, h⟩ | ⟨rfl, h⟩
                · refine vx_catch (name := "java/lang/IndexOutOfBoundsException") hown [] _ _ he (fun z hz => (nomatch hz)) (by decide +kernel) (by decide +kernel) (hts (.classLink RL 59 "java/lang/IndexOutOfBoundsException") (by decide +kernel)) (va_Nw.use rfl (hX.2.2.2.1 "java/lang/IndexOutOfBoundsException" (by decide))) hce hcv hcl ?_
                  refine lv_astore (lv' := [(5, .ref q9), (0, .ref h0), (1, .int v1), (2, .int v2), (3, .int v3), (4, .int v4)]) hx hb dL_act_225 hl (by decide) rfl (fun ls hl => ?_)
                  refine lv_bipush (v := (-91 : Int32)) hx hb dL_act_227 (by decide) ?_
                  refine vx_ret ?_
                  refine W.widen (k := mc_L_act) (n := ms_L_act) (Nat.le_of_ble_eq_true rfl) (Nat.le_of_ble_eq_true rfl) ?_
                  exact W.iret (v := (-91 : Int32)) hx hb hr (fun t ht hW => ⟨⟨(-91 : Int32), s0, rfl, h, ⟨h0_23, h0_24, h0_27, h0_28, by rw [ht]; exact hP, hD⟩⟩, hS.F ht⟩) hS.2.2 dL_act_229
                · refine vx_catch (name := "java/lang/IllegalArgumentException") hown [_] _ _ he (fun z hz => by rw [List.mem_singleton] at hz; subst hz; exact Or.inr ⟨by decide, "java/lang/IndexOutOfBoundsException", (hts (.classLink RL 59 "java/lang/IndexOutOfBoundsException") (by decide +kernel)), hC ("java/lang/IllegalArgumentException", "java/lang/IndexOutOfBoundsException") (by decide)⟩) (by decide +kernel) (by decide +kernel) (hts (.classLink RL 61 "java/lang/IllegalArgumentException") (by decide +kernel)) (va_Nw.use rfl (hX.2.2.2.1 "java/lang/IllegalArgumentException" (by decide))) hce hcv hcl ?_
                  refine lv_astore (lv' := [(5, .ref q9), (0, .ref h0), (1, .int v1), (2, .int v2), (3, .int v3), (4, .int v4)]) hx hb dL_act_230 hl (by decide) rfl (fun ls hl => ?_)
                  refine lv_bipush (v := (-92 : Int32)) hx hb dL_act_232 (by decide) ?_
                  refine vx_ret ?_
                  refine W.widen (k := mc_L_act) (n := ms_L_act) (Nat.le_of_ble_eq_true rfl) (Nat.le_of_ble_eq_true rfl) ?_
                  exact W.iret (v := (-92 : Int32)) hx hb hr (fun t ht hW => ⟨⟨(-92 : Int32), s0, rfl, h, ⟨h0_23, h0_24, h0_27, h0_28, by rw [ht]; exact hP, hD⟩⟩, hS.F ht⟩) hS.2.2 dL_act_234
                · refine vx_catch (name := "java/lang/IllegalStateException") hown [_, _] _ _ he (fun z hz => (List.mem_cons.mp hz).elim (fun hz => by subst hz; exact Or.inr ⟨by decide, "java/lang/IndexOutOfBoundsException", (hts (.classLink RL 59 "java/lang/IndexOutOfBoundsException") (by decide +kernel)), hC ("java/lang/IllegalStateException", "java/lang/IndexOutOfBoundsException") (by decide)⟩) (fun hz => by rw [List.mem_singleton] at hz; subst hz; exact Or.inr ⟨by decide, "java/lang/IllegalArgumentException", (hts (.classLink RL 61 "java/lang/IllegalArgumentException") (by decide +kernel)), hC ("java/lang/IllegalStateException", "java/lang/IllegalArgumentException") (by decide)⟩)) (by decide +kernel) (by decide +kernel) (hts (.classLink RL 63 "java/lang/IllegalStateException") (by decide +kernel)) (va_Nw.use rfl (hX.2.2.2.1 "java/lang/IllegalStateException" (by decide))) hce hcv hcl ?_
                  refine lv_astore (lv' := [(5, .ref q9), (0, .ref h0), (1, .int v1), (2, .int v2), (3, .int v3), (4, .int v4)]) hx hb dL_act_235 hl (by decide) rfl (fun ls hl => ?_)
                  refine lv_bipush (v := (-93 : Int32)) hx hb dL_act_237 (by decide) ?_
                  refine vx_ret ?_
                  refine W.widen (k := mc_L_act) (n := ms_L_act) (Nat.le_of_ble_eq_true rfl) (Nat.le_of_ble_eq_true rfl) ?_
                  exact W.iret (v := (-93 : Int32)) hx hb hr (fun t ht hW => ⟨⟨(-93 : Int32), s0, rfl, h, ⟨h0_23, h0_24, h0_27, h0_28, by rw [ht]; exact hP, hD⟩⟩, hS.F ht⟩) hS.2.2 dL_act_239
              · have hE : True := trivial
                have hP := vaPk hP hk1
                refine lv_goto (tgt := 224) hx hb dL_act_102 (by decide) ?_
                refine vx_ret ?_
                refine W.widen (k := mc_L_act) (n := ms_L_act) (Nat.le_of_ble_eq_true rfl) (Nat.le_of_ble_eq_true rfl) ?_
                exact W.iret (v := r_82) hx hb hr (fun t ht hW => ⟨⟨r_82, s0, rfl, h, ⟨h0_23, h0_24, h0_27, h0_28, by rw [ht]; exact hP, hD⟩⟩, hS.F ht⟩) hS.2.2 dL_act_224
          · have h := hf_ c_5
            refine lv_aload_n hx hb dL_act_81 rfl (lv_at hl 0 rfl) ?_
            refine lv_iload_n hx hb dL_act_82 rfl (lv_at hl 2 rfl) ?_
            have hFc := fr0 hA hS
            refine vx_calli (vx_runV (As := [.int v2]) (rest := []) ⟨hx, hb, hml, hown, hts⟩ (c_X7_termOf l hst dC dI cI h0 h0_1 h0_2 h0_3 h0_4 h0_5 h0_6 h0_7 h0_8 h0_9 h0_10 h0_11 h0_12 h0_13 h0_14 h0_15 h0_16 h0_17 h0_18 h0_19 h0_20 h0_21 h0_22 h0_23 h0_24 h0_25 h0_26 h0_27 h0_28 h0_29 h0_30 _ s0 v2 _ _ h) (cwV 1 hts gL_act_X7_termOf rfl rfl rfl (by decide +kernel) ⟨Nat.le_of_ble_eq_true rfl, Nat.le_of_ble_eq_true rfl⟩) (pbj_V hP hK hD hN hX hFc hS (ci := 7) (q0 := 0) rfl rfl) rfl rfl hl.1 rfl (lv_room (Nat.le_of_ble_eq_true rfl)) dL_act_83 ⟨Nat.le_of_ble_eq_true rfl, Nat.le_of_ble_eq_true rfl⟩) hS (fun q _ h => hFc q h) hFc (fun q _ h => hFc q h) (fun E9 ce9 q9 u_83 t H locs ht hvm h hB hz1 hk1 hS hce hcv hcl => ?_) (fun r_84 u_83 t H locs ht hvm h hB hz1 hk1 hS => ?_)
            · have hE : True := trivial
              have hP := vaPk hP hk1
              obtain rfl := hB
              rcases h with ⟨rfl, h⟩ | ⟨rfl, h⟩ | ⟨rfl, h⟩
              · refine vx_catch (name := "java/lang/IndexOutOfBoundsException") hown [] _ _ he (fun z hz => (nomatch hz)) (by decide +kernel) (by decide +kernel) (hts (.classLink RL 59 "java/lang/IndexOutOfBoundsException") (by decide +kernel)) (va_Nw.use rfl (hX.2.2.2.1 "java/lang/IndexOutOfBoundsException" (by decide))) hce hcv hcl ?_
                refine lv_astore (lv' := [(5, .ref q9), (0, .ref h0), (1, .int v1), (2, .int v2), (3, .int v3), (4, .int v4)]) hx hb dL_act_225 hl (by decide) rfl (fun ls hl => ?_)
                refine lv_bipush (v := (-91 : Int32)) hx hb dL_act_227 (by decide) ?_
                refine vx_ret ?_
                refine W.widen (k := mc_L_act) (n := ms_L_act) (Nat.le_of_ble_eq_true rfl) (Nat.le_of_ble_eq_true rfl) ?_
                exact W.iret (v := (-91 : Int32)) hx hb hr (fun t ht hW => ⟨⟨(-91 : Int32), s0, rfl, h, ⟨h0_23, h0_24, h0_27, h0_28, by rw [ht]; exact hP, hD⟩⟩, hS.F ht⟩) hS.2.2 dL_act_229
              · refine vx_catch (name := "java/lang/IllegalArgumentException") hown [_] _ _ he (fun z hz => by rw [List.mem_singleton] at hz; subst hz; exact Or.inr ⟨by decide, "java/lang/IndexOutOfBoundsException", (hts (.classLink RL 59 "java/lang/IndexOutOfBoundsException") (by decide +kernel)), hC ("java/lang/IllegalArgumentException", "java/lang/IndexOutOfBoundsException") (by decide)⟩) (by decide +kernel) (by decide +kernel) (hts (.classLink RL 61 "java/lang/IllegalArgumentException") (by decide +kernel)) (va_Nw.use rfl (hX.2.2.2.1 "java/lang/IllegalArgumentException" (by decide))) hce hcv hcl ?_
                refine lv_astore (lv' := [(5, .ref q9), (0, .ref h0), (1, .int v1), (2, .int v2), (3, .int v3), (4, .int v4)]) hx hb dL_act_230 hl (by decide) rfl (fun ls hl => ?_)
                refine lv_bipush (v := (-92 : Int32)) hx hb dL_act_232 (by decide) ?_
                refine vx_ret ?_
                refine W.widen (k := mc_L_act) (n := ms_L_act) (Nat.le_of_ble_eq_true rfl) (Nat.le_of_ble_eq_true rfl) ?_
                exact W.iret (v := (-92 : Int32)) hx hb hr (fun t ht hW => ⟨⟨(-92 : Int32), s0, rfl, h, ⟨h0_23, h0_24, h0_27, h0_28, by rw [ht]; exact hP, hD⟩⟩, hS.F ht⟩) hS.2.2 dL_act_234
              · refine vx_catch (name := "java/lang/IllegalStateException") hown [_, _] _ _ he (fun z hz => (List.mem_cons.mp hz).elim (fun hz => by subst hz; exact Or.inr ⟨by decide, "java/lang/IndexOutOfBoundsException", (hts (.classLink RL 59 "java/lang/IndexOutOfBoundsException") (by decide +kernel)), hC ("java/lang/IllegalStateException", "java/lang/IndexOutOfBoundsException") (by decide)⟩) (fun hz => by rw [List.mem_singleton] at hz; subst hz; exact Or.inr ⟨by decide, "java/lang/IllegalArgumentException", (hts (.classLink RL 61 "java/lang/IllegalArgumentException") (by decide +kernel)), hC ("java/lang/IllegalStateException", "java/lang/IllegalArgumentException") (by decide)⟩)) (by decide +kernel) (by decide +kernel) (hts (.classLink RL 63 "java/lang/IllegalStateException") (by decide +kernel)) (va_Nw.use rfl (hX.2.2.2.1 "java/lang/IllegalStateException" (by decide))) hce hcv hcl ?_
                refine lv_astore (lv' := [(5, .ref q9), (0, .ref h0), (1, .int v1), (2, .int v2), (3, .int v3), (4, .int v4)]) hx hb dL_act_235 hl (by decide) rfl (fun ls hl => ?_)
                refine lv_bipush (v := (-93 : Int32)) hx hb dL_act_237 (by decide) ?_
                refine vx_ret ?_
                refine W.widen (k := mc_L_act) (n := ms_L_act) (Nat.le_of_ble_eq_true rfl) (Nat.le_of_ble_eq_true rfl) ?_
                exact W.iret (v := (-93 : Int32)) hx hb hr (fun t ht hW => ⟨⟨(-93 : Int32), s0, rfl, h, ⟨h0_23, h0_24, h0_27, h0_28, by rw [ht]; exact hP, hD⟩⟩, hS.F ht⟩) hS.2.2 dL_act_239
            · have hE : True := trivial
              have hP := vaPk hP hk1
              refine lv_goto (tgt := 224) hx hb dL_act_86 (by decide) ?_
              refine vx_ret ?_
              refine W.widen (k := mc_L_act) (n := ms_L_act) (Nat.le_of_ble_eq_true rfl) (Nat.le_of_ble_eq_true rfl) ?_
              exact W.iret (v := r_84) hx hb hr (fun t ht hW => ⟨⟨r_84, s0, rfl, h, ⟨h0_23, h0_24, h0_27, h0_28, by rw [ht]; exact hP, hD⟩⟩, hS.F ht⟩) hS.2.2 dL_act_224
        · have h := hf_ c_4
          refine lv_aload_n hx hb dL_act_68 rfl (lv_at hl 0 rfl) ?_
          refine lv_iload_n hx hb dL_act_69 rfl (lv_at hl 2 rfl) ?_
          have hFc := fr0 hA hS
          refine vx_calli (vx_runV (As := [.int v2]) (rest := []) ⟨hx, hb, hml, hown, hts⟩ (c_X7_numberOf l hst dC dI cI h0 h0_1 h0_2 h0_3 h0_4 h0_5 h0_6 h0_7 h0_8 h0_9 h0_10 h0_11 h0_12 h0_13 h0_14 h0_15 h0_16 h0_17 h0_18 h0_19 h0_20 h0_21 h0_22 h0_23 h0_24 h0_25 h0_26 h0_27 h0_28 h0_29 h0_30 _ s0 v2 _ _ h) (cwV 1 hts gL_act_X7_numberOf rfl rfl rfl (by decide +kernel) ⟨Nat.le_of_ble_eq_true rfl, Nat.le_of_ble_eq_true rfl⟩) (pbj_V hP hK hD hN hX hFc hS (ci := 7) (q0 := 0) rfl rfl) rfl rfl hl.1 rfl (lv_room (Nat.le_of_ble_eq_true rfl)) dL_act_70 ⟨Nat.le_of_ble_eq_true rfl, Nat.le_of_ble_eq_true rfl⟩) hS (fun q _ h => hFc q h) hFc (fun q _ h => hFc q h) (fun E9 ce9 q9 u_85 t H locs ht hvm h hB hz1 hk1 hS hce hcv hcl => ?_) (fun r_86 u_85 t H locs ht hvm h hB hz1 hk1 hS => ?_)
          · have hE : True := trivial
            have hP := vaPk hP hk1
            obtain rfl := hB
            rcases h with ⟨rfl, h⟩ | ⟨rfl, h⟩ | ⟨rfl, h⟩
            · refine vx_catch (name := "java/lang/IndexOutOfBoundsException") hown [] _ _ he (fun z hz => (nomatch hz)) (by decide +kernel) (by decide +kernel) (hts (.classLink RL 59 "java/lang/IndexOutOfBoundsException") (by decide +kernel)) (va_Nw.use rfl (hX.2.2.2.1 "java/lang/IndexOutOfBoundsException" (by decide))) hce hcv hcl ?_
              refine lv_astore (lv' := [(5, .ref q9), (0, .ref h0), (1, .int v1), (2, .int v2), (3, .int v3), (4, .int v4)]) hx hb dL_act_225 hl (by decide) rfl (fun ls hl => ?_)
              refine lv_bipush (v := (-91 : Int32)) hx hb dL_act_227 (by decide) ?_
              refine vx_ret ?_
              refine W.widen (k := mc_L_act) (n := ms_L_act) (Nat.le_of_ble_eq_true rfl) (Nat.le_of_ble_eq_true rfl) ?_
              exact W.iret (v := (-91 : Int32)) hx hb hr (fun t ht hW => ⟨⟨(-91 : Int32), s0, rfl, h, ⟨h0_23, h0_24, h0_27, h0_28, by rw [ht]; exact hP, hD⟩⟩, hS.F ht⟩) hS.2.2 dL_act_229
            · refine vx_catch (name := "java/lang/IllegalArgumentException") hown [_] _ _ he (fun z hz => by rw [List.mem_singleton] at hz; subst hz; exact Or.inr ⟨by decide, "java/lang/IndexOutOfBoundsException", (hts (.classLink RL 59 "java/lang/IndexOutOfBoundsException") (by decide +kernel)), hC ("java/lang/IllegalArgumentException", "java/lang/IndexOutOfBoundsException") (by decide)⟩) (by decide +kernel) (by decide +kernel) (hts (.classLink RL 61 "java/lang/IllegalArgumentException") (by decide +kernel)) (va_Nw.use rfl (hX.2.2.2.1 "java/lang/IllegalArgumentException" (by decide))) hce hcv hcl ?_
              refine lv_astore (lv' := [(5, .ref q9), (0, .ref h0), (1, .int v1), (2, .int v2), (3, .int v3), (4, .int v4)]) hx hb dL_act_230 hl (by decide) rfl (fun ls hl => ?_)
              refine lv_bipush (v := (-92 : Int32)) hx hb dL_act_232 (by decide) ?_
              refine vx_ret ?_
              refine W.widen (k := mc_L_act) (n := ms_L_act) (Nat.le_of_ble_eq_true rfl) (Nat.le_of_ble_eq_true rfl) ?_
              exact W.iret (v := (-92 : Int32)) hx hb hr (fun t ht hW => ⟨⟨(-92 : Int32), s0, rfl, h, ⟨h0_23, h0_24, h0_27, h0_28, by rw [ht]; exact hP, hD⟩⟩, hS.F ht⟩) hS.2.2 dL_act_234
            · refine vx_catch (name := "java/lang/IllegalStateException") hown [_, _] _ _ he (fun z hz => (List.mem_cons.mp hz).elim (fun hz => by subst hz; exact Or.inr ⟨by decide, "java/lang/IndexOutOfBoundsException", (hts (.classLink RL 59 "java/lang/IndexOutOfBoundsException") (by decide +kernel)), hC ("java/lang/IllegalStateException", "java/lang/IndexOutOfBoundsException") (by decide)⟩) (fun hz => by rw [List.mem_singleton] at hz; subst hz; exact Or.inr ⟨by decide, "java/lang/IllegalArgumentException", (hts (.classLink RL 61 "java/lang/IllegalArgumentException") (by decide +kernel)), hC ("java/lang/IllegalStateException", "java/lang/IllegalArgumentException") (by decide)⟩)) (by decide +kernel) (by decide +kernel) (hts (.classLink RL 63 "java/lang/IllegalStateException") (by decide +kernel)) (va_Nw.use rfl (hX.2.2.2.1 "java/lang/IllegalStateException" (by decide))) hce hcv hcl ?_
              refine lv_astore (lv' := [(5, .ref q9), (0, .ref h0), (1, .int v1), (2, .int v2), (3, .int v3), (4, .int v4)]) hx hb dL_act_235 hl (by decide) rfl (fun ls hl => ?_)
              refine lv_bipush (v := (-93 : Int32)) hx hb dL_act_237 (by decide) ?_
              refine vx_ret ?_
              refine W.widen (k := mc_L_act) (n := ms_L_act) (Nat.le_of_ble_eq_true rfl) (Nat.le_of_ble_eq_true rfl) ?_
              exact W.iret (v := (-93 : Int32)) hx hb hr (fun t ht hW => ⟨⟨(-93 : Int32), s0, rfl, h, ⟨h0_23, h0_24, h0_27, h0_28, by rw [ht]; exact hP, hD⟩⟩, hS.F ht⟩) hS.2.2 dL_act_239
          · have hE : True := trivial
            have hP := vaPk hP hk1
            refine lv_goto (tgt := 224) hx hb dL_act_73 (by decide) ?_
            refine vx_ret ?_
            refine W.widen (k := mc_L_act) (n := ms_L_act) (Nat.le_of_ble_eq_true rfl) (Nat.le_of_ble_eq_true rfl) ?_
            exact W.iret (v := r_86) hx hb hr (fun t ht hW => ⟨⟨r_86, s0, rfl, h, ⟨h0_23, h0_24, h0_27, h0_28, by rw [ht]; exact hP, hD⟩⟩, hS.F ht⟩) hS.2.2 dL_act_224
      · have h := hf_ c_3
        refine lv_aload_n hx hb dL_act_52 rfl (lv_at hl 0 rfl) ?_
        refine lv_iload_n hx hb dL_act_53 rfl (lv_at hl 2 rfl) ?_
        refine lv_iload_n hx hb dL_act_54 rfl (lv_at hl 3 rfl) ?_
        refine lv_iload hx hb dL_act_55 (lv_at hl 4 rfl) ?_
        have hFc := fr0 hA hS
        refine vx_calli (vx_runV (As := [.int v2, .int v3, .int v4]) (rest := []) ⟨hx, hb, hml, hown, hts⟩ (c_X7_termAt l hst dC dI cI h0 h0_1 h0_2 h0_3 h0_4 h0_5 h0_6 h0_7 h0_8 h0_9 h0_10 h0_11 h0_12 h0_13 h0_14 h0_15 h0_16 h0_17 h0_18 h0_19 h0_20 h0_21 h0_22 h0_23 h0_24 h0_25 h0_26 h0_27 h0_28 h0_29 h0_30 _ s0 v2 v3 v4 _ _ h) (cwV 3 hts gL_act_X7_termAt rfl rfl rfl (by decide +kernel) ⟨Nat.le_of_ble_eq_true rfl, Nat.le_of_ble_eq_true rfl⟩) (pbj_V hP hK hD hN hX hFc hS (ci := 7) (q0 := 0) rfl rfl) rfl rfl hl.1 rfl (lv_room (Nat.le_of_ble_eq_true rfl)) dL_act_57 ⟨Nat.le_of_ble_eq_true rfl, Nat.le_of_ble_eq_true rfl⟩) hS (fun q _ h => hFc q h) hFc (fun q _ h => hFc q h) (fun E9 ce9 q9 u_87 t H locs ht hvm h hB hz1 hk1 hS hce hcv hcl => ?_) (fun r_88 u_87 t H locs ht hvm h hB hz1 hk1 hS => ?_)
        · have hE : True := trivial
          have hP := vaPk hP hk1
          obtain rfl := hB
          rcases h with ⟨rfl, h⟩ | ⟨rfl, h⟩ | ⟨rfl, h⟩
          · refine vx_catch (name := "java/lang/IndexOutOfBoundsException") hown [] _ _ he (fun z hz => (nomatch hz)) (by decide +kernel) (by decide +kernel) (hts (.classLink RL 59 "java/lang/IndexOutOfBoundsException") (by decide +kernel)) (va_Nw.use rfl (hX.2.2.2.1 "java/lang/IndexOutOfBoundsException" (by decide))) hce hcv hcl ?_
            refine lv_astore (lv' := [(5, .ref q9), (0, .ref h0), (1, .int v1), (2, .int v2), (3, .int v3), (4, .int v4)]) hx hb dL_act_225 hl (by decide) rfl (fun ls hl => ?_)
            refine lv_bipush (v := (-91 : Int32)) hx hb dL_act_227 (by decide) ?_
            refine vx_ret ?_
            refine W.widen (k := mc_L_act) (n := ms_L_act) (Nat.le_of_ble_eq_true rfl) (Nat.le_of_ble_eq_true rfl) ?_
            exact W.iret (v := (-91 : Int32)) hx hb hr (fun t ht hW => ⟨⟨(-91 : Int32), s0, rfl, h, ⟨h0_23, h0_24, h0_27, h0_28, by rw [ht]; exact hP, hD⟩⟩, hS.F ht⟩) hS.2.2 dL_act_229
          · refine vx_catch (name := "java/lang/IllegalArgumentException") hown [_] _ _ he (fun z hz => by rw [List.mem_singleton] at hz; subst hz; exact Or.inr ⟨by decide, "java/lang/IndexOutOfBoundsException", (hts (.classLink RL 59 "java/lang/IndexOutOfBoundsException") (by decide +kernel)), hC ("java/lang/IllegalArgumentException", "java/lang/IndexOutOfBoundsException") (by decide)⟩) (by decide +kernel) (by decide +kernel) (hts (.classLink RL 61 "java/lang/IllegalArgumentException") (by decide +kernel)) (va_Nw.use rfl (hX.2.2.2.1 "java/lang/IllegalArgumentException" (by decide))) hce hcv hcl ?_
            refine lv_astore (lv' := [(5, .ref q9), (0, .ref h0), (1, .int v1), (2, .int v2), (3, .int v3), (4, .int v4)]) hx hb dL_act_230 hl (by decide) rfl (fun ls hl => ?_)
            refine lv_bipush (v := (-92 : Int32)) hx hb dL_act_232 (by decide) ?_
            refine vx_ret ?_
            refine W.widen (k := mc_L_act) (n := ms_L_act) (Nat.le_of_ble_eq_true rfl) (Nat.le_of_ble_eq_true rfl) ?_
            exact W.iret (v := (-92 : Int32)) hx hb hr (fun t ht hW => ⟨⟨(-92 : Int32), s0, rfl, h, ⟨h0_23, h0_24, h0_27, h0_28, by rw [ht]; exact hP, hD⟩⟩, hS.F ht⟩) hS.2.2 dL_act_234
          · refine vx_catch (name := "java/lang/IllegalStateException") hown [_, _] _ _ he (fun z hz => (List.mem_cons.mp hz).elim (fun hz => by subst hz; exact Or.inr ⟨by decide, "java/lang/IndexOutOfBoundsException", (hts (.classLink RL 59 "java/lang/IndexOutOfBoundsException") (by decide +kernel)), hC ("java/lang/IllegalStateException", "java/lang/IndexOutOfBoundsException") (by decide)⟩) (fun hz => by rw [List.mem_singleton] at hz; subst hz; exact Or.inr ⟨by decide, "java/lang/IllegalArgumentException", (hts (.classLink RL 61 "java/lang/IllegalArgumentException") (by decide +kernel)), hC ("java/lang/IllegalStateException", "java/lang/IllegalArgumentException") (by decide)⟩)) (by decide +kernel) (by decide +kernel) (hts (.classLink RL 63 "java/lang/IllegalStateException") (by decide +kernel)) (va_Nw.use rfl (hX.2.2.2.1 "java/lang/IllegalStateException" (by decide))) hce hcv hcl ?_
            refine lv_astore (lv' := [(5, .ref q9), (0, .ref h0), (1, .int v1), (2, .int v2), (3, .int v3), (4, .int v4)]) hx hb dL_act_235 hl (by decide) rfl (fun ls hl => ?_)
            refine lv_bipush (v := (-93 : Int32)) hx hb dL_act_237 (by decide) ?_
            refine vx_ret ?_
            refine W.widen (k := mc_L_act) (n := ms_L_act) (Nat.le_of_ble_eq_true rfl) (Nat.le_of_ble_eq_true rfl) ?_
            exact W.iret (v := (-93 : Int32)) hx hb hr (fun t ht hW => ⟨⟨(-93 : Int32), s0, rfl, h, ⟨h0_23, h0_24, h0_27, h0_28, by rw [ht]; exact hP, hD⟩⟩, hS.F ht⟩) hS.2.2 dL_act_239
        · have hE : True := trivial
          have hP := vaPk hP hk1
          refine lv_goto (tgt := 224) hx hb dL_act_60 (by decide) ?_
          refine vx_ret ?_
          refine W.widen (k := mc_L_act) (n := ms_L_act) (Nat.le_of_ble_eq_true rfl) (Nat.le_of_ble_eq_true rfl) ?_
          exact W.iret (v := r_88) hx hb hr (fun t ht hW => ⟨⟨r_88, s0, rfl, h, ⟨h0_23, h0_24, h0_27, h0_28, by rw [ht]; exact hP, hD⟩⟩, hS.F ht⟩) hS.2.2 dL_act_224
    · have h := hf_ c_2
      refine lv_aload_n hx hb dL_act_28 rfl (lv_at hl 0 rfl) ?_
      refine lv_iload_n hx hb dL_act_29 rfl (lv_at hl 2 rfl) ?_
      refine lv_iload_n hx hb dL_act_30 rfl (lv_at hl 3 rfl) ?_
      refine lv_iload hx hb dL_act_31 (lv_at hl 4 rfl) ?_
      have hFc := frw hD hS hA
      refine vx_calli (vx_runV (As := [.int v2, .int v3, .int v4]) (rest := []) ⟨hx, hb, hml, hown, hts⟩ (c_X7_takeBack l hst dC dI cI h0 h0_1 h0_2 h0_3 h0_4 h0_5 h0_6 h0_7 h0_8 h0_9 h0_10 h0_11 h0_12 h0_13 h0_14 h0_15 h0_16 h0_17 h0_18 h0_19 h0_20 h0_21 h0_22 h0_23 h0_24 h0_25 h0_26 h0_27 h0_28 h0_29 h0_30 _ s0 v2 v3 v4 _ _ h) (cwV 3 hts gL_act_X7_takeBack rfl rfl rfl (by decide +kernel) ⟨Nat.le_of_ble_eq_true rfl, Nat.le_of_ble_eq_true rfl⟩) (pbj_V hP hK hD hN hX hFc hS (ci := 7) (q0 := 0) rfl rfl) rfl rfl hl.1 rfl (lv_room (Nat.le_of_ble_eq_true rfl)) dL_act_33 ⟨Nat.le_of_ble_eq_true rfl, Nat.le_of_ble_eq_true rfl⟩) hS (fun q _ h => hFc q h) hFc (fun q _ h => hFc q h) (fun E9 ce9 q9 u_89 t H locs ht hvm h hB hz1 hk1 hS hce hcv hcl => ?_) (fun r_90 u_89 t H locs ht hvm h hB hz1 hk1 hS => ?_)
      · have hE : True := trivial
        obtain ⟨u_89k, u_89u⟩ := u_89
        obtain ⟨hE9, hB⟩ := hB
        obtain rfl := hE9
        obtain ⟨m_91, m_92, m_93, m_94, hP1, hD1⟩ := hB
        rw [ht] at hP1
        have hP : va_P (dC, dI) vwCl (lwO cI h0 h0_1 h0_2 h0_3 h0_4 h0_5 h0_6 h0_7 h0_8 h0_9 h0_10 h0_11 h0_12 h0_13 h0_14 h0_15 h0_16 h0_17 h0_18 h0_19 h0_20 h0_21 h0_22 m_91 m_92 h0_25 h0_26 m_93 m_94 h0_29 h0_30 u_89u) H := hP1
        have hD : va_D A (lwO cI h0 h0_1 h0_2 h0_3 h0_4 h0_5 h0_6 h0_7 h0_8 h0_9 h0_10 h0_11 h0_12 h0_13 h0_14 h0_15 h0_16 h0_17 h0_18 h0_19 h0_20 h0_21 h0_22 m_91 m_92 h0_25 h0_26 m_93 m_94 h0_29 h0_30 u_89u) := hD1.weaken (fun _ _ _ h => hFc _ h)
        rcases h with ⟨rfl, h⟩ | ⟨rfl, h⟩ | ⟨rfl, h⟩
        · refine vx_catch (name := "java/lang/IndexOutOfBoundsException") hown [] _ _ he (fun z hz => (nomatch hz)) (by decide +kernel) (by decide +kernel) (hts (.classLink RL 59 "java/lang/IndexOutOfBoundsException") (by decide +kernel)) (va_Nw.use rfl (hX.2.2.2.1 "java/lang/IndexOutOfBoundsException" (by decide))) hce hcv hcl ?_
          refine lv_astore (lv' := [(5, .ref q9), (0, .ref h0), (1, .int v1), (2, .int v2), (3, .int v3), (4, .int v4)]) hx hb dL_act_225 hl (by decide) rfl (fun ls hl => ?_)
          refine lv_bipush (v := (-91 : Int32)) hx hb dL_act_227 (by decide) ?_
          refine vx_ret ?_
          refine W.widen (k := mc_L_act) (n := ms_L_act) (Nat.le_of_ble_eq_true rfl) (Nat.le_of_ble_eq_true rfl) ?_
          exact W.iret (v := (-91 : Int32)) hx hb hr (fun t ht hW => ⟨⟨(-91 : Int32), u_89u, rfl, h, ⟨m_91, m_92, m_93, m_94, by rw [ht]; exact hP, hD⟩⟩, hS.F ht⟩) hS.2.2 dL_act_229
        · refine vx_catch (name := "java/lang/IllegalArgumentException") hown [_] _ _ he (fun z hz => by rw [List.mem_singleton] at hz; subst hz; exact Or.inr ⟨by decide, "java/lang/IndexOutOfBoundsException", (hts (.classLink RL 59 "java/lang/IndexOutOfBoundsException") (by decide +kernel)), hC ("java/lang/IllegalArgumentException", "java/lang/IndexOutOfBoundsException") (by decide)⟩) (by decide +kernel) (by decide +kernel) (hts (.classLink RL 61 "java/lang/IllegalArgumentException") (by decide +kernel)) (va_Nw.use rfl (hX.2.2.2.1 "java/lang/IllegalArgumentException" (by decide))) hce hcv hcl ?_
          refine lv_astore (lv' := [(5, .ref q9), (0, .ref h0), (1, .int v1), (2, .int v2), (3, .int v3), (4, .int v4)]) hx hb dL_act_230 hl (by decide) rfl (fun ls hl => ?_)
          refine lv_bipush (v := (-92 : Int32)) hx hb dL_act_232 (by decide) ?_
          refine vx_ret ?_
          refine W.widen (k := mc_L_act) (n := ms_L_act) (Nat.le_of_ble_eq_true rfl) (Nat.le_of_ble_eq_true rfl) ?_
          exact W.iret (v := (-92 : Int32)) hx hb hr (fun t ht hW => ⟨⟨(-92 : Int32), u_89u, rfl, h, ⟨m_91, m_92, m_93, m_94, by rw [ht]; exact hP, hD⟩⟩, hS.F ht⟩) hS.2.2 dL_act_234
        · refine vx_catch (name := "java/lang/IllegalStateException") hown [_, _] _ _ he (fun z hz => (List.mem_cons.mp hz).elim (fun hz => by subst hz; exact Or.inr ⟨by decide, "java/lang/IndexOutOfBoundsException", (hts (.classLink RL 59 "java/lang/IndexOutOfBoundsException") (by decide +kernel)), hC ("java/lang/IllegalStateException", "java/lang/IndexOutOfBoundsException") (by decide)⟩) (fun hz => by rw [List.mem_singleton] at hz; subst hz; exact Or.inr ⟨by decide, "java/lang/IllegalArgumentException", (hts (.classLink RL 61 "java/lang/IllegalArgumentException") (by decide +kernel)), hC ("java/lang/IllegalStateException", "java/lang/IllegalArgumentException") (by decide)⟩)) (by decide +kernel) (by decide +kernel) (hts (.classLink RL 63 "java/lang/IllegalStateException") (by decide +kernel)) (va_Nw.use rfl (hX.2.2.2.1 "java/lang/IllegalStateException" (by decide))) hce hcv hcl ?_
          refine lv_astore (lv' := [(5, .ref q9), (0, .ref h0), (1, .int v1), (2, .int v2), (3, .int v3), (4, .int v4)]) hx hb dL_act_235 hl (by decide) rfl (fun ls hl => ?_)
          refine lv_bipush (v := (-93 : Int32)) hx hb dL_act_237 (by decide) ?_
          refine vx_ret ?_
          refine W.widen (k := mc_L_act) (n := ms_L_act) (Nat.le_of_ble_eq_true rfl) (Nat.le_of_ble_eq_true rfl) ?_
          exact W.iret (v := (-93 : Int32)) hx hb hr (fun t ht hW => ⟨⟨(-93 : Int32), u_89u, rfl, h, ⟨m_91, m_92, m_93, m_94, by rw [ht]; exact hP, hD⟩⟩, hS.F ht⟩) hS.2.2 dL_act_239
      · have hE : True := trivial
        obtain ⟨m_95, m_96, m_97, m_98, hP1, hD1⟩ := hB
        rw [ht] at hP1
        have hP : va_P (dC, dI) vwCl (lwO cI h0 h0_1 h0_2 h0_3 h0_4 h0_5 h0_6 h0_7 h0_8 h0_9 h0_10 h0_11 h0_12 h0_13 h0_14 h0_15 h0_16 h0_17 h0_18 h0_19 h0_20 h0_21 h0_22 m_95 m_96 h0_25 h0_26 m_97 m_98 h0_29 h0_30 u_89) H := hP1
        have hD : va_D A (lwO cI h0 h0_1 h0_2 h0_3 h0_4 h0_5 h0_6 h0_7 h0_8 h0_9 h0_10 h0_11 h0_12 h0_13 h0_14 h0_15 h0_16 h0_17 h0_18 h0_19 h0_20 h0_21 h0_22 m_95 m_96 h0_25 h0_26 m_97 m_98 h0_29 h0_30 u_89) := hD1.weaken (fun _ _ _ h => hFc _ h)
        obtain ⟨ht_, hf_⟩ := h
        refine lv_if_eq (tgt := 43) hx hb dL_act_36 (by decide) (fun c_99 => ?_) (fun c_99 => ?_)
        · have h := ht_ c_99
          refine lv_iconst (v := (0 : Int32)) hx hb dL_act_43 (by decide) ?_
          refine lv_goto (tgt := 224) hx hb dL_act_44 (by decide) ?_
          refine vx_ret ?_
          refine W.widen (k := mc_L_act) (n := ms_L_act) (Nat.le_of_ble_eq_true rfl) (Nat.le_of_ble_eq_true rfl) ?_
          exact W.iret (v := (0 : Int32)) hx hb hr (fun t ht hW => ⟨⟨(0 : Int32), u_89, rfl, h, ⟨m_95, m_96, m_97, m_98, by rw [ht]; exact hP, hD⟩⟩, hS.F ht⟩) hS.2.2 dL_act_224
        · have h := hf_ c_99
          refine lv_iconst (v := (1 : Int32)) hx hb dL_act_39 (by decide) ?_
          refine lv_goto (tgt := 224) hx hb dL_act_40 (by decide) ?_
          refine vx_ret ?_
          refine W.widen (k := mc_L_act) (n := ms_L_act) (Nat.le_of_ble_eq_true rfl) (Nat.le_of_ble_eq_true rfl) ?_
          exact W.iret (v := (1 : Int32)) hx hb hr (fun t ht hW => ⟨⟨(1 : Int32), u_89, rfl, h, ⟨m_95, m_96, m_97, m_98, by rw [ht]; exact hP, hD⟩⟩, hS.F ht⟩) hS.2.2 dL_act_224
  · have h := hf_ c_1
    refine lv_aload_n hx hb dL_act_4 rfl (lv_at hl 0 rfl) ?_
    refine lv_iload_n hx hb dL_act_5 rfl (lv_at hl 2 rfl) ?_
    refine lv_iload_n hx hb dL_act_6 rfl (lv_at hl 3 rfl) ?_
    refine lv_iload hx hb dL_act_7 (lv_at hl 4 rfl) ?_
    have hFc := frw hD hS hA
    refine vx_calli (vx_runV (As := [.int v2, .int v3, .int v4]) (rest := []) ⟨hx, hb, hml, hown, hts⟩ (c_X7_state l hst dC dI cI h0 h0_1 h0_2 h0_3 h0_4 h0_5 h0_6 h0_7 h0_8 h0_9 h0_10 h0_11 h0_12 h0_13 h0_14 h0_15 h0_16 h0_17 h0_18 h0_19 h0_20 h0_21 h0_22 h0_23 h0_24 h0_25 h0_26 h0_27 h0_28 h0_29 h0_30 _ s0 v2 v3 v4 _ _ h) (cwV 3 hts gL_act_X7_state rfl rfl rfl (by decide +kernel) ⟨Nat.le_of_ble_eq_true rfl, Nat.le_of_ble_eq_true rfl⟩) (pbj_V hP hK hD hN hX hFc hS (ci := 7) (q0 := 0) rfl rfl) rfl rfl hl.1 rfl (lv_room (Nat.le_of_ble_eq_true rfl)) dL_act_9 ⟨Nat.le_of_ble_eq_true rfl, Nat.le_of_ble_eq_true rfl⟩) hS (fun q _ h => hFc q h) hFc (fun q _ h => hFc q h) (fun E9 ce9 q9 u_100 t H locs ht hvm h hB hz1 hk1 hS hce hcv hcl => ?_) (fun r_101 u_100 t H locs ht hvm h hB hz1 hk1 hS => ?_)
    · have hE : True := trivial
      obtain ⟨u_100k, u_100u⟩ := u_100
      obtain ⟨hE9, hB⟩ := hB
      obtain rfl := hE9
      obtain ⟨m_102, m_103, m_104, m_105, hP1, hD1⟩ := hB
      rw [ht] at hP1
      have hP : va_P (dC, dI) vwCl (lwO cI h0 h0_1 h0_2 h0_3 h0_4 h0_5 h0_6 h0_7 h0_8 h0_9 h0_10 h0_11 h0_12 h0_13 h0_14 h0_15 h0_16 h0_17 h0_18 h0_19 h0_20 h0_21 h0_22 m_102 m_103 h0_25 h0_26 m_104 m_105 h0_29 h0_30 u_100u) H := hP1
      have hD : va_D A (lwO cI h0 h0_1 h0_2 h0_3 h0_4 h0_5 h0_6 h0_7 h0_8 h0_9 h0_10 h0_11 h0_12 h0_13 h0_14 h0_15 h0_16 h0_17 h0_18 h0_19 h0_20 h0_21 h0_22 m_102 m_103 h0_25 h0_26 m_104 m_105 h0_29 h0_30 u_100u) := hD1.weaken (fun _ _ _ h => hFc _ h)
      rcases h with ⟨rfl, h⟩ | ⟨rfl, h⟩ | ⟨rfl, h⟩
      · refine vx_catch (name := "java/lang/IndexOutOfBoundsException") hown [] _ _ he (fun z hz => (nomatch hz)) (by decide +kernel) (by decide +kernel) (hts (.classLink RL 59 "java/lang/IndexOutOfBoundsException") (by decide +kernel)) (va_Nw.use rfl (hX.2.2.2.1 "java/lang/IndexOutOfBoundsException" (by decide))) hce hcv hcl ?_
        refine lv_astore (lv' := [(5, .ref q9), (0, .ref h0), (1, .int v1), (2, .int v2), (3, .int v3), (4, .int v4)]) hx hb dL_act_225 hl (by decide) rfl (fun ls hl => ?_)
        refine lv_bipush (v := (-91 : Int32)) hx hb dL_act_227 (by decide) ?_
        refine vx_ret ?_
        refine W.widen (k := mc_L_act) (n := ms_L_act) (Nat.le_of_ble_eq_true rfl) (Nat.le_of_ble_eq_true rfl) ?_
        exact W.iret (v := (-91 : Int32)) hx hb hr (fun t ht hW => ⟨⟨(-91 : Int32), u_100u, rfl, h, ⟨m_102, m_103, m_104, m_105, by rw [ht]; exact hP, hD⟩⟩, hS.F ht⟩) hS.2.2 dL_act_229
      · refine vx_catch (name := "java/lang/IllegalArgumentException") hown [_] _ _ he (fun z hz => by rw [List.mem_singleton] at hz; subst hz; exact Or.inr ⟨by decide, "java/lang/IndexOutOfBoundsException", (hts (.classLink RL 59 "java/lang/IndexOutOfBoundsException") (by decide +kernel)), hC ("java/lang/IllegalArgumentException", "java/lang/IndexOutOfBoundsException") (by decide)⟩) (by decide +kernel) (by decide +kernel) (hts (.classLink RL 61 "java/lang/IllegalArgumentException") (by decide +kernel)) (va_Nw.use rfl (hX.2.2.2.1 "java/lang/IllegalArgumentException" (by decide))) hce hcv hcl ?_
        refine lv_astore (lv' := [(5, .ref q9), (0, .ref h0), (1, .int v1), (2, .int v2), (3, .int v3), (4, .int v4)]) hx hb dL_act_230 hl (by decide) rfl (fun ls hl => ?_)
        refine lv_bipush (v := (-92 : Int32)) hx hb dL_act_232 (by decide) ?_
        refine vx_ret ?_
        refine W.widen (k := mc_L_act) (n := ms_L_act) (Nat.le_of_ble_eq_true rfl) (Nat.le_of_ble_eq_true rfl) ?_
        exact W.iret (v := (-92 : Int32)) hx hb hr (fun t ht hW => ⟨⟨(-92 : Int32), u_100u, rfl, h, ⟨m_102, m_103, m_104, m_105, by rw [ht]; exact hP, hD⟩⟩, hS.F ht⟩) hS.2.2 dL_act_234
      · refine vx_catch (name := "java/lang/IllegalStateException") hown [_, _] _ _ he (fun z hz => (List.mem_cons.mp hz).elim (fun hz => by subst hz; exact Or.inr ⟨by decide, "java/lang/IndexOutOfBoundsException", (hts (.classLink RL 59 "java/lang/IndexOutOfBoundsException") (by decide +kernel)), hC ("java/lang/IllegalStateException", "java/lang/IndexOutOfBoundsException") (by decide)⟩) (fun hz => by rw [List.mem_singleton] at hz; subst hz; exact Or.inr ⟨by decide, "java/lang/IllegalArgumentException", (hts (.classLink RL 61 "java/lang/IllegalArgumentException") (by decide +kernel)), hC ("java/lang/IllegalStateException", "java/lang/IllegalArgumentException") (by decide)⟩)) (by decide +kernel) (by decide +kernel) (hts (.classLink RL 63 "java/lang/IllegalStateException") (by decide +kernel)) (va_Nw.use rfl (hX.2.2.2.1 "java/lang/IllegalStateException" (by decide))) hce hcv hcl ?_
        refine lv_astore (lv' := [(5, .ref q9), (0, .ref h0), (1, .int v1), (2, .int v2), (3, .int v3), (4, .int v4)]) hx hb dL_act_235 hl (by decide) rfl (fun ls hl => ?_)
        refine lv_bipush (v := (-93 : Int32)) hx hb dL_act_237 (by decide) ?_
        refine vx_ret ?_
        refine W.widen (k := mc_L_act) (n := ms_L_act) (Nat.le_of_ble_eq_true rfl) (Nat.le_of_ble_eq_true rfl) ?_
        exact W.iret (v := (-93 : Int32)) hx hb hr (fun t ht hW => ⟨⟨(-93 : Int32), u_100u, rfl, h, ⟨m_102, m_103, m_104, m_105, by rw [ht]; exact hP, hD⟩⟩, hS.F ht⟩) hS.2.2 dL_act_239
    · have hE : True := trivial
      obtain ⟨m_106, m_107, m_108, m_109, hP1, hD1⟩ := hB
      rw [ht] at hP1
      have hP : va_P (dC, dI) vwCl (lwO cI h0 h0_1 h0_2 h0_3 h0_4 h0_5 h0_6 h0_7 h0_8 h0_9 h0_10 h0_11 h0_12 h0_13 h0_14 h0_15 h0_16 h0_17 h0_18 h0_19 h0_20 h0_21 h0_22 m_106 m_107 h0_25 h0_26 m_108 m_109 h0_29 h0_30 u_100) H := hP1
      have hD : va_D A (lwO cI h0 h0_1 h0_2 h0_3 h0_4 h0_5 h0_6 h0_7 h0_8 h0_9 h0_10 h0_11 h0_12 h0_13 h0_14 h0_15 h0_16 h0_17 h0_18 h0_19 h0_20 h0_21 h0_22 m_106 m_107 h0_25 h0_26 m_108 m_109 h0_29 h0_30 u_100) := hD1.weaken (fun _ _ _ h => hFc _ h)
      obtain ⟨ht_, hf_⟩ := h
      refine lv_if_eq (tgt := 19) hx hb dL_act_12 (by decide) (fun c_110 => ?_) (fun c_110 => ?_)
      · have h := ht_ c_110
        refine lv_iconst (v := (0 : Int32)) hx hb dL_act_19 (by decide) ?_
        refine lv_goto (tgt := 224) hx hb dL_act_20 (by decide) ?_
        refine vx_ret ?_
        refine W.widen (k := mc_L_act) (n := ms_L_act) (Nat.le_of_ble_eq_true rfl) (Nat.le_of_ble_eq_true rfl) ?_
        exact W.iret (v := (0 : Int32)) hx hb hr (fun t ht hW => ⟨⟨(0 : Int32), u_100, rfl, h, ⟨m_106, m_107, m_108, m_109, by rw [ht]; exact hP, hD⟩⟩, hS.F ht⟩) hS.2.2 dL_act_224
      · have h := hf_ c_110
        refine lv_iconst (v := (1 : Int32)) hx hb dL_act_15 (by decide) ?_
        refine lv_goto (tgt := 224) hx hb dL_act_16 (by decide) ?_
        refine vx_ret ?_
        refine W.widen (k := mc_L_act) (n := ms_L_act) (Nat.le_of_ble_eq_true rfl) (Nat.le_of_ble_eq_true rfl) ?_
        exact W.iret (v := (1 : Int32)) hx hb hr (fun t ht hW => ⟨⟨(1 : Int32), u_100, rfl, h, ⟨m_106, m_107, m_108, m_109, by rw [ht]; exact hP, hD⟩⟩, hS.F ht⟩) hS.2.2 dL_act_224
