/-! PURE SIDE 18: going by variables, the walk -/
noncomputable def mayB (T M : List Nat) (Q : List Pt3) (V w v n : Nat) : Bool := @decide (may T M Q V w v n) (Classical.propDecidable _)
theorem mayB_iff {T M : List Nat} {Q : List Pt3} {V w v n : Nat} : mayB T M Q V w v n = true ↔ may T M Q V w v n := by
  unfold mayB
  exact @decide_eq_true_iff _ (Classical.propDecidable _)
theorem S_numbersAside {U : List Nat} {mk sd : TabS} {ov : Bool} {v : Nat} {post : Int64 → Prop} (hsd : tb 60 U [] ov sd) (hU : ∀ u ∈ U, u < 16777216) (hv : v < 4) (h : ∀ a : Int64, (∀ n, n < 64 → (bt a n = true ↔ ∃ y, y ∈ U ∧ cell y v = n)) → post a) : P_X1_numbersAside (mk, sd) (nI v) post := by
  have hUn : U.length ≤ 60 := hsd.2.1
  have hss : sd.size = nI U.length := hsd.1.1
  refine wl (fun w => ∃ i a, w = (a, nI i) ∧ i ≤ U.length ∧ ∀ n, n < 64 → (bt a n = true ↔ ∃ y, y ∈ U.take i ∧ cell y v = n)) (fun w => 60 - w.2.toNatClampNeg) ⟨0, 0, rfl, by omega, fun n _ => ⟨fun e => (by rw [bt_0] at e; cases e), fun ⟨y, hy, _⟩ => (by simp at hy)⟩⟩ ?_
  rintro w ⟨i, a, rfl, hi, ha⟩ K hK
  refine ⟨fun c => ?_, fun c => ?_⟩
  · have c : sd.size ≤ nI i := c
    rw [hss] at c
    have : U.length ≤ i := (nI_leI (by omega) (by omega)).mp c
    have e : i = U.length := by omega
    subst e
    rw [List.take_length] at ha
    exact h a ha
  · have hlt : i < U.length := by
      rcases Nat.lt_or_ge i U.length with z | z
      · exact z
      · exact absurd (show sd.size ≤ nI i by rw [hss]; exact n_le z (by omega)) c
    have hul := hU _ (List.getElem_mem hlt)
    refine S_row (by omega) hsd hlt (S_cellOf (by omega) (by omega) ?_)
    show K (a ||| ((1 : Int64) <<< ((nI (cell U[i] v)).toInt64 &&& 63)), nI i + (1 : Int32))
    rw [nI_1]
    refine hK _ ⟨i + 1, _, rfl, by omega, fun n hn => ?_⟩ ?_
    · rw [bt_or, bt_one (cell_lt _ _) hn, Bool.or_eq_true, decide_eq_true_iff, ha n hn, take_s hlt]
      constructor
      · rintro (⟨y, h1, h2⟩ | e)
        · exact ⟨y, List.mem_append_left _ h1, h2⟩
        · exact ⟨U[i], List.mem_append_right _ (List.mem_singleton.mpr rfl), e.symm⟩
      · rintro ⟨y, h1, h2⟩
        rcases List.mem_append.mp h1 with h1 | h1
        · exact Or.inl ⟨y, h1, h2⟩
        · rw [List.mem_singleton.mp h1] at h2
          exact Or.inr h2.symm
    · show 60 - (nI (i + 1)).toNatClampNeg < 60 - (nI i).toNatClampNeg
      rw [n_cl (by omega), n_cl (by omega)]; omega
theorem exts_s (al : Nat → Bool) (w v n : Nat) : exts al w v (n + 1) = exts al w v n ++ (if al n then [wth w v n] else []) := by
  unfold exts
  rw [List.range_succ, List.filter_append, List.map_append]
  congr 1
  cases h : al n with
  | false => rw [List.filter_cons_of_neg (by rw [h]; decide)]; rfl
  | true => rw [List.filter_cons_of_pos h]; rfl
theorem S_addEach {R N D : List Nat} {t sd : TabS} {ov : Bool} {V w v : Nat} {al : Int64} {post : JoiS → Prop} (ht : tb 3600 R N ov t) (hf : fil 3600 D N ov) (hw : rowOK V w) (hv : v < 4) (hb : V.testBit v = false) (h : ∀ N' ov' t', tb 3600 R N' ov' t' → fil 3600 (D ++ exts (bt al) w v 40) N' ov' → post (t', sd)) : P_X1_addEach (t, sd) (nI w) (nI v) al post := by
  have h0 := hw.2.2 v hv hb
  refine wl (fun z => ∃ n N' ov' t', z = (nI n, (t', sd)) ∧ n ≤ 40 ∧ tb 3600 R N' ov' t' ∧ fil 3600 (D ++ exts (bt al) w v n) N' ov') (fun z => 40 - z.1.toNatClampNeg) ⟨0, N, ov, t, rfl, by omega, ht, by simpa [exts] using hf⟩ ?_
  rintro z ⟨n, N', ov', t', rfl, hn, ht', hf'⟩ K hK
  refine ⟨fun c => ?_, fun c => ?_⟩
  · have : 40 ≤ n := (nI_leI (a := 40) (by omega) (by omega)).mp c
    have e : n = 40 := by omega
    subst e
    exact h N' ov' t' ht' hf'
  · have hlt : n < 40 := by
      rcases Nat.lt_or_ge n 40 with z | z
      · exact z
      · exact absurd (n_le z (by omega)) c
    have go : ∀ N2 ov2 t2, tb 3600 R N2 ov2 t2 → fil 3600 (D ++ exts (bt al) w v (n + 1)) N2 ov2 → K (nI n + (1 : Int32), (t2, sd)) := by
      intro N2 ov2 t2 h1 h2
      rw [nI_1]
      refine hK _ ⟨n + 1, N2, ov2, t2, rfl, by omega, h1, h2⟩ ?_
      show 40 - (nI (n + 1)).toNatClampNeg < 40 - (nI n).toNatClampNeg
      rw [n_cl (by omega), n_cl (by omega)]; omega
    refine ⟨fun d => go N' ov' t' ht' ?_, fun d => ?_⟩
    · rw [exts_s, (bt_get (by omega)).mp d]
      simpa using hf'
    · have hbn : bt al n = true := by
        cases hz : bt al n
        · exact absurd ((bt_get (by omega)).mpr hz) d
        · rfl
      refine S_cellShift (by omega) ?_
      show P_X6_add 3600 t' (nI w ||| (nI n <<< (nI (6 * (3 - v)) &&& 31))) _
      rw [q_row hv (by omega) h0]
      refine S_fadd (by omega) ht' hf' (fun N2 ov2 t2 h1 h2 => go N2 ov2 t2 h1 ?_)
      rw [exts_s, hbn, if_pos rfl, ← List.append_assoc]
      exact h2
theorem S_takeVariable {T M : List Nat} {s : StoS} {Q : List Pt3} {q : QueS} {V v : Nat} {R : List Nat} {ov : Bool} {t sd : TabS} {post : JoiS → Prop} (hT : T.length ≤ 40) (hs : stoOK M s) (hq : lookOK T M Q q) (hv : v < 4) (hb : V.testBit v = false) (hV : V < 16) (ht : tb 3600 R [] ov t) (hrows : ov = false → ∀ w ∈ R, rowOK V w) (h1 : ov = true → ∀ N t' sd', tb 3600 N [] true t' → post (t', sd')) (h0 : ov = false → ∀ N ov' t' sd', tb 3600 N [] ov' t' → fil 3600 (R.flatMap (fun w => exts (mayB T M Q V w v) w v 40)) N ov' → post (t', sd')) : P_X1_takeVariable (t, sd) q s (nI V) (nI v) post := by
  have hq' := hq
  obtain ⟨⟨z1, z2, z3⟩, z4⟩ := hq'
  have hX := que_okX hq.1
  have hRn : R.length ≤ 3600 := ht.2.1
  cases ov with
  | true =>
    have hend : P_X1_takeVariable_j117 (t, sd) q s post := S_turn ht (fun t' ht' => h1 rfl [] t' sd ht')
    refine wl (fun w => w = ((0 : Int32), (t, sd))) (fun _ => 0) rfl ?_
    rintro w rfl K hK
    exact ⟨fun _ => hend, fun _ => S_isOver ht ⟨fun _ => hend, fun e => absurd e (by decide)⟩⟩
  | false =>
    have hrows := hrows rfl
    have fin : ∀ N ov' t' sd', tb 3600 R N ov' t' → fil 3600 (R.flatMap (fun w => exts (mayB T M Q V w v) w v 40)) N ov' → P_X1_takeVariable_j117 (t', sd') q s post := fun N ov' t' sd' g1 g2 => S_turn g1 (fun t2 g3 => h0 rfl N ov' t2 sd' g3 g2)
    refine wl (fun w => ∃ n N ov' t' sd', w = (nI n, (t', sd')) ∧ n ≤ R.length ∧ tb 3600 R N ov' t' ∧ fil 3600 ((R.take n).flatMap (fun w => exts (mayB T M Q V w v) w v 40)) N ov') (fun w => 3600 - w.1.toNatClampNeg) ⟨0, [], false, t, sd, rfl, by omega, ht, fil_nil _⟩ ?_
    rintro w ⟨n, N, ov', t', sd', rfl, hnl, ht', hf'⟩ K1 hK1
    have hsz : t'.size = nI R.length := ht'.1.1
    refine ⟨fun c => ?_, fun c => ?_⟩
    · have c : t'.size ≤ nI n := c
      rw [hsz] at c
      have : R.length ≤ n := (nI_leI (by omega) (by omega)).mp c
      have e : n = R.length := by omega
      subst e
      rw [List.take_length] at hf'
      exact fin N ov' t' sd' ht' hf'
    · have hlt : n < R.length := by
        rcases Nat.lt_or_ge n R.length with z | z
        · exact z
        · exact absurd (show t'.size ≤ nI n by rw [hsz]; exact n_le z (by omega)) c
      refine S_isOver ht' ⟨fun c2 => ?_, fun c2 => ?_⟩
      · have e : ov' = true := by cases ov' <;> first | rfl | exact absurd rfl c2
        subst e
        refine fin N true t' sd' ht' ?_
        rw [← take_fm_all n]
        exact fil_more hf'
      · refine S_row (by omega) ht' hlt ?_
        have hr := hrows _ (List.getElem_mem hlt)
        have htk := take_fm (f := fun w => exts (mayB T M Q V w v) w v 40) hlt
        generalize R[n] = r at *
        refine wl (fun w => ∃ i al sd2, w = (al, nI i, (t', sd2)) ∧ i ≤ Q.length ∧ ∀ k, k < 64 → (bt al k = true ↔ ∀ (m : Nat) (hm : m < Q.length), m < i → hasV Q[m] v → ∃ y, y ∈ cand T M Q[m] V r ∧ cell y v = k)) (fun w => 3 - w.2.1.toNatClampNeg) ⟨0, (-1 : Int64), sd', rfl, by omega, fun k hk => ⟨fun _ m _ hm => by omega, fun _ => bt_all k hk⟩⟩ ?_
        rintro w ⟨i, al, sd2, rfl, hi, hal⟩ K2 hK2
        refine ⟨fun d => ?_, fun d => ?_⟩
        · have d : q.size ≤ nI i := d
          rw [z2] at d
          have := (nI_leI (by omega) (by omega)).mp d
          have e : i = Q.length := by omega
          subst e
          have ee : exts (bt al) r v 40 = exts (mayB T M Q V r v) r v 40 := by
            unfold exts
            congr 1
            refine List.filter_congr (fun k hk => ?_)
            have hk := List.mem_range.mp hk
            rw [Bool.eq_iff_iff, hal k (by omega), mayB_iff]
            constructor
            · intro g X hXm hh
              obtain ⟨m, hm, rfl⟩ := List.getElem_of_mem hXm
              exact g m hm hm hh
            · intro g m hm _ hh
              exact g _ (List.getElem_mem hm) hh
          refine S_addEach ht' hf' hr hv hb (fun N2 ov2 t2 g1 g2 => ?_)
          show K1 (nI n + (1 : Int32), (t2, sd2))
          rw [nI_1]
          refine hK1 _ ⟨n + 1, N2, ov2, t2, sd2, rfl, by omega, g1, ?_⟩ ?_
          · rw [htk, ← ee]; exact g2
          · show 3600 - (nI (n + 1)).toNatClampNeg < 3600 - (nI n).toNatClampNeg
            rw [n_cl (by omega), n_cl (by omega)]; omega
        · have hil : i < Q.length := by
            rcases Nat.lt_or_ge i Q.length with y | y
            · exact y
            · exact absurd (show q.size ≤ nI i by rw [z2]; exact n_le y (by omega)) d
          have hi3 : i < 3 := by omega
          have go : ∀ al2 sd3, (∀ k, k < 64 → (bt al2 k = true ↔ ∀ (m : Nat) (hm : m < Q.length), m < i + 1 → hasV Q[m] v → ∃ y, y ∈ cand T M Q[m] V r ∧ cell y v = k)) → K2 (al2, nI i + (1 : Int32), (t', sd3)) := by
            intro al2 sd3 g
            rw [nI_1]
            refine hK2 _ ⟨i + 1, al2, sd3, rfl, by omega, g⟩ ?_
            show 3 - (nI (i + 1)).toNatClampNeg < 3 - (nI i).toNatClampNeg
            rw [n_cl (by omega), n_cl (by omega)]; omega
          have nx : ∀ p, patOK Q[i] p → numOK T Q[i] p → P_X2_variableBits p (fun (a : Int32) => P_X7_hasBit a (nI v) (fun (b : Int32) => (b = 0 → (K2 (al, (nI i + (1 : Int32)), (t', sd2)))) ∧ (¬ (b = 0) → (P_X1_gather (t', sd2) p s (nI V) (nI r) (fun (u : JoiS) => P_X1_takeVariable_j84 u q s (nI V) (nI v) (nI n) (nI r) al (nI i) K1 K2 post))))) := by
            intro p hp hn
            unfold P_X2_variableBits
            rw [hp.2.2]
            refine S_hasBitB (Nat.lt_trans (vb_lt hp.1) (by omega)) (by omega) (fun e => ⟨fun x => absurd x (by decide), fun _ => ?_⟩) (fun e => ⟨fun _ => go al sd2 ?_, fun x => absurd rfl x⟩)
            · have hh := (vbits_tb hp.1 hv).mp e
              refine S_gather hT hs hp hn hr (fun sd3 U hU hsd3 => ?_)
              have hUl : ∀ u ∈ U, u < 16777216 := fun u hu => ((cand_mem hT hs.2.1 hp.1 hr).mp (hU.mem_iff.mp hu)).1
              refine S_numbersAside hsd3 hUl hv (fun a ha => go _ sd3 (fun k hk => ?_))
              rw [bt_and, Bool.and_eq_true, hal k hk, ha k hk]
              constructor
              · rintro ⟨g1, y, g2, g3⟩ m hm hmi hmh
                rcases (show m = i ∨ m < i by omega) with rfl | hlt2
                · exact ⟨y, hU.mem_iff.mp g2, g3⟩
                · exact g1 m hm hlt2 hmh
              · intro g
                refine ⟨fun m hm hmi hmh => g m hm (by omega) hmh, ?_⟩
                obtain ⟨y, g2, g3⟩ := g i hil (by omega) hh
                exact ⟨y, hU.mem_iff.mpr g2, g3⟩
            · intro k hk
              rw [hal k hk]
              constructor
              · intro g m hm hmi hmh
                rcases (show m = i ∨ m < i by omega) with rfl | hlt2
                · have := (vbits_tb hp.1 hv).mpr hmh
                  rw [e] at this; cases this
                · exact g m hm hlt2 hmh
              · exact fun g m hm hmi hmh => g m hm (by omega) hmh
          refine S_pattern hi3 ⟨fun e => ?_, fun e => ?_, fun e => ?_⟩
          · subst e; exact nx _ (z3 0 hil) (z4 0 hil).1
          · subst e; exact nx _ (z3 1 hil) (z4 1 hil).1
          · subst e; exact nx _ (z3 2 hil) (z4 2 hil).1
