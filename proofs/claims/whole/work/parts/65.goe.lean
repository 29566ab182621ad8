/-! PURE SIDE 35: the model: going through all triples -/
def sameW (n : Nat) (m m' : ModS) : Prop := m'.terms = m.terms ∧ m'.number = m.number ∧ m'.term = m.term ∧ m'.triples = m.triples ∧ m'.store = m.store ∧ m'.patterns = m.patterns ∧ m'.query = m.query ∧ m'.kept = m.kept ∧ m'.keptVariables = m.keptVariables ∧ m'.answers = m.answers ∧ m'.thrown = m.thrown ∧ ∀ j, j < n → m'.bound j = m.bound j
theorem sameW_rf {n : Nat} {m : ModS} : sameW n m m := ⟨rfl, rfl, rfl, rfl, rfl, rfl, rfl, rfl, rfl, rfl, rfl, fun _ _ => rfl⟩
theorem sameB_W {n : Nat} {m m' : ModS} (h : sameB n m m') : sameW n m m' := by
  obtain ⟨a1, a2, a3, a4, a5, a6, a7, a8, a9, a10, a11, a12, a13, a14⟩ := h
  exact ⟨a1, a2, a3, a4, a5, a6, a7, a10, a11, a12, a13, a14⟩
theorem sameW_le {n k : Nat} {m m' : ModS} (h : sameW n m m') (hk : k ≤ n) : sameW k m m' := by
  obtain ⟨a1, a2, a3, a4, a5, a6, a7, a8, a9, a10, a11, a12⟩ := h
  exact ⟨a1, a2, a3, a4, a5, a6, a7, a8, a9, a10, a11, fun j hj => a12 j (by omega)⟩
theorem sameW_tr {n : Nat} {m u m' : ModS} (h : sameW n m u) (g : sameW n u m') : sameW n m m' := by
  obtain ⟨a1, a2, a3, a4, a5, a6, a7, a8, a9, a10, a11, a12⟩ := h
  obtain ⟨b1, b2, b3, b4, b5, b6, b7, b8, b9, b10, b11, b12⟩ := g
  exact ⟨b1.trans a1, b2.trans a2, b3.trans a3, b4.trans a4, b5.trans a5, b6.trans a6, b7.trans a7, b8.trans a8, b9.trans a9, b10.trans a10, b11.trans a11, fun j hj => (b12 j hj).trans (a12 j hj)⟩
theorem sameW_mdl {n : Nat} {m m' : ModS} (h : sameW n m m') {T M : List Nat} {Q : List Pt3} {A : List Nat} {kv : Nat} (g : mdl T M Q A kv m) : mdl T M Q A kv m' := by
  obtain ⟨a1, a2, a3, a4, a5, a6, a7, a8, a9, a10, a11, a12⟩ := h
  obtain ⟨g1, g2, g3, g4⟩ := g
  refine ⟨?_, ?_, ?_, ?_⟩
  · unfold mdlT; rw [a1, a2, a3]; exact g1
  · unfold mdlM; rw [a4, a5]; exact g2
  · unfold mdlQ; rw [a6, a7]; exact g3
  · unfold mdlA; rw [a8, a9, a10]; exact g4
theorem sameW_bnd {n L V r : Nat} {m m' : ModS} (h : sameW n m m') (hn : 4 * L + 4 ≤ n) (g : bnd m L V r) : bnd m' L V r := by
  obtain ⟨a1, a2, a3, a4, a5, a6, a7, a8, a9, a10, a11, a12⟩ := h
  intro v hv
  rw [a12 _ (by omega)]; exact g v hv
/-- the answers found -/
def wrk (V : Nat) (W : List Nat) (m : ModS) : Prop := m.found = nI W.length ∧ ∀ (k : Nat) (h : k < W.length), k < 2000 → m.work k = nI (c41 V W[k])
theorem sameB_wrk {n V : Nat} {W : List Nat} {m m' : ModS} (h : sameB n m m') (g : wrk V W m) : wrk V W m' := by
  obtain ⟨a1, a2, a3, a4, a5, a6, a7, a8, a9, a10, a11, a12, a13, a14⟩ := h
  unfold wrk
  rw [a8, a9]; exact g
def e41 (V a : Nat) : Nat → Nat
  | 0 => 0
  | k + 1 => 41 * e41 V a k + d41 V a k
theorem e41_4 (V a : Nat) : e41 V a 4 = c41 V a := by
  show 41 * (41 * (41 * (41 * 0 + d41 V a 0) + d41 V a 1) + d41 V a 2) + d41 V a 3 = _
  unfold c41; omega
theorem d41_le (V a v : Nat) : d41 V a v ≤ 64 := by
  unfold d41
  split
  · have := cell_lt a v; omega
  · omega
theorem c41_lt (V a : Nat) : c41 V a < 5000000 := by
  have h0 := d41_le V a 0
  have h1 := d41_le V a 1
  have h2 := d41_le V a 2
  have h3 := d41_le V a 3
  unfold c41; omega
theorem m1p (x : Int32) : x + (-1 : Int32) + (1 : Int32) = x := by
  rw [Int32.add_assoc, show (-1 : Int32) + (1 : Int32) = 0 by decide, Int32.add_zero]
theorem N_finds {V w L : Nat} {D : List Nat} {m : ModS} {post : ModS → Prop} (hL : L ≤ 3) (hb : bnd m L V w) (hw : wrk V D m) (hD : D.length ≤ 299900) (h : ∀ m', sameW 16 m m' → wrk V (D ++ [w]) m' → post m') : P_X8_finds m (nI L) post := by
  refine wl (fun z => ∃ k, z = (nI (e41 V w k), nI k) ∧ k ≤ 4) (fun z => 4 - z.2.toNatClampNeg) ⟨0, rfl, by omega⟩ ?_
  rintro z ⟨k, rfl, hk⟩ K hK
  have hf : m.found = nI D.length := hw.1
  refine ⟨fun c => ?_, fun c => ?_⟩
  · have : 4 ≤ k := (nI_leI (a := 4) (by omega) (by omega)).mp c
    have e : k = 4 := by omega
    subst e
    refine ⟨fun c2 => ?_, fun c2 => ?_⟩
    · have c2 : (2000 : Int32) ≤ m.found := c2
      rw [hf] at c2
      have c2 := (nI_leI (a := 2000) (by omega) (by omega)).mp c2
      refine h _ ⟨rfl, rfl, rfl, rfl, rfl, rfl, rfl, rfl, rfl, rfl, rfl, fun _ _ => rfl⟩ ⟨?_, fun k hk hk2 => ?_⟩
      · show m.found + (1 : Int32) = _
        rw [hf, nI_1, List.length_append, List.length_singleton]
      · show m.work k = _
        rw [List.getElem_append_left (by omega)]
        exact hw.2 k (by omega) hk2
    · have c2 : ¬ nI 2000 ≤ m.found := c2
      rw [hf] at c2
      have hl : D.length < 2000 := by
        rcases Nat.lt_or_ge D.length 2000 with y | y
        · exact y
        · exact absurd (n_le y (by omega)) c2
      refine ⟨by rw [hf]; exact n_in hl (by omega), ?_⟩
      refine h _ ⟨rfl, rfl, rfl, rfl, rfl, rfl, rfl, rfl, rfl, rfl, rfl, fun _ _ => rfl⟩ ⟨?_, fun k hk hk2 => ?_⟩
      · show m.found + (1 : Int32) = _
        rw [hf, nI_1, List.length_append, List.length_singleton]
      · show upd m.work m.found.toNatClampNeg (nI (e41 V w 4)) k = _
        rw [hf, n_cl (by omega), e41_4]
        rw [List.length_append, List.length_singleton] at hk
        by_cases y : k = D.length
        · subst y
          rw [pk_us, List.getElem_append_right (Nat.le_refl _)]
          simp
        · rw [pk_un y, List.getElem_append_left (by omega)]
          exact hw.2 k (by omega) hk2
  · have hlt : k < 4 := by
      rcases Nat.lt_or_ge k 4 with q | q
      · exact q
      · exact absurd (n_le (a := 4) q (by omega)) c
    show vp_in ((4 : Int32) * nI L + nI k) 16 ∧ K ((41 : Int32) * nI (e41 V w k) + m.bound ((4 : Int32) * nI L + nI k).toNatClampNeg + (1 : Int32), nI k + (1 : Int32))
    rw [ix4, n_cl (by omega), hb k hlt, show (41 : Int32) = nI 41 from rfl, pk_mul]
    refine ⟨n_in (by omega) (by omega), ?_⟩
    have e : nI (41 * e41 V w k) + bv V w k + (1 : Int32) = nI (e41 V w (k + 1)) := by
      show _ = nI (41 * e41 V w k + d41 V w k)
      unfold bv d41
      cases V.testBit k
      · rw [if_neg (by decide), if_neg (by decide), m1p]; rfl
      · rw [if_pos rfl, if_pos rfl, n_add, nI_1]; rfl
    rw [e, nI_1]
    refine hK _ ⟨k + 1, rfl, by omega⟩ ?_
    show 4 - (nI (k + 1)).toNatClampNeg < 4 - (nI k).toNatClampNeg
    rw [n_cl (by omega), n_cl (by omega)]; omega
theorem cnd_row {T : List Nat} {X : Pt3} (hX : okX X) {V r t w : Nat} (hr : rowOK V r) (h : cnd T X V r t = some w) : rowOK (V ||| vbits X) w := by
  obtain ⟨-, h2⟩ := (cnd_iff hX hr).mp h
  obtain ⟨g1, g2, g3, g4⟩ := (wid_iff hX hr).mp h2
  refine ⟨g1, Nat.or_lt_two_pow (n := 4) hr.2.1 (vb_lt hX), fun v hv hb => ?_⟩
  rw [Nat.testBit_or, Bool.or_eq_false_iff] at hb
  refine g4 v hv hb.1 (fun i hi e => ?_)
  have := (vbits_tb hX hv).mpr ⟨i, hi, e⟩
  rw [hb.2] at this; cases this
/-- what the last pattern makes of a row; the second; the first -/
def g3 (T M : List Nat) (Q : List Pt3) (V w : Nat) : List Nat := if h : 2 < Q.length then cand T M Q[2] V w else []
def f2 (T M : List Nat) (Q : List Pt3) (V w : Nat) : List Nat := (if Q.length = 2 then [w] else []) ++ g3 T M Q V w
def g2 (T M : List Nat) (Q : List Pt3) (V w : Nat) : List Nat := if h : 1 < Q.length then (cand T M Q[1] V w).flatMap (f2 T M Q (V ||| vbits Q[1])) else []
def f1 (T M : List Nat) (Q : List Pt3) (V w : Nat) : List Nat := (if Q.length = 1 then [w] else []) ++ g2 T M Q V w
def allR (T M : List Nat) (Q : List Pt3) : List Nat := if h : 0 < Q.length then (cand T M Q[0] 0 0).flatMap (f1 T M Q (0 ||| vbits Q[0])) else []
theorem g3_len {T M : List Nat} {Q : List Pt3} {V w : Nat} (hM : M.length ≤ 60) : (g3 T M Q V w).length ≤ 60 := by
  unfold g3
  split
  · exact cand_len hM
  · simp
theorem f2_len {T M : List Nat} {Q : List Pt3} {V w : Nat} (hM : M.length ≤ 60) : (f2 T M Q V w).length ≤ 61 := by
  have := g3_len (T := T) (Q := Q) (V := V) (w := w) hM
  unfold f2
  rw [List.length_append]
  split <;> simp <;> omega
theorem g2_len {T M : List Nat} {Q : List Pt3} {V w : Nat} (hM : M.length ≤ 60) : (g2 T M Q V w).length ≤ 3660 := by
  unfold g2
  split
  · next h =>
    have h1 := flat_len (f := f2 T M Q (V ||| vbits Q[1])) (c := 61) (fun r => f2_len hM) (cand T M Q[1] V w)
    have h2 := cand_len (T := T) (X := Q[1]) (V := V) (r := w) hM
    omega
  · simp
theorem f1_len {T M : List Nat} {Q : List Pt3} {V w : Nat} (hM : M.length ≤ 60) : (f1 T M Q V w).length ≤ 3661 := by
  have := g2_len (T := T) (Q := Q) (V := V) (w := w) hM
  unfold f1
  rw [List.length_append]
  split <;> simp <;> omega
theorem ffm_step {f : Nat → Option Nat} {g : Nat → List Nat} {l : List Nat} {n : Nat} (h : n < l.length) : ((l.take (n + 1)).filterMap f).flatMap g = ((l.take n).filterMap f).flatMap g ++ (match f l[n] with | none => [] | some c => g c) := by
  rw [fm_step h, List.flatMap_append]
  congr 1
  cases f l[n] with
  | none => rfl
  | some c => show ([c] : List Nat).flatMap g = g c; simp
theorem ffm_len {f : Nat → Option Nat} {g : Nat → List Nat} {l : List Nat} {c : Nat} (hg : ∀ r, (g r).length ≤ c) (hl : l.length ≤ 60) (n : Nat) : (((l.take n).filterMap f).flatMap g).length ≤ 60 * c := by
  have h1 := flat_len hg ((l.take n).filterMap f)
  have h2 := List.length_filterMap_le f (l.take n)
  have h3 : (l.take n).length ≤ 60 := by rw [List.length_take]; omega
  exact Nat.le_trans h1 (Nat.mul_le_mul_right c (by omega))
theorem N_lp3 {T M : List Nat} {Q : List Pt3} {A : List Nat} {kv : Nat} {m : ModS} {V2 w2 V : Nat} {D : List Nat} {v1 v2 : Int32} {k11 k44 : (Int32 × ModS) → Prop} {post : ModS → Prop} (hi : inv T M Q A kv) (hm : mdl T M Q A kv m) (hb : bnd m 2 V2 w2) (hro : rowOK V2 w2) (hV : ∀ h : 2 < Q.length, V = V2 ||| vbits Q[2]) (hw : wrk V D m) (hD : D.length ≤ 299000) (h : ∀ m', sameW 12 m m' → wrk V (D ++ g3 T M Q V2 w2) m' → k44 (v2 + (1 : Int32), m')) : P_X8_goesThrough_j83 m v1 v2 k11 k44 post := by
  have hM := hi.2.2.2.2.2.1
  have hQ := hi.2.2.2.2.2.2.2.1
  have hX := hi.2.2.2.2.2.2.2.2.1
  by_cases hl : 2 < Q.length
  · have hg : g3 T M Q V2 w2 = M.filterMap (cnd T Q[2] V2 w2) := by
      unfold g3
      rw [dif_pos hl, cand_cnd]
    have hV := hV hl
    rw [hg] at h
    refine wl (fun w => ∃ c m', w = (nI c, m') ∧ c ≤ M.length ∧ sameW 12 m m' ∧ wrk V (D ++ (M.take c).filterMap (cnd T Q[2] V2 w2)) m') (fun w => 60 - w.1.toNatClampNeg) ⟨0, m, rfl, by omega, sameW_rf, by simpa using hw⟩ ?_
    rintro w ⟨c, m', rfl, hc, hs, hw'⟩ K hK
    have hm' := sameW_mdl hs hm
    refine ⟨fun d => ?_, fun d => ⟨fun d2 => ?_, fun _ => ?_⟩⟩
    · have d : m'.triples ≤ nI c := d
      rw [hm'.2.1.1] at d
      have := (nI_leI (by omega) (by omega)).mp d
      have e : c = M.length := by omega
      subst e
      rw [List.take_length] at hw'
      exact h m' hs hw'
    · have d2 : m'.patterns ≤ nI 2 := d2
      rw [hm'.2.2.1.1] at d2
      have := (nI_leI (by omega) (by omega)).mp d2
      omega
    · have hlt : c < M.length := by
        rcases Nat.lt_or_ge c M.length with q | q
        · exact q
        · exact absurd (show m'.triples ≤ nI c by rw [hm'.2.1.1]; exact n_le q (by omega)) d
      have stp := fm_step (f := cnd T Q[2] V2 w2) hlt
      have dec : 60 - (nI (c + 1)).toNatClampNeg < 60 - (nI c).toNatClampNeg := by
        rw [n_cl (by omega), n_cl (by omega)]; omega
      have nx : ∀ m2, sameW 12 m' m2 → wrk V (D ++ (M.take (c + 1)).filterMap (cnd T Q[2] V2 w2)) m2 → K (nI c + (1 : Int32), m2) := by
        intro m2 s2 w2
        rw [nI_1]
        exact hK _ ⟨c + 1, m2, rfl, by omega, sameW_tr hs s2, w2⟩ dec
      have hlen : (D ++ (M.take c).filterMap (cnd T Q[2] V2 w2)).length ≤ 299900 := by
        rw [List.length_append]
        have h2 := List.length_filterMap_le (cnd T Q[2] V2 w2) (M.take c)
        rw [List.length_take] at h2
        omega
      refine N_tries (L := 2) hi hm' (by omega) hl hlt hro (sameW_bnd hs (by omega) hb) (fun w m2 e s2 b2 => ⟨fun z => absurd z (by decide), fun _ => ?_⟩) (fun e m2 s2 => ⟨fun _ => ?_, fun z => absurd rfl z⟩)
      · rw [← hV] at b2
        refine N_finds (L := 3) (by omega) b2 (sameB_wrk s2 hw') hlen (fun m3 s3 w3 => nx m3 (sameW_tr (sameB_W s2) (sameW_le s3 (by omega))) ?_)
        rw [stp, e, ← List.append_assoc]; exact w3
      · refine nx m2 (sameB_W s2) ?_
        rw [stp, e, List.append_nil]
        exact sameB_wrk s2 hw'
  · have hg : g3 T M Q V2 w2 = [] := by unfold g3; rw [dif_neg hl]
    rw [hg] at h
    have hk := h m sameW_rf (by rw [List.append_nil]; exact hw)
    refine wl (fun w => w = ((0 : Int32), m)) (fun _ => 0) rfl ?_
    rintro w rfl K hK
    refine ⟨fun _ => hk, fun _ => ⟨fun _ => hk, fun d => absurd ?_ d⟩⟩
    show m.patterns ≤ (2 : Int32)
    rw [hm.2.2.1.1]
    exact n_le (b := 2) (by omega) (by omega)
theorem N_lp2 {T M : List Nat} {Q : List Pt3} {A : List Nat} {kv : Nat} {m : ModS} {V1 w1 V : Nat} {D : List Nat} {v1 : Int32} {k11 : (Int32 × ModS) → Prop} {post : ModS → Prop} (hi : inv T M Q A kv) (hm : mdl T M Q A kv m) (hb : bnd m 1 V1 w1) (hro : rowOK V1 w1) (hV2 : ∀ h : 1 < Q.length, Q.length = 2 → V = V1 ||| vbits Q[1]) (hV3 : ∀ h : 2 < Q.length, V = (V1 ||| vbits Q[1]) ||| vbits Q[2]) (hw : wrk V D m) (hD : D.length ≤ 290000) (h : ∀ m', sameW 8 m m' → wrk V (D ++ g2 T M Q V1 w1) m' → k11 (v1 + (1 : Int32), m')) : P_X8_goesThrough_j42 m v1 k11 post := by
  have hM := hi.2.2.2.2.2.1
  have hQ := hi.2.2.2.2.2.2.2.1
  have hX := hi.2.2.2.2.2.2.2.2.1
  by_cases hl : 1 < Q.length
  · have hg : g2 T M Q V1 w1 = (M.filterMap (cnd T Q[1] V1 w1)).flatMap (f2 T M Q (V1 ||| vbits Q[1])) := by
      unfold g2
      rw [dif_pos hl, cand_cnd]
    have hV2 := hV2 hl
    rw [hg] at h
    refine wl (fun w => ∃ c m', w = (nI c, m') ∧ c ≤ M.length ∧ sameW 8 m m' ∧ wrk V (D ++ ((M.take c).filterMap (cnd T Q[1] V1 w1)).flatMap (f2 T M Q (V1 ||| vbits Q[1]))) m') (fun w => 60 - w.1.toNatClampNeg) ⟨0, m, rfl, by omega, sameW_rf, by simpa using hw⟩ ?_
    rintro w ⟨c, m', rfl, hc, hs, hw'⟩ K hK
    have hm' := sameW_mdl hs hm
    refine ⟨fun d => ?_, fun d => ⟨fun d2 => ?_, fun _ => ?_⟩⟩
    · have d : m'.triples ≤ nI c := d
      rw [hm'.2.1.1] at d
      have := (nI_leI (by omega) (by omega)).mp d
      have e : c = M.length := by omega
      subst e
      rw [List.take_length] at hw'
      exact h m' hs hw'
    · have d2 : m'.patterns ≤ nI 1 := d2
      rw [hm'.2.2.1.1] at d2
      have := (nI_leI (by omega) (by omega)).mp d2
      omega
    · have hlt : c < M.length := by
        rcases Nat.lt_or_ge c M.length with q | q
        · exact q
        · exact absurd (show m'.triples ≤ nI c by rw [hm'.2.1.1]; exact n_le q (by omega)) d
      have stp := ffm_step (f := cnd T Q[1] V1 w1) (g := f2 T M Q (V1 ||| vbits Q[1])) hlt
      have dec : 60 - (nI (c + 1)).toNatClampNeg < 60 - (nI c).toNatClampNeg := by
        rw [n_cl (by omega), n_cl (by omega)]; omega
      have hlen : (D ++ ((M.take c).filterMap (cnd T Q[1] V1 w1)).flatMap (f2 T M Q (V1 ||| vbits Q[1]))).length ≤ 294000 := by
        rw [List.length_append]
        have h2 := ffm_len (f := cnd T Q[1] V1 w1) (g := f2 T M Q (V1 ||| vbits Q[1])) (c := 61) (fun r => f2_len hM) hM c
        omega
      generalize hDe : D ++ ((M.take c).filterMap (cnd T Q[1] V1 w1)).flatMap (f2 T M Q (V1 ||| vbits Q[1])) = D' at hw' hlen
      have nx : ∀ m2, sameW 8 m' m2 → wrk V (D' ++ (match cnd T Q[1] V1 w1 M[c] with | none => [] | some c => f2 T M Q (V1 ||| vbits Q[1]) c)) m2 → K (nI c + (1 : Int32), m2) := by
        intro m2 s2 w2
        rw [nI_1]
        refine hK _ ⟨c + 1, m2, rfl, by omega, sameW_tr hs s2, ?_⟩ dec
        rw [stp, ← List.append_assoc, hDe]; exact w2
      refine N_tries (L := 1) hi hm' (by omega) hl hlt hro (sameW_bnd hs (by omega) hb) (fun w m2 e s2 b2 => ⟨fun z => absurd z (by decide), fun _ => ?_⟩) (fun e m2 s2 => ⟨fun _ => ?_, fun z => absurd rfl z⟩)
      · have hro2 := cnd_row (hX 1 hl) hro e
        have hm2 := sameB_mdl s2 hm'
        rw [e] at nx
        have ep : m2.patterns = (2 : Int32) ↔ Q.length = 2 := by
          rw [hm2.2.2.1.1]; exact nI_eq (b := 2) (by omega) (by omega)
        refine ⟨fun z => ?_, fun z => ?_⟩
        · have z : ¬ Q.length = 2 := fun y => z (ep.mpr y)
          refine N_lp3 hi hm2 b2 hro2 hV3 (sameB_wrk s2 hw') (by omega) (fun m3 s3 w3 => nx m3 (sameW_tr (sameB_W s2) (sameW_le s3 (by omega))) ?_)
          show wrk V (D' ++ f2 T M Q (V1 ||| vbits Q[1]) w) m3
          unfold f2
          rw [if_neg z, List.nil_append]; exact w3
        · have z : Q.length = 2 := ep.mp z
          have b2' := b2
          rw [← hV2 z] at b2'
          refine N_finds (L := 2) (by omega) b2' (sameB_wrk s2 hw') (by omega) (fun m3 s3 w3 => ?_)
          refine N_lp3 hi (sameW_mdl s3 hm2) (sameW_bnd s3 (by omega) b2) hro2 hV3 w3 (by rw [List.length_append, List.length_singleton]; omega) (fun m4 s4 w4 => nx m4 (sameW_tr (sameB_W s2) (sameW_tr (sameW_le s3 (by omega)) (sameW_le s4 (by omega)))) ?_)
          show wrk V (D' ++ f2 T M Q (V1 ||| vbits Q[1]) w) m4
          unfold f2
          rw [if_pos z, ← List.append_assoc]; exact w4
      · refine nx m2 (sameB_W s2) ?_
        rw [e]
        show wrk V (D' ++ []) m2
        rw [List.append_nil]
        exact sameB_wrk s2 hw'
  · have hg : g2 T M Q V1 w1 = [] := by unfold g2; rw [dif_neg hl]
    rw [hg] at h
    have hk := h m sameW_rf (by rw [List.append_nil]; exact hw)
    refine wl (fun w => w = ((0 : Int32), m)) (fun _ => 0) rfl ?_
    rintro w rfl K hK
    refine ⟨fun _ => hk, fun _ => ⟨fun _ => hk, fun d => absurd ?_ d⟩⟩
    show m.patterns ≤ (1 : Int32)
    rw [hm.2.2.1.1]
    exact n_le (b := 1) (by omega) (by omega)
theorem qv_cases {Q : List Pt3} (hQ : Q.length ≤ 3) : (∀ h : 0 < Q.length, Q.length = 1 → qv Q = 0 ||| vbits Q[0]) ∧ (∀ h : 1 < Q.length, Q.length = 2 → qv Q = (0 ||| vbits Q[0]) ||| vbits Q[1]) ∧ (∀ h : 2 < Q.length, qv Q = ((0 ||| vbits Q[0]) ||| vbits Q[1]) ||| vbits Q[2]) := by
  refine ⟨fun h e => ?_, fun h e => ?_, fun h => ?_⟩
  · rw [show qv Q = qvN Q 1 from congrArg (qvN Q) e]
    show 0 ||| (if h : 0 < Q.length then vbits Q[0] else 0) = _
    rw [dif_pos h]
  · rw [show qv Q = qvN Q 2 from congrArg (qvN Q) e]
    show (0 ||| (if h : 0 < Q.length then vbits Q[0] else 0)) ||| (if h : 1 < Q.length then vbits Q[1] else 0) = _
    rw [dif_pos h, dif_pos (show 0 < Q.length by omega)]
  · rw [show qv Q = qvN Q 3 from congrArg (qvN Q) (show Q.length = 3 by omega)]
    show ((0 ||| (if h : 0 < Q.length then vbits Q[0] else 0)) ||| (if h : 1 < Q.length then vbits Q[1] else 0)) ||| (if h : 2 < Q.length then vbits Q[2] else 0) = _
    rw [dif_pos h, dif_pos (show 0 < Q.length by omega), dif_pos (show 1 < Q.length by omega)]
theorem N_goes {T M : List Nat} {Q : List Pt3} {A : List Nat} {kv : Nat} {m : ModS} {post : ModS → Prop} (hi : inv T M Q A kv) (hm : mdl T M Q A kv m) (hl : 0 < Q.length) (h : ∀ m', sameW 0 m m' → wrk (qv Q) (allR T M Q) m' → post m') : P_X8_goesThrough m post := by
  have hM := hi.2.2.2.2.2.1
  have hQ := hi.2.2.2.2.2.2.2.1
  have hX := hi.2.2.2.2.2.2.2.2.1
  obtain ⟨q1, q2, q3⟩ := qv_cases hQ
  have hg : allR T M Q = (M.filterMap (cnd T Q[0] 0 0)).flatMap (f1 T M Q (0 ||| vbits Q[0])) := by
    unfold allR
    rw [dif_pos hl, cand_cnd]
  rw [hg] at h
  refine N_frees (fun m1 s1 b1 => ?_)
  have sw1 : sameW 0 m m1 := by
    obtain ⟨a1, a2, a3, a4, a5, a6, a7, a8, a9, a10, a11, a12, a13, a14⟩ := s1
    exact ⟨a1, a2, a3, a4, a5, a6, a7, a10, a11, a12, a13, fun j hj => absurd hj (Nat.not_lt_zero j)⟩
  have hf1 : m1.found = 0 := s1.2.2.2.2.2.2.2.1
  have hm1 := sameW_mdl sw1 hm
  refine wl (fun w => ∃ c m', w = (nI c, m') ∧ c ≤ M.length ∧ sameW 4 m1 m' ∧ wrk (qv Q) (((M.take c).filterMap (cnd T Q[0] 0 0)).flatMap (f1 T M Q (0 ||| vbits Q[0]))) m') (fun w => 60 - w.1.toNatClampNeg) ⟨0, m1, rfl, by omega, sameW_rf, hf1, fun k hk => absurd hk (Nat.not_lt_zero k)⟩ ?_
  rintro w ⟨c, m', rfl, hc, hs, hw'⟩ K hK
  have hm' := sameW_mdl hs hm1
  refine ⟨fun d => ?_, fun d => ?_⟩
  · have d : m'.triples ≤ nI c := d
    rw [hm'.2.1.1] at d
    have := (nI_leI (by omega) (by omega)).mp d
    have e : c = M.length := by omega
    subst e
    rw [List.take_length] at hw'
    exact h m' (sameW_tr sw1 (sameW_le hs (by omega))) hw'
  · have hlt : c < M.length := by
      rcases Nat.lt_or_ge c M.length with q | q
      · exact q
      · exact absurd (show m'.triples ≤ nI c by rw [hm'.2.1.1]; exact n_le q (by omega)) d
    have stp := ffm_step (f := cnd T Q[0] 0 0) (g := f1 T M Q (0 ||| vbits Q[0])) hlt
    have dec : 60 - (nI (c + 1)).toNatClampNeg < 60 - (nI c).toNatClampNeg := by
      rw [n_cl (by omega), n_cl (by omega)]; omega
    have hlen : (((M.take c).filterMap (cnd T Q[0] 0 0)).flatMap (f1 T M Q (0 ||| vbits Q[0]))).length ≤ 220000 := by
      have h2 := ffm_len (f := cnd T Q[0] 0 0) (g := f1 T M Q (0 ||| vbits Q[0])) (c := 3661) (fun r => f1_len hM) hM c
      omega
    generalize hDe : ((M.take c).filterMap (cnd T Q[0] 0 0)).flatMap (f1 T M Q (0 ||| vbits Q[0])) = D' at hw' hlen
    have nx : ∀ m2, sameW 4 m' m2 → wrk (qv Q) (D' ++ (match cnd T Q[0] 0 0 M[c] with | none => [] | some c => f1 T M Q (0 ||| vbits Q[0]) c)) m2 → K (nI c + (1 : Int32), m2) := by
      intro m2 s2 w2
      rw [nI_1]
      refine hK _ ⟨c + 1, m2, rfl, by omega, sameW_tr hs s2, ?_⟩ dec
      rw [stp, hDe]; exact w2
    refine N_tries (L := 0) hi hm' (by omega) hl hlt row0z (sameW_bnd hs (by omega) b1) (fun w m2 e s2 b2 => ⟨fun z => absurd z (by decide), fun _ => ?_⟩) (fun e m2 s2 => ⟨fun _ => ?_, fun z => absurd rfl z⟩)
    · have hro2 := cnd_row (hX 0 hl) row0z e
      have hm2 := sameB_mdl s2 hm'
      rw [e] at nx
      have ep : m2.patterns = (1 : Int32) ↔ Q.length = 1 := by
        rw [hm2.2.2.1.1]; exact nI_eq (b := 1) (by omega) (by omega)
      refine ⟨fun z => ?_, fun z => ?_⟩
      · have z : ¬ Q.length = 1 := fun y => z (ep.mpr y)
        refine N_lp2 hi hm2 b2 hro2 q2 q3 (sameB_wrk s2 hw') (by omega) (fun m3 s3 w3 => nx m3 (sameW_tr (sameB_W s2) (sameW_le s3 (by omega))) ?_)
        show wrk (qv Q) (D' ++ f1 T M Q (0 ||| vbits Q[0]) w) m3
        unfold f1
        rw [if_neg z, List.nil_append]; exact w3
      · have z : Q.length = 1 := ep.mp z
        have b2' := b2
        rw [← q1 hl z] at b2'
        refine N_finds (L := 1) (by omega) b2' (sameB_wrk s2 hw') (by omega) (fun m3 s3 w3 => ?_)
        refine N_lp2 hi (sameW_mdl s3 hm2) (sameW_bnd s3 (by omega) b2) hro2 q2 q3 w3 (by rw [List.length_append, List.length_singleton]; omega) (fun m4 s4 w4 => nx m4 (sameW_tr (sameB_W s2) (sameW_tr (sameW_le s3 (by omega)) (sameW_le s4 (by omega)))) ?_)
        show wrk (qv Q) (D' ++ f1 T M Q (0 ||| vbits Q[0]) w) m4
        unfold f1
        rw [if_pos z, ← List.append_assoc]; exact w4
    · refine nx m2 (sameB_W s2) ?_
      rw [e]
      show wrk (qv Q) (D' ++ []) m2
      rw [List.append_nil]
      exact sameB_wrk s2 hw'
/-- they are the answers -/
theorem allR_rows {T M : List Nat} {Q : List Pt3} {A : List Nat} {kv : Nat} (hi : inv T M Q A kv) (hl : 0 < Q.length) : rowsOf T M Q (allR T M Q) := by
  obtain ⟨i1, i2, i3, i4, i5, i6, i7, hQ, hX, -⟩ := hi
  have fV := fun n (hn : n ≤ Q.length) => firsts_V hX hn
  have fs : ∀ n (hn : n < Q.length), firsts Q (n + 1) = Q[n] :: firsts Q n := fun n hn => by
    show (if h : n < Q.length then Q[n] :: firsts Q n else firsts Q n) = _
    rw [dif_pos hn]
  have qs : ∀ n (hn : n < Q.length), qvN Q (n + 1) = qvN Q n ||| vbits Q[n] := fun n hn => by
    show qvN Q n ||| (if h : n < Q.length then vbits Q[n] else 0) = _
    rw [dif_pos hn]
  have st : ∀ n (hn : n < Q.length) (R : List Nat), rowsOf T M (firsts Q n) R → rowsOf T M (firsts Q (n + 1)) (R.flatMap (cand T M Q[n] (qvN Q n))) := by
    intro n hn R hR
    rw [fs n hn]
    exact rows_step i1 i5 i4 (hX n hn) (fV n (by omega)).2 (fV n (by omega)).1 hR
  have r1 : rowsOf T M (firsts Q 1) (cand T M Q[0] 0 0) := by
    have : rowsOf T M (firsts Q 1) (([0] : List Nat).flatMap (cand T M Q[0] 0)) := st 0 hl [0] (rows_nil T M)
    simpa using this
  have fin : ∀ n R, n = Q.length → rowsOf T M (firsts Q n) R → rowsOf T M Q R := by
    intro n R e h
    subst e
    exact ⟨h.1, fun w => (h.2 w).trans (Ans_perm firsts_all)⟩
  have idl : ∀ R : List Nat, R.flatMap (fun w => [w]) = R := fun R => by
    induction R with
    | nil => rfl
    | cons a R ih => rw [List.flatMap_cons, ih]; rfl
  have e1 : qvN Q 1 = 0 ||| vbits Q[0] := qs 0 hl
  unfold allR
  rw [dif_pos hl]
  rcases (show Q.length = 1 ∨ Q.length = 2 ∨ Q.length = 3 by omega) with e | e | e
  · have h1 : f1 T M Q (0 ||| vbits Q[0]) = fun w => [w] := by
      funext w
      unfold f1 g2
      rw [if_pos e, dif_neg (by omega), List.append_nil]
    rw [h1, idl]
    exact fin 1 _ e.symm r1
  · have h2 : f2 T M Q ((0 ||| vbits Q[0]) ||| vbits Q[1]) = fun w => [w] := by
      funext w
      unfold f2 g3
      rw [if_pos e, dif_neg (by omega), List.append_nil]
    have h1 : f1 T M Q (0 ||| vbits Q[0]) = cand T M Q[1] (qvN Q 1) := by
      funext w
      unfold f1 g2
      rw [if_neg (by omega), dif_pos (by omega), List.nil_append, h2, idl, e1]
    rw [h1]
    exact fin 2 _ e.symm (st 1 (by omega) _ r1)
  · have e2 : qvN Q 2 = (0 ||| vbits Q[0]) ||| vbits Q[1] := by rw [qs 1 (by omega), e1]
    have h2 : f2 T M Q ((0 ||| vbits Q[0]) ||| vbits Q[1]) = cand T M Q[2] (qvN Q 2) := by
      funext w
      unfold f2 g3
      rw [if_neg (by omega), dif_pos (by omega), List.nil_append, e2]
    have h1 : f1 T M Q (0 ||| vbits Q[0]) = fun w => (cand T M Q[1] (qvN Q 1) w).flatMap (cand T M Q[2] (qvN Q 2)) := by
      funext w
      unfold f1 g2
      rw [if_neg (by omega), dif_pos (by omega), List.nil_append, h2, e1]
    rw [h1, ← List.flatMap_assoc]
    exact fin 3 _ e.symm (st 2 (by omega) _ (st 1 (by omega) _ r1))
