/-! PURE SIDE 33: the model: trying a triple, matches, variables, shape -/
def cnd (T : List Nat) (X : Pt3) (V r t : Nat) : Option Nat := if matX T X V r t then wid X V r t else none
theorem cand_cnd (T M : List Nat) (X : Pt3) (V r : Nat) : cand T M X V r = M.filterMap (cnd T X V r) := by
  unfold cand
  induction M with
  | nil => rfl
  | cons t M ih =>
    cases hq : matX T X V r t
    · rw [List.filter_cons_of_neg (by rw [hq]; decide), ih, List.filterMap_cons_none (by unfold cnd; rw [hq]; rfl)]
    · rw [List.filter_cons_of_pos hq]
      cases hw : wid X V r t with
      | none => rw [List.filterMap_cons_none hw, ih, List.filterMap_cons_none (by unfold cnd; rw [hq]; exact hw)]
      | some w => rw [List.filterMap_cons_some hw, ih, List.filterMap_cons_some (by unfold cnd; rw [hq]; exact hw)]
/-- the terms of the first p parts fit -/
def tmp (T : List Nat) (X : Pt3) (t p : Nat) : Prop := ∀ i, i < p → X i < 100 → part t i = num T (X i)
theorem cnd_iff {T : List Nat} {X : Pt3} (hX : okX X) {V r t w : Nat} (hr : rowOK V r) : cnd T X V r t = some w ↔ tmp T X t 3 ∧ wid X V r t = some w := by
  unfold cnd
  constructor
  · intro h
    cases hq : matX T X V r t
    · rw [hq] at h; cases h
    · rw [hq] at h
      refine ⟨fun i hi hx => ?_, h⟩
      have := matX_iff.mp hq i hi (by simp [td, hx])
      unfold vv at this
      rwa [if_pos hx] at this
  · rintro ⟨h1, h2⟩
    have hq : matX T X V r t = true := by
      rw [matX_iff]
      intro i hi htd
      unfold vv
      by_cases q : X i < 100
      · rw [if_pos q]; exact h1 i hi q
      · rw [if_neg q]
        obtain ⟨-, g2, g3, -⟩ := (wid_iff hX hr).mp h2
        have hx := hX i hi
        simp [td, q] at htd
        rw [← g3 i hi (by omega), g2 _ (by omega) htd]
    rw [hq]; exact h2
/-- a level of the bound array -/
def bv (V r v : Nat) : Int32 := if V.testBit v then nI (cell r v) else (-1 : Int32)
def bnd (m : ModS) (L V r : Nat) : Prop := ∀ v, v < 4 → m.bound (4 * L + v) = bv V r v
/-- nothing but the bound array from n on is another -/
def sameB (n : Nat) (m m' : ModS) : Prop := m'.terms = m.terms ∧ m'.number = m.number ∧ m'.term = m.term ∧ m'.triples = m.triples ∧ m'.store = m.store ∧ m'.patterns = m.patterns ∧ m'.query = m.query ∧ m'.found = m.found ∧ m'.work = m.work ∧ m'.kept = m.kept ∧ m'.keptVariables = m.keptVariables ∧ m'.answers = m.answers ∧ m'.thrown = m.thrown ∧ ∀ j, j < n → m'.bound j = m.bound j
theorem sameB_rf {n : Nat} {m : ModS} : sameB n m m := ⟨rfl, rfl, rfl, rfl, rfl, rfl, rfl, rfl, rfl, rfl, rfl, rfl, rfl, fun _ _ => rfl⟩
theorem sameB_le {n k : Nat} {m m' : ModS} (h : sameB n m m') (hk : k ≤ n) : sameB k m m' := by
  obtain ⟨a1, a2, a3, a4, a5, a6, a7, a8, a9, a10, a11, a12, a13, a14⟩ := h
  exact ⟨a1, a2, a3, a4, a5, a6, a7, a8, a9, a10, a11, a12, a13, fun j hj => a14 j (by omega)⟩
theorem sameB_tr {n : Nat} {m u m' : ModS} (h : sameB n m u) (g : sameB n u m') : sameB n m m' := by
  obtain ⟨a1, a2, a3, a4, a5, a6, a7, a8, a9, a10, a11, a12, a13, a14⟩ := h
  obtain ⟨b1, b2, b3, b4, b5, b6, b7, b8, b9, b10, b11, b12, b13, b14⟩ := g
  exact ⟨b1.trans a1, b2.trans a2, b3.trans a3, b4.trans a4, b5.trans a5, b6.trans a6, b7.trans a7, b8.trans a8, b9.trans a9, b10.trans a10, b11.trans a11, b12.trans a12, b13.trans a13, fun j hj => (b14 j hj).trans (a14 j hj)⟩
theorem sameB_mdl {n : Nat} {m m' : ModS} (h : sameB n m m') {T M : List Nat} {Q : List Pt3} {A : List Nat} {kv : Nat} (g : mdl T M Q A kv m) : mdl T M Q A kv m' := by
  obtain ⟨a1, a2, a3, a4, a5, a6, a7, a8, a9, a10, a11, a12, a13, a14⟩ := h
  obtain ⟨g1, g2, g3, g4⟩ := g
  refine ⟨?_, ?_, ?_, ?_⟩
  · unfold mdlT; rw [a1, a2, a3]; exact g1
  · unfold mdlM; rw [a4, a5]; exact g2
  · unfold mdlQ; rw [a6, a7]; exact g3
  · unfold mdlA; rw [a10, a11, a12]; exact g4
theorem sameB_bnd {n L V r : Nat} {m m' : ModS} (h : sameB n m m') (hn : 4 * L + 4 ≤ n) (g : bnd m L V r) : bnd m' L V r := by
  obtain ⟨a1, a2, a3, a4, a5, a6, a7, a8, a9, a10, a11, a12, a13, a14⟩ := h
  intro v hv
  rw [a14 _ (by omega)]; exact g v hv
theorem ix4 (k p : Nat) : (4 : Int32) * nI k + nI p = nI (4 * k + p) := by
  rw [show (4 : Int32) = nI 4 from rfl, pk_mul, n_add]
theorem ix44 (k : Nat) : (4 : Int32) * nI k + (4 : Int32) = nI (4 * k + 4) := ix4 k 4
theorem q_at : ∀ a, a < 16 → ∀ v, v < 4 → nI a - (1 : Int32) - toldI (100 + v) = nI (a + v) := by decide +kernel
theorem m_qy {Q : List Pt3} {m : ModS} (hm : mdlQ Q m) (hQ : Q.length ≤ 3) {i p : Nat} (hi : i < Q.length) (hp : p < 3) : vp_in (nI (3 * i + p)) 9 ∧ m.query (nI (3 * i + p)).toNatClampNeg = toldI (Q[i] p) := by
  refine ⟨n_in (by omega) (by omega), ?_⟩
  rw [n_cl (by omega)]
  exact hm.2 i hi p hp
theorem and_ob (a b : Bool) : ob a &&& ob b = ob (a && b) := by cases a <;> cases b <;> decide
theorem wid_none {X : Pt3} {V r t p : Nat} (h : widN X V r t p = none) : widN X V r t (p + 1) = none := by
  show wst X t p (widN X V r t p) = none
  rw [h]; rfl
theorem N_tries {T M : List Nat} {Q : List Pt3} {A : List Nat} {kv : Nat} {m : ModS} {L i k V r : Nat} {post : Int32 → ModS → Prop} (hi : inv T M Q A kv) (hm : mdl T M Q A kv m) (hL : L ≤ 2) (hiQ : i < Q.length) (hk : k < M.length) (hr : rowOK V r) (hb : bnd m L V r) (h1 : ∀ w m', cnd T Q[i] V r M[k] = some w → sameB (4 * L + 4) m m' → bnd m' (L + 1) (V ||| vbits Q[i]) w → post 1 m') (h0 : cnd T Q[i] V r M[k] = none → ∀ m', sameB (4 * L + 4) m m' → post 0 m') : P_X8_tries m (nI L) (nI i) (nI k) post := by
  obtain ⟨i1, i2, i3, i4, i5, i6, i7, i8, i9, -⟩ := hi
  have hX := i9 i hiQ
  have htM := List.getElem_mem hk
  have ht := i5 _ htM
  have h40 := i7 _ htM
  refine wl (fun w => ∃ j m', w = (nI j, m') ∧ j ≤ 4 ∧ sameB (4 * L + 4) m m' ∧ ∀ v, v < j → m'.bound (4 * L + 4 + v) = bv V r v) (fun w => 4 - w.1.toNatClampNeg) ⟨0, m, rfl, by omega, sameB_rf, fun v hv => absurd hv (Nat.not_lt_zero v)⟩ ?_
  rintro w ⟨j, m', rfl, hj, hs, hbv⟩ K hK
  refine ⟨fun c => ?_, fun c => ?_⟩
  · have : 4 ≤ j := (nI_leI (a := 4) (by omega) (by omega)).mp c
    have e : j = 4 := by omega
    subst e
    clear hK c
    show wloop (P_X8_tries_B45 (nI L) (nI i) (nI k) post) ((1 : Int32), (0 : Int32), m')
    refine wl (fun w => ∃ (is : Bool) (p : Nat) (m' : ModS), w = (ob is, nI p, m') ∧ p ≤ 3 ∧ sameB (4 * L + 4) m m' ∧ (is = true → ∃ w h, widN Q[i] V r M[k] p = some (w, h) ∧ rowOK h w ∧ tmp T Q[i] M[k] p ∧ ∀ v, v < 4 → m'.bound (4 * L + 4 + v) = bv h w v) ∧ (is = false → ¬ (tmp T Q[i] M[k] p ∧ ∃ q, widN Q[i] V r M[k] p = some q))) (fun w => 3 - w.2.1.toNatClampNeg) ⟨true, 0, m', rfl, by omega, hs, fun _ => ⟨r, V, rfl, hr, fun i hi => absurd hi (Nat.not_lt_zero i), hbv⟩, fun e => by cases e⟩ ?_
    clear hs hbv
    rintro w ⟨is, p, m', rfl, hp, hs, ht1, ht0⟩ K hK
    have hm' := sameB_mdl hs hm
    refine ⟨fun c => ?_, fun c => ?_⟩
    · have : 3 ≤ p := (nI_leI (a := 3) (by omega) (by omega)).mp c
      have e : p = 3 := by omega
      subst e
      refine ⟨bo_ob is, ?_⟩
      show post (ob is) m'
      cases is with
      | false =>
        refine h0 ?_ m' hs
        cases hc : cnd T Q[i] V r M[k] with
        | none => rfl
        | some w =>
          obtain ⟨g1, g2⟩ := (cnd_iff hX hr).mp hc
          refine absurd ⟨g1, ?_⟩ (ht0 rfl)
          unfold wid at g2
          cases hw : widN Q[i] V r M[k] 3 with
          | none => rw [hw] at g2; cases g2
          | some q => exact ⟨q, rfl⟩
      | true =>
        obtain ⟨w, h, g1, g2, g3, g4⟩ := ht1 rfl
        have hwid : wid Q[i] V r M[k] = some w := by unfold wid; rw [g1]; rfl
        refine h1 w m' ((cnd_iff hX hr).mpr ⟨g3, hwid⟩) hs (fun v hv => ?_)
        obtain ⟨-, -, -, e4⟩ := wid_sound hX hr 3 (by omega) w h g1
        have g4 := g4 v hv
        rw [show 4 * (L + 1) + v = 4 * L + 4 + v by omega, g4]
        unfold bv
        have e5 : h.testBit v = (V ||| vbits Q[i]).testBit v := by
          rw [Bool.eq_iff_iff, e4 v hv, Nat.testBit_or, Bool.or_eq_true, vbits_tb hX hv]
          rfl
        rw [e5]
    · have hp3 : p < 3 := by
        rcases Nat.lt_or_ge p 3 with q | q
        · exact q
        · exact absurd (n_le (a := 3) q (by omega)) c
      have hx := hX p hp3
      have qy := m_qy hm'.2.2.1 i8 hiQ hp3
      have st := m_st hm'.2.1 i6 hk hp3
      have hp40 := h40 p hp3
      have tm := m_tm hm'.1 i1 hp40
      have nx : ∀ (b : Bool) (m2 : ModS), sameB (4 * L + 4) m m2 → (b = true → ∃ w h, widN Q[i] V r M[k] (p + 1) = some (w, h) ∧ rowOK h w ∧ tmp T Q[i] M[k] (p + 1) ∧ ∀ v, v < 4 → m2.bound (4 * L + 4 + v) = bv h w v) → (b = false → ¬ (tmp T Q[i] M[k] (p + 1) ∧ ∃ q, widN Q[i] V r M[k] (p + 1) = some q)) → K (ob b, nI p + (1 : Int32), m2) := by
        intro b m2 g1 g2 g3
        rw [nI_1]
        refine hK _ ⟨b, p + 1, m2, rfl, by omega, g1, g2, g3⟩ ?_
        show 3 - (nI (p + 1)).toNatClampNeg < 3 - (nI p).toNatClampNeg
        rw [n_cl (by omega), n_cl (by omega)]; omega
      have tmS : tmp T Q[i] M[k] (p + 1) → tmp T Q[i] M[k] p := fun g i hi => g i (by omega)
      have no : ∀ (m2 : ModS), is = false → sameB (4 * L + 4) m m2 → K (ob false, nI p + (1 : Int32), m2) := by
        intro m2 e g
        refine nx false m2 g (fun z => by cases z) (fun _ ⟨g1, q, g2⟩ => ht0 e ⟨tmS g1, ?_⟩)
        cases hw : widN Q[i] V r M[k] p with
        | none => rw [wid_none hw] at g2; cases g2
        | some q => exact ⟨q, rfl⟩
      show vp_in ((3 : Int32) * nI i + nI p) 9 ∧ vp_in ((3 : Int32) * nI k + nI p) 180 ∧ _
      rw [ix, ix, qy.2, st.2]
      refine ⟨qy.1, st.1, fun c2 => ?_, fun c2 => ?_⟩
      · have hge : 100 ≤ Q[i] p := by
          rcases Nat.lt_or_ge (Q[i] p) 100 with z | z
          · rw [told_pos z] at c2; exact absurd c2 (nI_pos (by omega))
          · exact z
        have hnl : ¬ Q[i] p < 100 := by omega
        obtain ⟨v, hv⟩ : ∃ v, Q[i] p = 100 + v := ⟨Q[i] p - 100, by omega⟩
        have hv4 : v < 4 := by omega
        have hv' : Q[i] p - 100 = v := by omega
        have eat : ((4 : Int32) * nI L + (4 : Int32)) - (1 : Int32) - toldI (Q[i] p) = nI (4 * L + 4 + v) := by
          rw [ix44, hv, q_at _ (by omega) v hv4]
        have hin : vp_in (nI (4 * L + 4 + v)) 16 := n_in (by omega) (by omega)
        have hcl : (nI (4 * L + 4 + v)).toNatClampNeg = 4 * L + 4 + v := n_cl (by omega)
        have tmV : tmp T Q[i] M[k] p → tmp T Q[i] M[k] (p + 1) := fun g i' hi' hx' => by
          by_cases z : i' = p
          · subst z; exact absurd hx' hnl
          · exact g i' (by omega) hx'
        -- the state behind the part
        have sm : sameB (4 * L + 4) m (m'.terms, m'.number, m'.term, m'.triples, m'.store, m'.patterns, m'.query, upd m'.bound (4 * L + 4 + v) (nI (part M[k] p)), m'.found, m'.work, m'.kept, m'.keptVariables, m'.answers, m'.thrown) := by
          obtain ⟨a1, a2, a3, a4, a5, a6, a7, a8, a9, a10, a11, a12, a13, a14⟩ := hs
          refine ⟨a1, a2, a3, a4, a5, a6, a7, a8, a9, a10, a11, a12, a13, fun j hj => ?_⟩
          show upd m'.bound (4 * L + 4 + v) (nI (part M[k] p)) j = m.bound j
          rw [pk_un (by omega)]; exact a14 j hj
        have j148 : ∀ b : Bool, (is = true → (b = true ↔ (m'.bound (4 * L + 4 + v) < 0 ∨ m'.bound (4 * L + 4 + v) = nI (part M[k] p)))) → P_X8_tries_j148 m' (nI L) (nI i) (nI k) (nI p) (nI (part M[k] p)) (nI (4 * L + 4 + v)) (ob b) (ob is) K post := by
          intro b hbb
          refine ⟨hin, ?_⟩
          show K (ob is &&& ob b, nI p + (1 : Int32), (m'.terms, m'.number, m'.term, m'.triples, m'.store, m'.patterns, m'.query, upd m'.bound (nI (4 * L + 4 + v)).toNatClampNeg (nI (part M[k] p)), m'.found, m'.work, m'.kept, m'.keptVariables, m'.answers, m'.thrown))
          rw [and_ob, hcl]
          cases is with
          | false => exact no _ rfl sm
          | true =>
            have hbb := hbb rfl
            obtain ⟨w, h, g1, g2, g3, g4⟩ := ht1 rfl
            have gv := g4 v hv4
            have hstep : widN Q[i] V r M[k] (p + 1) = wst Q[i] M[k] p (some (w, h)) := by
              show wst Q[i] M[k] p (widN Q[i] V r M[k] p) = _
              rw [g1]
            have hw2 : wst Q[i] M[k] p (some (w, h)) = (if h.testBit v then (if cell w v = part M[k] p then some (w, h) else none) else some (w + part M[k] p * 64 ^ (3 - v), h ||| 2 ^ v)) := by
              unfold wst
              dsimp only
              rw [if_neg hnl, hv']
            rw [hw2] at hstep
            rw [gv] at hbb
            rw [Bool.true_and]
            cases hb2 : h.testBit v
            · have e1 : bv h w v = -1 := by unfold bv; rw [hb2]; rfl
              have hbt : b = true := hbb.mpr (Or.inl (by rw [e1]; decide))
              subst hbt
              rw [hb2] at hstep
              have hstep : widN Q[i] V r M[k] (p + 1) = some (w + part M[k] p * 64 ^ (3 - v), h ||| 2 ^ v) := hstep
              have c0 := g2.2.2 v hv4 hb2
              have hro : rowOK (h ||| 2 ^ v) (w + part M[k] p * 64 ^ (3 - v)) := by
                refine wst_ok hX hp3 g2 (t := M[k]) ?_
                rw [hw2, hb2]; rfl
              refine nx true _ sm (fun _ => ⟨_, _, hstep, hro, tmV g3, fun u hu => ?_⟩) (fun z => by cases z)
              show upd m'.bound (4 * L + 4 + v) (nI (part M[k] p)) (4 * L + 4 + u) = _
              unfold bv
              rw [tb_or, (cell_add g2.1 hv4 hu (part_lt _ _) c0).2]
              by_cases z : u = v
              · subst z
                rw [pk_us, if_pos (by simp), if_pos rfl]
              · rw [pk_un (by omega), if_neg z, g4 u hu]
                unfold bv
                have : ¬ v = u := fun y => z y.symm
                simp [this]
            · have e1 : bv h w v = nI (cell w v) := by unfold bv; rw [hb2]; rfl
              rw [hb2] at hstep
              have hstep : widN Q[i] V r M[k] (p + 1) = if cell w v = part M[k] p then some (w, h) else none := hstep
              have hcw := cell_lt w v
              have hpl := part_lt M[k] p
              rw [e1] at hbb
              by_cases z : cell w v = part M[k] p
              · have hbt : b = true := hbb.mpr (Or.inr (by rw [z]))
                subst hbt
                rw [if_pos z] at hstep
                refine nx true _ sm (fun _ => ⟨w, h, hstep, g2, tmV g3, fun u hu => ?_⟩) (fun z => by cases z)
                show upd m'.bound (4 * L + 4 + v) (nI (part M[k] p)) (4 * L + 4 + u) = _
                by_cases y : u = v
                · subst y
                  rw [pk_us, e1, z]
                · rw [pk_un (by omega)]; exact g4 u hu
              · have hbt : b = false := by
                  cases hq : b
                  · rfl
                  · rcases hbb.mp hq with y | y
                    · exact absurd y (nI_pos (by omega))
                    · exact absurd ((nI_eq (by omega) (by omega)).mp y) z
                subst hbt
                rw [if_neg z] at hstep
                refine nx false _ sm (fun z => by cases z) (fun _ ⟨_, q, g⟩ => ?_)
                rw [hstep] at g; cases g
        show vp_in (((4 : Int32) * nI L + (4 : Int32)) - (1 : Int32) - toldI (Q[i] p)) 16 ∧ _
        rw [eat, hcl]
        refine ⟨hin, fun c3 => ?_, fun c3 => ⟨hin, fun c4 => ?_, fun c4 => ?_⟩⟩
        · exact j148 true (fun _ => ⟨fun _ => Or.inl c3, fun _ => rfl⟩)
        · exact j148 false (fun _ => ⟨fun z => (by cases z), fun z => z.elim (fun y => absurd y c3) (fun y => absurd y c4)⟩)
        · exact j148 true (fun _ => ⟨fun _ => Or.inr c4, fun _ => rfl⟩)
      · have hlt : Q[i] p < 100 := by
          rcases Nat.lt_or_ge (Q[i] p) 100 with z | z
          · exact z
          · exact absurd (told_neg z hx) c2
        have eqs : nI (T[part M[k] p]) = toldI (Q[i] p) ↔ part M[k] p = num T (Q[i] p) := by
          rw [told_pos hlt, nI_eq (by have := i3 _ (List.getElem_mem hp40); omega) (by omega)]
          exact term_num i1 i2 hp40
        rw [tm.2]
        have same : ∀ q, widN Q[i] V r M[k] p = some q → widN Q[i] V r M[k] (p + 1) = some q := by
          intro q hq
          obtain ⟨w, h⟩ := q
          show wst Q[i] M[k] p (widN Q[i] V r M[k] p) = _
          rw [hq]
          unfold wst
          dsimp only
          rw [if_pos hlt]
        refine ⟨tm.1, fun c3 => ?_, fun c3 => ?_⟩
        · show K (ob is &&& ob false, nI p + (1 : Int32), m')
          rw [and_ob, Bool.and_false]
          refine nx false m' hs (fun z => by cases z) (fun _ ⟨g1, _⟩ => c3 (eqs.mpr (g1 p (by omega) hlt)))
        · show K (ob is &&& ob true, nI p + (1 : Int32), m')
          rw [and_ob, Bool.and_true]
          have c3 := eqs.mp c3
          cases is with
          | false => exact no m' rfl hs
          | true =>
            obtain ⟨w, h, g1, g2, g3, g4⟩ := ht1 rfl
            refine nx true m' hs (fun _ => ⟨w, h, same _ g1, g2, fun i' hi' hx' => ?_, g4⟩) (fun z => by cases z)
            by_cases z : i' = p
            · subst z; exact c3
            · exact g3 i' (by omega) hx'
  · have hlt : j < 4 := by
      rcases Nat.lt_or_ge j 4 with q | q
      · exact q
      · exact absurd (n_le (a := 4) q (by omega)) c
    show vp_in ((4 : Int32) * nI L + nI j) 16 ∧ vp_in (((4 : Int32) * nI L + (4 : Int32)) + nI j) 16 ∧ K (nI j + (1 : Int32), (m'.terms, m'.number, m'.term, m'.triples, m'.store, m'.patterns, m'.query, upd m'.bound (((4 : Int32) * nI L + (4 : Int32)) + nI j).toNatClampNeg (m'.bound ((4 : Int32) * nI L + nI j).toNatClampNeg), m'.found, m'.work, m'.kept, m'.keptVariables, m'.answers, m'.thrown))
    rw [ix44, ix4, n_add, n_cl (by omega), n_cl (by omega), nI_1]
    refine ⟨n_in (by omega) (by omega), n_in (by omega) (by omega), hK _ ⟨j + 1, _, rfl, by omega, ?_, fun v hv => ?_⟩ ?_⟩
    · obtain ⟨a1, a2, a3, a4, a5, a6, a7, a8, a9, a10, a11, a12, a13, a14⟩ := hs
      refine ⟨a1, a2, a3, a4, a5, a6, a7, a8, a9, a10, a11, a12, a13, fun q hq => ?_⟩
      show upd m'.bound (4 * L + 4 + j) (m'.bound (4 * L + j)) q = m.bound q
      rw [pk_un (by omega)]; exact a14 q hq
    · show upd m'.bound (4 * L + 4 + j) (m'.bound (4 * L + j)) (4 * L + 4 + v) = _
      by_cases z : v = j
      · subst z
        rw [pk_us, hs.2.2.2.2.2.2.2.2.2.2.2.2.2 _ (by omega)]
        exact hb v hlt
      · rw [pk_un (by omega)]; exact hbv v (by omega)
    · show 4 - (nI (j + 1)).toNatClampNeg < 4 - (nI j).toNatClampNeg
      rw [n_cl (by omega), n_cl (by omega)]; omega
theorem N_frees {m : ModS} {post : ModS → Prop} (h : ∀ m', sameB 0 m m' → bnd m' 0 0 0 → post m') : P_X8_frees m post := by
  refine wl (fun w => ∃ j m', w = (nI j, m') ∧ j ≤ 4 ∧ sameB 0 m m' ∧ ∀ v, v < j → m'.bound v = -1) (fun w => 4 - w.1.toNatClampNeg) ⟨0, m, rfl, by omega, sameB_rf, fun v hv => absurd hv (Nat.not_lt_zero v)⟩ ?_
  rintro w ⟨j, m', rfl, hj, hs, hbv⟩ K hK
  refine ⟨fun c => ?_, fun c => ?_⟩
  · have : 4 ≤ j := (nI_leI (a := 4) (by omega) (by omega)).mp c
    refine h m' hs (fun v hv => ?_)
    rw [show 4 * 0 + v = v by omega, hbv v (by omega)]
    unfold bv
    simp
  · have hlt : j < 4 := by
      rcases Nat.lt_or_ge j 4 with q | q
      · exact q
      · exact absurd (n_le (a := 4) q (by omega)) c
    show vp_in (nI j) 16 ∧ K (nI j + (1 : Int32), (m'.terms, m'.number, m'.term, m'.triples, m'.store, m'.patterns, m'.query, upd m'.bound (nI j).toNatClampNeg (-1 : Int32), m'.found, m'.work, m'.kept, m'.keptVariables, m'.answers, m'.thrown))
    rw [n_cl (by omega), nI_1]
    refine ⟨n_in (by omega) (by omega), hK _ ⟨j + 1, _, rfl, by omega, ?_, fun v hv => ?_⟩ ?_⟩
    · obtain ⟨a1, a2, a3, a4, a5, a6, a7, a8, a9, a10, a11, a12, a13, a14⟩ := hs
      exact ⟨a1, a2, a3, a4, a5, a6, a7, a8, a9, a10, a11, a12, a13, fun q hq => absurd hq (Nat.not_lt_zero q)⟩
    · show upd m'.bound j (-1 : Int32) v = -1
      by_cases z : v = j
      · subst z; rw [pk_us]
      · rw [pk_un z]; exact hbv v (by omega)
    · show 4 - (nI (j + 1)).toNatClampNeg < 4 - (nI j).toNatClampNeg
      rw [n_cl (by omega), n_cl (by omega)]; omega
theorem row0z : rowOK 0 0 := ⟨by omega, by omega, fun v _ _ => by unfold cell; simp⟩
theorem fmc_step {f : Nat → Option Nat} {l : List Nat} {n : Nat} (h : n < l.length) : (l.take (n + 1)).filterMap f = (l.take n).filterMap f ++ (match f l[n] with | none => [] | some c => [c]) := by
  rw [take_s h, List.filterMap_append]
  congr 1
  cases hc : f l[n] with
  | none => rw [List.filterMap_cons_none hc]; rfl
  | some c => rw [List.filterMap_cons_some hc]; rfl
theorem N_matching {T M : List Nat} {Q : List Pt3} {A : List Nat} {kv : Nat} {m : ModS} {i : Nat} {post : Int32 → ModS → Prop} (hi : inv T M Q A kv) (hm : mdl T M Q A kv m) (hiQ : i < Q.length) (h : ∀ m', sameB 0 m m' → post (nI (cand T M Q[i] 0 0).length) m') : P_X8_matching m (nI i) post := by
  have hM := hi.2.2.2.2.2.1
  refine N_frees (fun m1 s1 b1 => ?_)
  rw [cand_cnd] at h
  refine wl (fun w => ∃ j m', w = (nI ((M.take j).filterMap (cnd T Q[i] 0 0)).length, nI j, m') ∧ j ≤ M.length ∧ sameB 4 m1 m') (fun w => 60 - w.2.1.toNatClampNeg) ⟨0, m1, rfl, by omega, sameB_rf⟩ ?_
  rintro w ⟨j, m', rfl, hj, hs⟩ K hK
  have hs0 : sameB 0 m m' := sameB_tr s1 (sameB_le hs (by omega))
  have hm' := sameB_mdl hs0 hm
  refine ⟨fun c => ?_, fun c => ?_⟩
  · have c : m'.triples ≤ nI j := c
    rw [hm'.2.1.1] at c
    have := (nI_leI (by omega) (by omega)).mp c
    have e : j = M.length := by omega
    subst e
    rw [List.take_length]
    exact h m' hs0
  · have hlt : j < M.length := by
      rcases Nat.lt_or_ge j M.length with q | q
      · exact q
      · exact absurd (show m'.triples ≤ nI j by rw [hm'.2.1.1]; exact n_le q (by omega)) c
    have stp := fmc_step (f := cnd T Q[i] 0 0) hlt
    have dec : 60 - (nI (j + 1)).toNatClampNeg < 60 - (nI j).toNatClampNeg := by
      rw [n_cl (by omega), n_cl (by omega)]; omega
    have nx : ∀ n m2, n = ((M.take (j + 1)).filterMap (cnd T Q[i] 0 0)).length → sameB 4 m' m2 → K (nI n, nI j + (1 : Int32), m2) := by
      intro n m2 e s2
      rw [e, nI_1]
      exact hK _ ⟨j + 1, m2, rfl, by omega, sameB_tr hs s2⟩ dec
    refine N_tries (L := 0) hi hm' (by omega) hiQ hlt row0z (sameB_bnd hs (by omega) b1) (fun w m2 e s2 _ => ⟨fun z => absurd z (by decide), fun _ => ?_⟩) (fun e m2 s2 => ⟨fun _ => ?_, fun z => absurd rfl z⟩)
    · rw [e] at stp
      show K (nI _ + nI 1, nI j + (1 : Int32), m2)
      rw [n_add]
      refine nx _ m2 ?_ s2
      rw [stp, List.length_append]; rfl
    · rw [e] at stp
      show K (nI _ + nI 0, nI j + (1 : Int32), m2)
      rw [n_add]
      refine nx _ m2 ?_ s2
      rw [stp, List.length_append]; rfl
theorem N_matches0 {Q : List Pt3} {m : ModS} {x : Int32} {post : Int32 → ModS → Prop} (hm : mdlQ Q m) (hQ : Q.length ≤ 3) (hn : ¬ isN Q.length x) (h : post 0 (setX m 1)) : P_X8_matches m x post := by
  show P_X8_isIn x (0 : Int32) (m.patterns - (1 : Int32)) _
  rw [hm.1]
  exact N_isN (by omega) (fun g => absurd g hn) (fun _ => ⟨fun _ => ⟨fun c => absurd c (by decide), fun _ => h⟩, fun c => absurd rfl c⟩)
theorem N_matches1 {T M : List Nat} {Q : List Pt3} {A : List Nat} {kv : Nat} {m : ModS} {i : Nat} {post : Int32 → ModS → Prop} (hi : inv T M Q A kv) (hm : mdl T M Q A kv m) (hiQ : i < Q.length) (h : ∀ m', mdl T M Q A kv m' → m'.thrown = 0 → post (nI (cand T M Q[i] 0 0).length) m') : P_X8_matches m (nI i) post := by
  have hQ := hi.2.2.2.2.2.2.2.1
  show P_X8_isIn (nI i) (0 : Int32) (m.patterns - (1 : Int32)) _
  rw [hm.2.2.1.1]
  refine N_isN (by omega) (fun _ => ⟨fun c => absurd c (by decide), fun _ => ⟨fun _ => ?_, fun c => absurd (by decide) c⟩⟩) (fun n => absurd ⟨i, hiQ, rfl⟩ n)
  refine N_matching hi (m := setX m 0) hm hiQ (fun m' hs => h m' (sameB_mdl hs (m := setX m 0) hm) ?_)
  exact hs.2.2.2.2.2.2.2.2.2.2.2.2.1
-- variables
def vup (X : Pt3) : Nat → Nat
  | 0 => 0
  | p + 1 => vup X p ||| vbit (X p)
theorem vup3 (X : Pt3) : vup X 3 = vbits X := by
  show ((0 ||| vbit (X 0)) ||| vbit (X 1)) ||| vbit (X 2) = _
  rw [Nat.zero_or]; rfl
theorem N_variablesOf {Q : List Pt3} {m : ModS} {i : Nat} {post : Int32 → Prop} (hm : mdlQ Q m) (hQ : Q.length ≤ 3) (hX : ∀ (i : Nat) (h : i < Q.length), okX Q[i]) (hi : i < Q.length) (h : post (nI (vbits Q[i]))) : P_X8_variablesOf m (nI i) post := by
  show wloop (P_X8_variablesOf_B6 m (nI i) post) ((0 : Int32), (3 : Int32) * nI i)
  rw [ix0]
  refine wl (fun w => ∃ p, w = (nI (vup Q[i] p), nI (3 * i + p)) ∧ p ≤ 3) (fun w => 3 * i + 3 - w.2.toNatClampNeg) ⟨0, rfl, by omega⟩ ?_
  rintro w ⟨p, rfl, hp⟩ K hK
  refine ⟨fun c => ?_, fun c => ?_⟩
  · have c : (3 : Int32) * nI i + (3 : Int32) ≤ nI (3 * i + p) := c
    rw [show (3 : Int32) * nI i + (3 : Int32) = nI (3 * i + 3) from ix i 3] at c
    have := (nI_leI (by omega) (by omega)).mp c
    have e : p = 3 := by omega
    subst e
    rw [← vup3] at h; exact h
  · have hp3 : p < 3 := by
      rcases Nat.lt_or_ge p 3 with q | q
      · exact q
      · refine absurd ?_ c
        show (3 : Int32) * nI i + (3 : Int32) ≤ nI (3 * i + p)
        rw [show (3 : Int32) * nI i + (3 : Int32) = nI (3 * i + 3) from ix i 3]
        exact n_le (by omega) (by omega)
    have qy := m_qy hm hQ hi hp3
    have hx := hX i hi p hp3
    have nx : ∀ x, x = vbit (Q[i] p) → K (nI (vup Q[i] p) ||| nI x, nI (3 * i + p) + (1 : Int32)) := by
      intro x e
      rw [e, q_or, nI_1]
      refine hK _ ⟨p + 1, rfl, by omega⟩ ?_
      show 3 * i + 3 - (nI (3 * i + p + 1)).toNatClampNeg < 3 * i + 3 - (nI (3 * i + p)).toNatClampNeg
      rw [n_cl (by omega), n_cl (by omega)]; omega
    show vp_in (nI (3 * i + p)) 9 ∧ (0 ≤ m.query (nI (3 * i + p)).toNatClampNeg → K (nI (vup Q[i] p) ||| nI 0, nI (3 * i + p) + (1 : Int32))) ∧ (¬ 0 ≤ m.query (nI (3 * i + p)).toNatClampNeg → vp_in (nI (3 * i + p)) 9 ∧ K (nI (vup Q[i] p) ||| ((1 : Int32) <<< (((-1 : Int32) - m.query (nI (3 * i + p)).toNatClampNeg) &&& 31)), nI (3 * i + p) + (1 : Int32)))
    rw [qy.2]
    refine ⟨qy.1, fun c2 => nx 0 ?_, fun c2 => ⟨qy.1, ?_⟩⟩
    · have := (told_le hx).mp c2
      unfold vbit; rw [if_pos this]
    · have hge : ¬ Q[i] p < 100 := fun z => c2 ((told_le hx).mpr z)
      rw [told_var (by omega) hx, show (1 : Int32) <<< (nI (Q[i] p - 100) &&& 31) = nI (1 * 2 ^ (Q[i] p - 100)) from q_shl 1 (by omega), Nat.one_mul]
      refine nx _ ?_
      unfold vbit; rw [if_neg hge]
theorem N_allVariables {Q : List Pt3} {m : ModS} {post : Int32 → Prop} (hm : mdlQ Q m) (hQ : Q.length ≤ 3) (hX : ∀ (i : Nat) (h : i < Q.length), okX Q[i]) (h : post (nI (qv Q))) : P_X8_allVariables m post := by
  refine wl (fun w => ∃ i, w = (nI (qvN Q i), nI i) ∧ i ≤ Q.length) (fun w => 3 - w.2.toNatClampNeg) ⟨0, rfl, by omega⟩ ?_
  rintro w ⟨i, rfl, hi⟩ K hK
  refine ⟨fun c => ?_, fun c => ?_⟩
  · have c : m.patterns ≤ nI i := c
    rw [hm.1] at c
    have := (nI_leI (by omega) (by omega)).mp c
    have e : i = Q.length := by omega
    subst e; exact h
  · have hlt : i < Q.length := by
      rcases Nat.lt_or_ge i Q.length with y | y
      · exact y
      · exact absurd (show m.patterns ≤ nI i by rw [hm.1]; exact n_le y (by omega)) c
    refine N_variablesOf hm hQ hX hlt ?_
    show K (nI (qvN Q i) ||| nI (vbits Q[i]), nI i + (1 : Int32))
    rw [q_or, nI_1]
    refine hK _ ⟨i + 1, ?_, by omega⟩ ?_
    · show _ = (nI (qvN Q i ||| _), _)
      rw [dif_pos hlt]
    · show 3 - (nI (i + 1)).toNatClampNeg < 3 - (nI i).toNatClampNeg
      rw [n_cl (by omega), n_cl (by omega)]; omega
theorem N_variables {Q : List Pt3} {m : ModS} {post : Int32 → ModS → Prop} (hm : mdlQ Q m) (hQ : Q.length ≤ 3) (hX : ∀ (i : Nat) (h : i < Q.length), okX Q[i]) (h : post (nI (qv Q)) (setX m 0)) : P_X8_variables m post :=
  N_allVariables (m := setX m 0) hm hQ hX h
-- the shape
def mst (Q : List Pt3) : Nat → Bool
  | 0 => false
  | n + 1 => if n = 0 then decide (2 ≤ Q.length) else (mst Q n && (if h : n < Q.length then (decide (100 ≤ Q[0] 0) && Q[n] 0 == Q[0] 0) else true))
theorem mst_star {Q : List Pt3} (hQ : Q.length ≤ 3) : mst Q Q.length = starQ Q Q.length := by
  match Q, hQ with
  | [], _ => rfl
  | [a], _ => rfl
  | [a, b], _ =>
    show (mst [a, b] 1 && (decide (100 ≤ a 0) && b 0 == a 0)) = (starQ [a, b] 1 && (b 0 == a 0))
    show (true && (decide (100 ≤ a 0) && b 0 == a 0)) = (decide (100 ≤ a 0) && (b 0 == a 0))
    rw [Bool.true_and]
  | [a, b, c], _ =>
    show ((true && (decide (100 ≤ a 0) && b 0 == a 0)) && (decide (100 ≤ a 0) && c 0 == a 0)) = ((decide (100 ≤ a 0) && (b 0 == a 0)) && (c 0 == a 0))
    cases decide (100 ≤ a 0) <;> simp
  | a :: b :: c :: d :: l, h => exact absurd h (by simp)
theorem N_shape {Q : List Pt3} {m : ModS} {post : Int32 → ModS → Prop} (hm : mdlQ Q m) (hQ : Q.length ≤ 3) (hX : ∀ (i : Nat) (h : i < Q.length), okX Q[i]) (h : post (nI (shp Q)) (setX m 0)) : P_X8_shape m post := by
  unfold shp at h
  rw [← mst_star hQ] at h
  have e1 : m.patterns ≤ (1 : Int32) ↔ Q.length ≤ 1 := by rw [hm.1]; exact nI_leI (b := 1) (by omega) (by omega)
  have hm0 : mdlQ Q (setX m 0) := hm
  have f1 : mst Q 1 = decide (2 ≤ Q.length) := rfl
  have f2 : chainQ Q 1 = decide (2 ≤ Q.length) := rfl
  have j32 : ∀ x, x = ob (decide (2 ≤ Q.length)) → P_X8_shape_j32 (setX m 0) x x post := by
    intro x e
    subst e
    generalize setX m 0 = m0 at h hm0 ⊢
    refine wl (fun w => ∃ i, w = (ob (mst Q i), ob (chainQ Q i), nI i) ∧ 1 ≤ i ∧ (i ≤ Q.length ∨ i = 1)) (fun w => 3 - w.2.2.toNatClampNeg) ⟨1, by rw [f1, f2]; rfl, by omega, Or.inr rfl⟩ ?_
    rintro w ⟨i, rfl, hi1, hi⟩ K hK
    refine ⟨fun c => ?_, fun c => ?_⟩
    · have c : m0.patterns ≤ nI i := c
      rw [hm0.1] at c
      have c := (nI_leI (by omega) (by omega)).mp c
      have ee : mst Q i = mst Q Q.length ∧ chainQ Q i = chainQ Q Q.length := by
        rcases Nat.eq_or_lt_of_le c with z | z
        · rw [← z]; exact ⟨rfl, rfl⟩
        · have z1 : i = 1 := by omega
          have z0 : Q.length = 0 := by omega
          subst z1
          rw [f1, f2, z0]; exact ⟨rfl, rfl⟩
      rw [← ee.1, ← ee.2] at h
      have j134 : ∀ n, n = (if mst Q i = true then 1 else 0) → P_X8_shape_j134 m0 (ob (chainQ Q i)) (nI n) post := by
        intro n hn
        rw [← hn] at h
        refine ⟨fun d => ?_, fun d => ?_⟩
        · rw [(obz _).mp d] at h
          show post (nI n + nI 0) m0
          rw [n_add]; exact h
        · have hs : chainQ Q i = true := by
            cases hz : chainQ Q i
            · exact absurd ((obz _).mpr hz) d
            · rfl
          rw [hs] at h
          show post (nI n + nI 2) m0
          rw [n_add]; exact h
      refine ⟨fun d => j134 0 ?_, fun d => j134 1 ?_⟩
      · rw [(obz _).mp d]; rfl
      · have hs : mst Q i = true := by
          cases hz : mst Q i
          · exact absurd ((obz _).mpr hz) d
          · rfl
        rw [hs]; rfl
    · have hlt : i < Q.length := by
        rcases Nat.lt_or_ge i Q.length with y | y
        · exact y
        · exact absurd (show m0.patterns ≤ nI i by rw [hm0.1]; exact n_le y (by omega)) c
      have st1 : mst Q (i + 1) = (mst Q i && (decide (100 ≤ Q[0] 0) && Q[i] 0 == Q[0] 0)) := by
        show (if i = 0 then _ else _) = _
        rw [if_neg (by omega), dif_pos hlt]
      have st2 : chainQ Q (i + 1) = (chainQ Q i && (decide (100 ≤ Q[i - 1] 2) && Q[i - 1] 2 == Q[i] 0)) := by
        show (if i = 0 then _ else _) = _
        rw [if_neg (by omega), dif_pos hlt]
      have q0 := m_qy hm0 hQ (show 0 < Q.length by omega) (p := 0) (by omega)
      have qi := m_qy hm0 hQ hlt (p := 0) (by omega)
      have qc := m_qy hm0 hQ (show i - 1 < Q.length by omega) (p := 2) (by omega)
      have x0 := hX 0 (by omega) 0 (by omega)
      have xi := hX i hlt 0 (by omega)
      have xc := hX (i - 1) (by omega) 2 (by omega)
      have eix : (3 : Int32) * nI i - (1 : Int32) = nI (3 * (i - 1) + 2) := by
        rw [ix0, show (1 : Int32) = nI 1 from rfl, n_sub (by omega)]
        congr 1; omega
      have dec : 3 - (nI (i + 1)).toNatClampNeg < 3 - (nI i).toNatClampNeg := by
        rw [n_cl (by omega), n_cl (by omega)]; omega
      have nx : ∀ a b : Bool, (mst Q i && a) = mst Q (i + 1) → (chainQ Q i && b) = chainQ Q (i + 1) → K (ob (mst Q i) &&& ob a, ob (chainQ Q i) &&& ob b, nI i + (1 : Int32)) := by
        intro a b h1 h2
        rw [and_ob, and_ob, h1, h2, nI_1]
        exact hK _ ⟨i + 1, rfl, by omega, Or.inl (by omega)⟩ dec
      have j75 : ∀ a : Bool, a = (decide (100 ≤ Q[0] 0) && Q[i] 0 == Q[0] 0) → P_X8_shape_j75 m0 (ob (chainQ Q i)) (nI i) (ob a) (ob (mst Q i)) K post := by
        intro a ha
        have h1 : (mst Q i && a) = mst Q (i + 1) := by rw [st1, ha]
        show vp_in ((3 : Int32) * nI i - (1 : Int32)) 9 ∧ (0 ≤ m0.query ((3 : Int32) * nI i - (1 : Int32)).toNatClampNeg → K (ob (mst Q i) &&& ob a, ob (chainQ Q i) &&& ob false, nI i + (1 : Int32))) ∧ (¬ 0 ≤ m0.query ((3 : Int32) * nI i - (1 : Int32)).toNatClampNeg → vp_in ((3 : Int32) * nI i - (1 : Int32)) 9 ∧ vp_in ((3 : Int32) * nI i) 9 ∧ (¬ m0.query ((3 : Int32) * nI i - (1 : Int32)).toNatClampNeg = m0.query ((3 : Int32) * nI i).toNatClampNeg → K (ob (mst Q i) &&& ob a, ob (chainQ Q i) &&& ob false, nI i + (1 : Int32))) ∧ (m0.query ((3 : Int32) * nI i - (1 : Int32)).toNatClampNeg = m0.query ((3 : Int32) * nI i).toNatClampNeg → K (ob (mst Q i) &&& ob a, ob (chainQ Q i) &&& ob true, nI i + (1 : Int32))))
        rw [eix, ix0, qc.2, qi.2, told_le xc, told_eq xc xi]
        refine ⟨qc.1, fun d => nx a false h1 ?_, fun d => ⟨qc.1, qi.1, fun d2 => nx a false h1 ?_, fun d2 => nx a true h1 ?_⟩⟩
        · rw [st2, decide_eq_false (show ¬ 100 ≤ Q[i - 1] 2 by omega)]; simp
        · rw [st2]; simp [d2]
        · rw [st2, decide_eq_true (show 100 ≤ Q[i - 1] 2 by omega), d2]; simp
      show vp_in (nI (3 * 0 + 0)) 9 ∧ (0 ≤ m0.query (nI (3 * 0 + 0)).toNatClampNeg → P_X8_shape_j75 m0 (ob (chainQ Q i)) (nI i) (ob false) (ob (mst Q i)) K post) ∧ (¬ 0 ≤ m0.query (nI (3 * 0 + 0)).toNatClampNeg → vp_in ((3 : Int32) * nI i) 9 ∧ vp_in (nI (3 * 0 + 0)) 9 ∧ (¬ m0.query ((3 : Int32) * nI i).toNatClampNeg = m0.query (nI (3 * 0 + 0)).toNatClampNeg → P_X8_shape_j75 m0 (ob (chainQ Q i)) (nI i) (ob false) (ob (mst Q i)) K post) ∧ (m0.query ((3 : Int32) * nI i).toNatClampNeg = m0.query (nI (3 * 0 + 0)).toNatClampNeg → P_X8_shape_j75 m0 (ob (chainQ Q i)) (nI i) (ob true) (ob (mst Q i)) K post))
      rw [ix0 i, q0.2, qi.2, told_le x0, told_eq xi x0]
      refine ⟨q0.1, fun d => j75 false ?_, fun d => ⟨qi.1, q0.1, fun d2 => j75 false ?_, fun d2 => j75 true ?_⟩⟩
      · rw [decide_eq_false (show ¬ 100 ≤ Q[0] 0 by omega)]; rfl
      · simp [d2]
      · rw [decide_eq_true (show 100 ≤ Q[0] 0 by omega), d2]; simp
  have j18 : ∀ x, x = ob (decide (2 ≤ Q.length)) → P_X8_shape_j18 (setX m 0) x post := by
    intro x e
    refine ⟨fun c => ?_, fun c => ?_⟩
    · have := e1.mp c
      have e2 : x = 0 := by rw [e, decide_eq_false (by omega)]; rfl
      have := j32 x e
      rw [e2] at this ⊢
      exact this
    · have : ¬ Q.length ≤ 1 := fun z => c (e1.mpr z)
      have e2 : x = 1 := by rw [e, decide_eq_true (by omega)]; rfl
      have := j32 x e
      rw [e2] at this ⊢
      exact this
  refine ⟨fun c => j18 0 ?_, fun c => j18 1 ?_⟩
  · have := e1.mp c
    rw [decide_eq_false (by omega)]; rfl
  · have : ¬ Q.length ≤ 1 := fun z => c (e1.mpr z)
    rw [decide_eq_true (by omega)]; rfl
