/-! PURE SIDE 36: the model: the answers -/
theorem rows_num {T M : List Nat} {Q : List Pt3} {A B : List Nat} {kv : Nat} (hi : inv T M Q A kv) (h : rowsOf T M Q B) : ∀ w ∈ B, rowOK (qv Q) w ∧ ∀ v, v < 4 → (qv Q).testBit v = true → cell w v < T.length := by
  obtain ⟨i1, i2, i3, i4, i5, i6, i7, hQ, hX, -⟩ := hi
  have hV := qv_isV hX
  intro w hw
  have ha := (h.2 w).mp hw
  refine ⟨Ans_row hV ha, fun v hv hb => ?_⟩
  obtain ⟨X, hXQ, i, hi3, e⟩ := (hV.2 v hv).mp hb
  have h1 := i7 _ (ha.2.1 X hXQ) i hi3
  rw [part_inst i1 X w hi3] at h1
  unfold vv at h1
  rw [if_neg (by omega), show X i - 100 = v by omega] at h1
  exact h1
theorem c41_mono {V a b : Nat} (ha : rowOK V a) (hb : rowOK V b) (ha40 : ∀ v, v < 4 → V.testBit v = true → cell a v < 40) (hb40 : ∀ v, v < 4 → V.testBit v = true → cell b v < 40) (h : a < b) : c41 V a < c41 V b := by
  have key : ∀ v, v < 4 → d41 V a v ≤ 40 ∧ d41 V b v ≤ 40 ∧ (cell a v < cell b v → d41 V a v < d41 V b v) ∧ (cell a v = cell b v → d41 V a v = d41 V b v) := by
    intro v hv
    unfold d41
    cases hq : V.testBit v
    · have h1 := ha.2.2 v hv hq
      have h2 := hb.2.2 v hv hq
      rw [if_neg (by decide), if_neg (by decide)]
      omega
    · have h1 := ha40 v hv hq
      have h2 := hb40 v hv hq
      rw [if_pos rfl, if_pos rfl]
      omega
  obtain ⟨x0, x1, x2, x3⟩ := key 0 (by omega)
  obtain ⟨y0, y1, y2, y3⟩ := key 1 (by omega)
  obtain ⟨z0, z1, z2, z3⟩ := key 2 (by omega)
  obtain ⟨u0, u1, u2, u3⟩ := key 3 (by omega)
  obtain ⟨a0, a1, a2, a3⟩ := cell_v ha.1
  obtain ⟨b0, b1, b2, b3⟩ := cell_v hb.1
  have hA1 := ha.1
  have hB1 := hb.1
  clear key ha hb ha40 hb40
  unfold c41
  have t0 : cell a 0 < cell b 0 ∨ (cell a 0 = cell b 0 ∧ (cell a 1 < cell b 1 ∨ (cell a 1 = cell b 1 ∧ (cell a 2 < cell b 2 ∨ (cell a 2 = cell b 2 ∧ cell a 3 < cell b 3))))) := by omega
  clear a0 a1 a2 a3 b0 b1 b2 b3 h hA1 hB1
  rcases t0 with t | ⟨t, t1 | ⟨t1, t2 | ⟨t2, t3⟩⟩⟩
  · have := x2 t
    clear x2 x3 y2 y3 z2 z3 u2 u3 t
    omega
  · have := x3 t
    have := y2 t1
    clear x2 x3 y2 y3 z2 z3 u2 u3 t t1
    omega
  · have := x3 t
    have := y3 t1
    have := z2 t2
    clear x2 x3 y2 y3 z2 z3 u2 u3 t t1 t2
    omega
  · have := x3 t
    have := y3 t1
    have := z3 t2
    have := u2 t3
    clear x2 x3 y2 y3 z2 z3 u2 u3 t t1 t2 t3
    omega
theorem insa_get {S : List Nat} {a x j : Nat} (ha : a ≤ S.length) (hj : j < (S.take a ++ x :: S.drop a).length) : (j < a → ∀ h : j < S.length, (S.take a ++ x :: S.drop a)[j] = S[j]) ∧ (j = a → (S.take a ++ x :: S.drop a)[j] = x) ∧ (a < j → ∀ h : j - 1 < S.length, (S.take a ++ x :: S.drop a)[j] = S[j - 1]) := by
  have lt : (S.take a).length = a := by rw [List.length_take]; omega
  refine ⟨fun h h2 => ?_, fun h => ?_, fun h h2 => ?_⟩
  · rw [List.getElem_append_left (by omega), List.getElem_take]
  · rw [List.getElem_append_right (by omega), List.getElem_cons, dif_pos (by omega)]
  · rw [List.getElem_append_right (by omega), List.getElem_cons, dif_neg (by omega), List.getElem_drop]
    congr 1
    omega
/-- nothing but the answers is another -/
def sameS (m m' : ModS) : Prop := m'.terms = m.terms ∧ m'.number = m.number ∧ m'.term = m.term ∧ m'.triples = m.triples ∧ m'.store = m.store ∧ m'.patterns = m.patterns ∧ m'.query = m.query ∧ m'.kept = m.kept ∧ m'.keptVariables = m.keptVariables ∧ m'.work = m.work ∧ m'.thrown = m.thrown
theorem N_sort {V : Nat} {W : List Nat} {m : ModS} {post : Int32 → ModS → Prop} (hW : W.length ≤ 2000) (hk : m.kept = nI W.length) (hw : ∀ (k : Nat) (h : k < W.length), m.work k = nI (c41 V W[k])) (h : ∀ (m' : ModS) (S : List Nat), sameS m m' → S.length = W.length → S.Perm (W.map (c41 V)) → S.Pairwise (fun a b => a ≤ b) → (∀ (j : Nat) (hj : j < S.length), m'.answers j = nI S[j]) → post (nI W.length) m') : wloop (P_X8_answersAll_B69 post) ((0 : Int32), m) := by
  refine wl (fun w => ∃ (k : Nat) (m' : ModS) (S : List Nat), w = (nI k, m') ∧ k ≤ W.length ∧ sameS m m' ∧ S.length = k ∧ S.Perm ((W.take k).map (c41 V)) ∧ S.Pairwise (fun a b => a ≤ b) ∧ ∀ (j : Nat) (hj : j < S.length), m'.answers j = nI S[j]) (fun w => 2000 - w.1.toNatClampNeg) ⟨0, m, [], rfl, by omega, ⟨rfl, rfl, rfl, rfl, rfl, rfl, rfl, rfl, rfl, rfl, rfl⟩, rfl, List.Perm.refl _, List.Pairwise.nil, fun j hj => absurd hj (Nat.not_lt_zero j)⟩ ?_
  rintro w ⟨k, m', S, rfl, hkl, hs, hSl, hSp, hSs, hSa⟩ K hK
  have hk' : m'.kept = nI W.length := hs.2.2.2.2.2.2.2.1.trans hk
  refine ⟨fun c => ?_, fun c => ?_⟩
  · have c : m'.kept ≤ nI k := c
    rw [hk'] at c
    have := (nI_leI (by omega) (by omega)).mp c
    have e : k = W.length := by omega
    show post m'.kept m'
    rw [hk']
    rw [e, List.take_length] at hSp
    exact h m' S hs (by omega) hSp hSs hSa
  · have hlt : k < W.length := by
      rcases Nat.lt_or_ge k W.length with q | q
      · exact q
      · exact absurd (show m'.kept ≤ nI k by rw [hk']; exact n_le q (by omega)) c
    have hx5 := c41_lt V W[k]
    have hwk := hw k hlt
    have hSp2 : ∀ S' : List Nat, S'.Perm (c41 V W[k] :: S) → S'.Perm ((W.take (k + 1)).map (c41 V)) := by
      intro S' hp
      rw [take_s hlt, List.map_append]
      exact hp.trans ((hSp.cons _).trans (List.perm_append_singleton _ _).symm)
    have hS5 : ∀ (j : Nat) (hj : j < S.length), S[j] < 5000000 := by
      intro j hj
      obtain ⟨r, -, e⟩ := List.mem_map.mp (hSp.mem_iff.mp (List.getElem_mem hj))
      rw [← e]; exact c41_lt V r
    generalize c41 V W[k] = x at hwk hSp2 hx5
    show wloop (P_X8_answersAll_B79 (nI k) K post) (nI k, m')
    refine wl (fun w => ∃ a m2, w = (nI a, m2) ∧ a ≤ k ∧ sameS m m2 ∧ (∀ (j : Nat) (hj : j < S.length), j < a → m2.answers j = nI S[j]) ∧ ∀ (j : Nat) (hj : j < S.length), a ≤ j → m2.answers (j + 1) = nI S[j] ∧ x < S[j]) (fun w => w.1.toNatClampNeg) ⟨k, m', rfl, by omega, hs, fun j hj _ => hSa j hj, fun j hj hj2 => by omega⟩ ?_
    rintro w ⟨a, m2, rfl, ha, hs2, hlo, hhi⟩ K2 hK2
    have hwk2 : m2.work (nI k).toNatClampNeg = nI x := by rw [hs2.2.2.2.2.2.2.2.2.2.1, n_cl (by omega)]; exact hwk
    have ink : vp_in (nI k) 2000 := n_in (by omega) (by omega)
    have ina : vp_in (nI a) 2000 := n_in (by omega) (by omega)
    have fin : (∀ (h : 0 < a) (h2 : a - 1 < S.length), S[a - 1] ≤ x) → P_X8_answersAll_j120 m2 (nI k) (nI a) K post := by
      intro hle
      refine ⟨ink, ina, ?_⟩
      show K (nI k + (1 : Int32), (m2.terms, m2.number, m2.term, m2.triples, m2.store, m2.patterns, m2.query, m2.bound, m2.found, m2.work, m2.kept, m2.keptVariables, upd m2.answers (nI a).toNatClampNeg (m2.work (nI k).toNatClampNeg), m2.thrown))
      rw [hwk2, n_cl (by omega), nI_1]
      have hlen : (S.take a ++ x :: S.drop a).length = k + 1 := by
        rw [List.length_append, List.length_cons, List.length_take, List.length_drop]; omega
      refine hK _ ⟨k + 1, _, S.take a ++ x :: S.drop a, rfl, by omega, hs2, hlen, ?_, ?_, fun j hj => ?_⟩ ?_
      · refine hSp2 _ ?_
        have := List.perm_middle (a := x) (l₁ := S.take a) (l₂ := S.drop a)
        rwa [List.take_append_drop] at this
      · rw [List.pairwise_append]
        have hsg := List.pairwise_iff_getElem.mp hSs
        refine ⟨hSs.sublist (List.take_sublist _ _), List.pairwise_cons.mpr ⟨fun b hb => ?_, hSs.sublist (List.drop_sublist _ _)⟩, fun b hb c hc => ?_⟩
        · obtain ⟨j, hj, e⟩ := List.mem_iff_getElem.mp hb
          rw [List.length_drop] at hj
          rw [List.getElem_drop] at e
          have := (hhi (a + j) (by omega) (by omega)).2
          omega
        · obtain ⟨i, hi, e⟩ := List.mem_iff_getElem.mp hb
          rw [List.length_take] at hi
          rw [List.getElem_take] at e
          have hbx : b ≤ x := by
            have h1 := hle (by omega) (by omega)
            rcases (show i = a - 1 ∨ i < a - 1 by omega) with z | z
            · subst z; omega
            · have := hsg i (a - 1) (by omega) (by omega) z
              omega
          rcases List.mem_cons.mp hc with z | z
          · omega
          · obtain ⟨j, hj, e2⟩ := List.mem_iff_getElem.mp z
            rw [List.length_drop] at hj
            rw [List.getElem_drop] at e2
            have := (hhi (a + j) (by omega) (by omega)).2
            omega
      · show upd m2.answers a (nI x) j = _
        obtain ⟨g1, g2, g3⟩ := insa_get (S := S) (a := a) (x := x) (j := j) (by omega) hj
        rcases Nat.lt_trichotomy j a with z | z | z
        · rw [g1 z (by omega), pk_un (by omega)]
          exact hlo j (by omega) z
        · rw [g2 z, z, pk_us]
        · rw [g3 z (by omega), pk_un (by omega)]
          have := (hhi (j - 1) (by omega) (by omega)).1
          rwa [show j - 1 + 1 = j by omega] at this
      · show 2000 - (nI (k + 1)).toNatClampNeg < 2000 - (nI k).toNatClampNeg
        rw [n_cl (by omega), n_cl (by omega)]; omega
    refine ⟨fun d => ?_, fun d => ?_⟩
    · have := (nI_leI (b := 0) (by omega) (by omega)).mp d
      exact fin (fun h0 _ => by omega)
    · have hpos : 0 < a := by
        rcases Nat.eq_zero_or_pos a with z | z
        · subst z; exact absurd (show nI 0 ≤ 0 by decide) d
        · exact z
      have e1 : nI a - (1 : Int32) = nI (a - 1) := by rw [show (1 : Int32) = nI 1 from rfl, n_sub hpos]
      have e2 : nI a + (-1 : Int32) = nI (a - 1) := by
        have e3 := nI_1 (a - 1)
        rw [show a - 1 + 1 = a by omega] at e3
        rw [← e3, Int32.add_assoc, show (1 : Int32) + (-1 : Int32) = 0 by decide, Int32.add_zero]
      have in1 : vp_in (nI (a - 1)) 2000 := n_in (by omega) (by omega)
      have hl1 : a - 1 < S.length := by omega
      have ean : m2.answers (nI (a - 1)).toNatClampNeg = nI S[a - 1] := by
        rw [n_cl (by omega)]; exact hlo _ hl1 (by omega)
      have h5 := hS5 _ hl1
      show vp_in (nI a - (1 : Int32)) 2000 ∧ vp_in (nI k) 2000 ∧ (m2.answers (nI a - (1 : Int32)).toNatClampNeg ≤ m2.work (nI k).toNatClampNeg → P_X8_answersAll_j120 m2 (nI k) (nI a) K post) ∧ (¬ m2.answers (nI a - (1 : Int32)).toNatClampNeg ≤ m2.work (nI k).toNatClampNeg → vp_in (nI a - (1 : Int32)) 2000 ∧ vp_in (nI a) 2000 ∧ K2 (nI a + (-1 : Int32), (m2.terms, m2.number, m2.term, m2.triples, m2.store, m2.patterns, m2.query, m2.bound, m2.found, m2.work, m2.kept, m2.keptVariables, upd m2.answers (nI a).toNatClampNeg (m2.answers (nI a - (1 : Int32)).toNatClampNeg), m2.thrown)))
      rw [e1, e2, ean, hwk2]
      refine ⟨in1, ink, fun c2 => ?_, fun c2 => ⟨in1, ina, ?_⟩⟩
      · have := (nI_leI (by omega) (by omega)).mp c2
        exact fin (fun _ _ => this)
      · have hgt : x < S[a - 1] := by
          rcases Nat.lt_or_ge x S[a - 1] with z | z
          · exact z
          · exact absurd (n_le z (by omega)) c2
        rw [n_cl (show a < 2147483648 by omega)]
        refine hK2 _ ⟨a - 1, _, rfl, by omega, hs2, fun j hj hj2 => ?_, fun j hj hj2 => ?_⟩ ?_
        · show upd m2.answers a (nI S[a - 1]) j = _
          rw [pk_un (by omega)]
          exact hlo j hj (by omega)
        · show upd m2.answers a (nI S[a - 1]) (j + 1) = _ ∧ _
          rcases (show j = a - 1 ∨ a ≤ j by omega) with z | z
          · subst z
            rw [show a - 1 + 1 = a by omega, pk_us]
            exact ⟨rfl, hgt⟩
          · rw [pk_un (by omega)]
            exact hhi j hj z
        · show (nI (a - 1)).toNatClampNeg < (nI a).toNatClampNeg
          rw [n_cl (by omega), n_cl (by omega)]; omega
theorem N_all0 {T M : List Nat} {Q : List Pt3} {A : List Nat} {kv : Nat} {m : ModS} {post : Int32 → ModS → Prop} (hi : inv T M Q A kv) (hm : mdl T M Q A kv m) (hb : Q.length = 0 ∨ BIG T M Q) (h : ∀ m', mdl T M Q A kv m' → m'.thrown = 1 → post 0 m') : P_X8_answersAll m post := by
  have hQ := hi.2.2.2.2.2.2.2.1
  have hp : m.patterns = nI Q.length := hm.2.2.1.1
  rcases Nat.eq_zero_or_pos Q.length with z | z
  · have hp0 : m.patterns = 0 := by rw [hp, z]; rfl
    refine ⟨fun _ => ⟨fun _ => ⟨fun c => absurd c (by decide), fun _ => ?_⟩, fun c => absurd hp0 c⟩, fun c => absurd ?_ c⟩
    · exact h (setX (setX m 0) 1) hm rfl
    · show m.patterns ≤ 0
      rw [hp0]; decide
  · refine ⟨fun c => ?_, fun _ => ?_⟩
    · have c : m.patterns ≤ 0 := c
      rw [hp] at c
      have := (nI_leI (b := 0) (by omega) (by omega)).mp c
      omega
    · refine N_goes hi (m := setX m 0) hm z (fun m' hs hw => ?_)
      have hm' := sameW_mdl hs (m := setX m 0) hm
      have j34 : P_X8_answersAll_j34 m' post := ⟨fun c => absurd c (by decide), fun _ => h (setX m' 1) hm' rfl⟩
      refine ⟨fun _ => j34, fun _ => ⟨fun c => ?_, fun _ => j34⟩⟩
      exfalso
      have c : m'.found ≤ nI 2000 := c
      rw [hw.1] at c
      have hr := allR_rows hi z
      have hM := hi.2.2.2.2.2.1
      have hlen : (allR T M Q).length ≤ 219660 := by
        unfold allR
        rw [dif_pos z]
        have h1 := flat_len (f := f1 T M Q (0 ||| vbits Q[0])) (c := 3661) (fun r => f1_len hM) (cand T M Q[0] 0 0)
        have h2 := cand_len (T := T) (X := Q[0]) (V := 0) (r := 0) hM
        omega
      have hle := (nI_leI (by omega) (by omega)).mp c
      obtain ⟨B, b1, b2, b3⟩ := hb.resolve_left (by omega)
      have := nodup_len b1 (fun a ha => (hr.2 a).mpr (b2 a ha))
      omega
theorem N_all1 {T M : List Nat} {Q : List Pt3} {A B : List Nat} {kv : Nat} {m : ModS} {post : Int32 → ModS → Prop} (hi : inv T M Q A kv) (hm : mdl T M Q A kv m) (hl : 0 < Q.length) (hB : rowsOf T M Q B) (hBs : B.Pairwise (fun a b => a < b)) (hBl : B.length ≤ 2000) (h : ∀ m', mdl T M Q B (qv Q) m' → m'.thrown = 0 → post (nI B.length) m') : P_X8_answersAll m post := by
  have hQ := hi.2.2.2.2.2.2.2.1
  have hX := hi.2.2.2.2.2.2.2.2.1
  have hT := hi.1
  have hp : m.patterns = nI Q.length := hm.2.2.1.1
  have hr := allR_rows hi hl
  have hperm : (allR T M Q).Perm B := (List.perm_ext_iff_of_nodup hr.1 hB.1).mpr (fun a => (hr.2 a).trans (hB.2 a).symm)
  have hlen := hperm.length_eq
  refine ⟨fun c => ?_, fun _ => ?_⟩
  · have c : m.patterns ≤ 0 := c
    rw [hp] at c
    have := (nI_leI (b := 0) (by omega) (by omega)).mp c
    omega
  · refine N_goes hi (m := setX m 0) hm hl (fun m' hs hw => ?_)
    have hm' := sameW_mdl hs (m := setX m 0) hm
    have ht' : m'.thrown = 0 := hs.2.2.2.2.2.2.2.2.2.2.1
    have hp' : m'.patterns = nI Q.length := hm'.2.2.1.1
    generalize allR T M Q = W at *
    refine ⟨fun c => ?_, fun _ => ⟨fun _ => ⟨fun _ => ?_, fun c => absurd (by decide) c⟩, fun c => ?_⟩⟩
    · have c : m'.patterns = nI 0 := c
      rw [hp'] at c
      have := (nI_eq (by omega) (by omega)).mp c
      omega
    · refine N_allVariables (m := (m'.terms, m'.number, m'.term, m'.triples, m'.store, m'.patterns, m'.query, m'.bound, m'.found, m'.work, m'.found, m'.keptVariables, m'.answers, (0 : Int32))) hm'.2.2.1 hQ hX ?_
      have hm2T : mdlT T (m'.terms, m'.number, m'.term, m'.triples, m'.store, m'.patterns, m'.query, m'.bound, m'.found, m'.work, m'.found, nI (qv Q), m'.answers, (0 : Int32)) := hm'.1
      have hm2M : mdlM M (m'.terms, m'.number, m'.term, m'.triples, m'.store, m'.patterns, m'.query, m'.bound, m'.found, m'.work, m'.found, nI (qv Q), m'.answers, (0 : Int32)) := hm'.2.1
      have hm2Q : mdlQ Q (m'.terms, m'.number, m'.term, m'.triples, m'.store, m'.patterns, m'.query, m'.bound, m'.found, m'.work, m'.found, nI (qv Q), m'.answers, (0 : Int32)) := hm'.2.2.1
      refine N_sort (V := qv Q) (W := W) (m := (m'.terms, m'.number, m'.term, m'.triples, m'.store, m'.patterns, m'.query, m'.bound, m'.found, m'.work, m'.found, nI (qv Q), m'.answers, (0 : Int32))) (by omega) hw.1 (fun k hk => hw.2 k hk (by omega)) (fun m3 S s3 s4 s5 s6 s7 => ?_)
      obtain ⟨a1, a2, a3, a4, a5, a6, a7, a8, a9, a10, a11⟩ := s3
      have rn := rows_num hi hB
      have hSe : S = B.map (c41 (qv Q)) := by
        refine List.Perm.eq_of_pairwise (le := fun a b => a ≤ b) (fun p q _ _ h1 h2 => by omega) s6 ?_ (s5.trans (hperm.map _))
        rw [List.pairwise_map]
        refine List.Pairwise.imp_of_mem (fun {a b} ha hb hab => ?_) hBs
        exact Nat.le_of_lt (c41_mono (rn a ha).1 (rn b hb).1 (fun v hv hb2 => by have := (rn a ha).2 v hv hb2; omega) (fun v hv hb2 => by have := (rn b hb).2 v hv hb2; omega) hab)
      rw [hlen]
      refine h m3 ⟨?_, ?_, ?_, ?_, ?_, fun k hk => ?_⟩ a11
      · unfold mdlT; rw [a1, a2, a3]; exact hm2T
      · unfold mdlM; rw [a4, a5]; exact hm2M
      · unfold mdlQ; rw [a6, a7]; exact hm2Q
      · rw [a8]; exact hw.1.trans (by rw [hlen])
      · exact a9
      · subst hSe
        have := s7 k (by rw [List.length_map]; exact hk)
        rw [this, List.getElem_map]
    · have c : ¬ m'.found ≤ nI 2000 := c
      rw [hw.1] at c
      exact absurd (n_le (by omega) (by omega)) c
-- one answer
theorem q_mod41 {a : Nat} (h : a < 2147483648) : nI a - nI a / (41 : Int32) * (41 : Int32) = nI (a % 41) := by
  rw [show (41 : Int32) = nI 41 from rfl, pk_div (by omega) (by omega) (by omega), pk_mul, n_sub (by omega)]
  congr 1; omega
theorem N_bind {kv a v : Nat} {m : ModS} {post : Int32 → Prop} (hv : v < 4) (h40 : ∀ u, u < 4 → kv.testBit u = true → cell a u < 40) (h : post (bv kv a v)) : P_X8_bindingOf m (nI (c41 kv a)) (nI v) post := by
  have d40 : ∀ u, u < 4 → d41 kv a u ≤ 40 := by
    intro u hu
    unfold d41
    split
    · next q => have := h40 u hu q; omega
    · omega
  have hd0 := d40 0 (by omega)
  have hd1 := d40 1 (by omega)
  have hd2 := d40 2 (by omega)
  have hd3 := d40 3 (by omega)
  have hc5 := c41_lt kv a
  refine wl (fun w => ∃ k q, w = (nI q, nI k) ∧ v ≤ k ∧ k ≤ 3 ∧ q = c41 kv a / 41 ^ (3 - k)) (fun w => w.2.toNatClampNeg) ⟨3, c41 kv a, rfl, by omega, by omega, by simp⟩ ?_
  rintro w ⟨k, q, rfl, hk1, hk2, hq⟩ K hK
  have hql : q ≤ c41 kv a := by rw [hq]; exact Nat.div_le_self _ _
  refine ⟨fun c => ?_, fun c => ?_⟩
  · have := (nI_leI (by omega) (by omega)).mp c
    have e : k = v := by omega
    subst e
    show post (nI q - nI q / (41 : Int32) * (41 : Int32) - (1 : Int32))
    rw [q_mod41 (by omega)]
    have e : q % 41 = d41 kv a k := by
      rw [hq]
      unfold c41
      rcases (show k = 0 ∨ k = 1 ∨ k = 2 ∨ k = 3 by omega) with rfl | rfl | rfl | rfl <;> simp only [Nat.reduceSub, Nat.reducePow] <;> omega
    rw [e]
    have e2 : nI (d41 kv a k) - (1 : Int32) = bv kv a k := by
      unfold d41 bv
      cases kv.testBit k
      · rw [if_neg (by decide), if_neg (by decide)]; decide
      · rw [if_pos rfl, if_pos rfl]
        exact n_sub (b := 1) (by omega)
    rw [e2]; exact h
  · have hlt : v < k := by
      rcases Nat.lt_or_ge v k with z | z
      · exact z
      · exact absurd (n_le z (by omega)) c
    have e3 : nI k + (-1 : Int32) = nI (k - 1) := by
      have e4 := nI_1 (k - 1)
      rw [show k - 1 + 1 = k by omega] at e4
      rw [← e4, Int32.add_assoc, show (1 : Int32) + (-1 : Int32) = 0 by decide, Int32.add_zero]
    show K (nI q / (41 : Int32), nI k + (-1 : Int32))
    rw [e3, show (41 : Int32) = nI 41 from rfl, pk_div (by omega) (by omega) (by omega)]
    refine hK _ ⟨k - 1, q / 41, rfl, by omega, by omega, ?_⟩ ?_
    · rw [hq, Nat.div_div_eq_div_mul, ← Nat.pow_succ]
      congr 2; omega
    · show (nI (k - 1)).toNatClampNeg < (nI k).toNatClampNeg
      rw [n_cl (by omega), n_cl (by omega)]; omega
theorem N_answer0 {A : List Nat} {kv : Nat} {m : ModS} {x y : Int32} {post : Int32 → ModS → Prop} (hm : mdlA A kv m) (hA : A.length ≤ 2000) (hn : ¬ isN A.length x) (h : post 0 (setX m 1)) : P_X8_answer m x y post := by
  have j26 : ∀ x0, P_X8_answer_j26 m x y x0 post := by
    intro x0
    show P_X8_isIn x (0 : Int32) (m.kept - (1 : Int32)) _
    rw [hm.1]
    exact N_isN (by omega) (fun g => absurd g hn) (fun _ => ⟨fun c => absurd rfl c, fun _ => ⟨fun c => absurd c (by decide), fun _ => h⟩⟩)
  exact N_isN4 (fun _ => ⟨fun c => absurd c (by decide), fun _ => ⟨fun _ => j26 0, fun _ => j26 1⟩⟩) (fun _ => ⟨fun _ => j26 0, fun c => absurd rfl c⟩)
theorem N_answer1 {A : List Nat} {kv : Nat} {m : ModS} {x y : Int32} {post : Int32 → ModS → Prop} (hm : mdlA A kv m) (hA : A.length ≤ 2000) (hkv : kv < 16) (hx : isN A.length x) (hy : ∀ v, v < 4 → y = nI v → kv.testBit v = false) (h : post 0 (setX m 2)) : P_X8_answer m x y post := by
  have j26 : P_X8_answer_j26 m x y 0 post := by
    show P_X8_isIn x (0 : Int32) (m.kept - (1 : Int32)) _
    rw [hm.1]
    exact N_isN (by omega) (fun _ => ⟨fun _ => ⟨fun _ => ⟨fun c => absurd c (by decide), fun _ => h⟩, fun c => absurd rfl c⟩, fun c => absurd c (by decide)⟩) (fun n => absurd hx n)
  refine N_isN4 (fun ⟨v, hv, e⟩ => ⟨fun c => absurd c (by decide), fun _ => ⟨fun _ => j26, fun c => ?_⟩⟩) (fun _ => ⟨fun _ => j26, fun c => absurd rfl c⟩)
  have hb := hy v hv e
  have c : ((m.keptVariables >>> (y &&& 31)) &&& (1 : Int32)) = (1 : Int32) := c
  rw [hm.2.1, e, q_bit (by omega) (by omega), hb] at c
  exact absurd c (by decide)
theorem N_answer2 {T A : List Nat} {kv i v : Nat} {m : ModS} {post : Int32 → ModS → Prop} (hmT : mdlT T m) (hT : T.length ≤ 40) (hm : mdlA A kv m) (ha : ansOK T A kv) (hA : A.length ≤ 2000) (hkv : kv < 16) (hi : i < A.length) (hv : v < 4) (hb : kv.testBit v = true) (hl : cell A[i] v < T.length) (h : post (nI T[cell A[i] v]) (setX m 0)) : P_X8_answer m (nI i) (nI v) post := by
  have j26 : P_X8_answer_j26 m (nI i) (nI v) 1 post := by
    show P_X8_isIn (nI i) (0 : Int32) (m.kept - (1 : Int32)) _
    rw [hm.1]
    refine N_isN (by omega) (fun _ => ⟨fun _ => ⟨fun c => absurd c (by decide), fun _ => ⟨fun _ => ⟨n_in (by omega) (by omega), ?_⟩, fun c => absurd (by decide) c⟩⟩, fun c => absurd c (by decide)⟩) (fun n => absurd ⟨i, hi, rfl⟩ n)
    rw [n_cl (show i < 2147483648 by omega), hm.2.2 i hi]
    refine N_bind hv (fun u hu hub => by have := (ha.2 _ (List.getElem_mem hi)).2 u hu hub; omega) ?_
    have e : bv kv A[i] v = nI (cell A[i] v) := by unfold bv; rw [if_pos hb]
    have tm := m_tm hmT hT hl
    rw [e]
    refine ⟨tm.1, ?_⟩
    rw [tm.2]; exact h
  refine N_isN4 (fun _ => ⟨fun c => absurd c (by decide), fun _ => ⟨fun c => ?_, fun _ => j26⟩⟩) (fun n => absurd ⟨v, hv, rfl⟩ n)
  have c : ¬ ((m.keptVariables >>> (nI v &&& 31)) &&& (1 : Int32)) = (1 : Int32) := c
  rw [hm.2.1, q_bit (by omega) (by omega), hb] at c
  exact absurd rfl c
theorem N_termsFor0 {m : ModS} {x : Int32} {post : Int32 → ModS → Prop} (hn : ¬ isN 4 x) (h : post 0 (setX m 1)) : P_X8_termsFor m x post := by
  refine N_isN4 (fun g => absurd g hn) (fun _ => ⟨fun _ => ?_, fun c => absurd rfl c⟩)
  refine wl (fun w => w = ((0 : Int32), (0 : Int32))) (fun _ => 0) rfl ?_
  rintro w rfl K hK
  exact ⟨fun _ => h, fun _ => ⟨fun _ => h, fun c => absurd c (by decide : ¬ (1 : Int32) = 0)⟩⟩
theorem N_termsFor1 {T A : List Nat} {kv v : Nat} {m : ModS} {post : Int32 → ModS → Prop} (hmT : mdlT T m) (hT : T.length ≤ 40) (hm : mdlA A kv m) (ha : ansOK T A kv) (hA : A.length ≤ 2000) (hv : v < 4) (h : post (nI (if kv.testBit v = true then tfor T A v else 0)) (setX m 0)) : P_X8_termsFor m (nI v) post := by
  have e0 : cnt (fun n => A.any (fun a => kv.testBit v && cell a v == n)) T.length = if kv.testBit v = true then tfor T A v else 0 := by
    cases kv.testBit v
    · rw [if_neg (by decide)]
      refine cnt_zero (fun i hi => ?_)
      rw [List.any_eq_false]
      intro a _
      simp
    · rw [if_pos rfl]
      unfold tfor
      refine cnt_congr (fun i hi => ?_)
      simp
  rw [← e0] at h
  clear e0
  refine N_isN4 (fun _ => ⟨fun c => absurd c (by decide), fun _ => ?_⟩) (fun n => absurd ⟨v, hv, rfl⟩ n)
  show wloop (P_X8_termsFor_B22 (setX m 0) (nI v) post) ((0 : Int32), (0 : Int32))
  have hmT : mdlT T (setX m 0) := hmT
  have hm : mdlA A kv (setX m 0) := hm
  have ht : (setX m 0).thrown = 0 := rfl
  generalize setX m 0 = m0 at h hm hmT ht ⊢
  refine wl (fun w => ∃ n, w = (nI (cnt (fun n => A.any (fun a => kv.testBit v && cell a v == n)) n), nI n) ∧ n ≤ T.length) (fun w => 40 - w.2.toNatClampNeg) ⟨0, rfl, by omega⟩ ?_
  rintro w ⟨n, rfl, hn⟩ K hK
  refine ⟨fun c => ?_, fun c => ⟨fun d => absurd ht d, fun _ => ?_⟩⟩
  · have c : m0.terms ≤ nI n := c
    rw [hmT.1] at c
    have := (nI_leI (by omega) (by omega)).mp c
    have e : n = T.length := by omega
    subst e; exact h
  · have hlt : n < T.length := by
      rcases Nat.lt_or_ge n T.length with q | q
      · exact q
      · exact absurd (show m0.terms ≤ nI n by rw [hmT.1]; exact n_le q (by omega)) c
    have or_ob : ∀ x y : Bool, ob x ||| ob y = ob (x || y) := by intro x y; cases x <;> cases y <;> decide
    have nx : ∀ b : Bool, b = A.any (fun a => kv.testBit v && cell a v == n) → K (nI (cnt (fun n => A.any (fun a => kv.testBit v && cell a v == n)) n) + ob b, nI n + (1 : Int32)) := by
      intro b e
      have e2 : ob b = nI (if A.any (fun a => kv.testBit v && cell a v == n) = true then 1 else 0) := by
        rw [← e]; cases b <;> rfl
      rw [e2, n_add, nI_1]
      refine hK _ ⟨n + 1, rfl, by omega⟩ ?_
      show 40 - (nI (n + 1)).toNatClampNeg < 40 - (nI n).toNatClampNeg
      rw [n_cl (by omega), n_cl (by omega)]; omega
    generalize nI (cnt (fun n => A.any (fun a => kv.testBit v && cell a v == n)) n) = ct at nx ⊢
    refine wl (fun w => ∃ k, w = (ob ((A.take k).any (fun a => kv.testBit v && cell a v == n)), nI k) ∧ k ≤ A.length) (fun w => 2000 - w.2.toNatClampNeg) ⟨0, rfl, by omega⟩ ?_
    rintro w ⟨k, rfl, hk⟩ K2 hK2
    refine ⟨fun c => ?_, fun c => ?_⟩
    · have c : m0.kept ≤ nI k := c
      rw [hm.1] at c
      have := (nI_leI (by omega) (by omega)).mp c
      have e : k = A.length := by omega
      subst e
      rw [List.take_length]
      refine ⟨fun d => ?_, fun d => ?_⟩
      · exact nx false ((obz _).mp d).symm
      · refine nx true ?_
        cases hz : A.any (fun a => kv.testBit v && cell a v == n)
        · exact absurd ((obz _).mpr hz) d
        · rfl
    · have hkl : k < A.length := by
        rcases Nat.lt_or_ge k A.length with q | q
        · exact q
        · exact absurd (show m0.kept ≤ nI k by rw [hm.1]; exact n_le q (by omega)) c
      have nx2 : ∀ b : Bool, b = (kv.testBit v && cell A[k] v == n) → K2 (ob ((A.take k).any (fun a => kv.testBit v && cell a v == n)) ||| ob b, nI k + (1 : Int32)) := by
        intro b e
        rw [or_ob, e, nI_1]
        refine hK2 _ ⟨k + 1, ?_, by omega⟩ ?_
        · rw [take_s hkl, List.any_append]
          simp
        · show 2000 - (nI (k + 1)).toNatClampNeg < 2000 - (nI k).toNatClampNeg
          rw [n_cl (by omega), n_cl (by omega)]; omega
      show vp_in (nI k) 2000 ∧ P_X8_bindingOf m0 (m0.answers (nI k).toNatClampNeg) (nI v) (fun r => (¬ r = nI n → K2 (ob ((A.take k).any (fun a => kv.testBit v && cell a v == n)) ||| ob false, nI k + (1 : Int32))) ∧ (r = nI n → K2 (ob ((A.take k).any (fun a => kv.testBit v && cell a v == n)) ||| ob true, nI k + (1 : Int32))))
      rw [n_cl (show k < 2147483648 by omega), hm.2.2 k hkl]
      refine ⟨n_in (by omega) (by omega), N_bind hv (fun u hu hub => by have := (ha.2 _ (List.getElem_mem hkl)).2 u hu hub; omega) ?_⟩
      have hcl := cell_lt A[k] v
      have ebv : (bv kv A[k] v = nI n) ↔ (kv.testBit v && cell A[k] v == n) = true := by
        unfold bv
        cases kv.testBit v
        · rw [if_neg (by decide)]
          refine ⟨fun e => ?_, fun e => by simp at e⟩
          have : ¬ (nI n < 0) := nI_pos (by omega)
          rw [← e] at this
          exact absurd (by decide) this
        · rw [if_pos rfl, nI_eq (by omega) (by omega)]
          simp
      refine ⟨fun d => nx2 false ?_, fun d => nx2 true (ebv.mp d).symm⟩
      cases hz : (kv.testBit v && cell A[k] v == n)
      · rfl
      · exact absurd (ebv.mpr hz) d
