/-! PURE SIDE 22: the class's small calls -/
def isN (k : Nat) (x : Int32) : Prop := ∃ n, n < k ∧ x = nI n
theorem isN_dec {k : Nat} (hk : k < 2147483648) {x : Int32} : (x < 0 → ¬ isN k x) ∧ (¬ x < 0 → (nI k ≤ x → ¬ isN k x) ∧ (¬ nI k ≤ x → isN k x)) := by
  refine ⟨fun c ⟨n, hn, e⟩ => absurd c (by rw [e]; exact nI_pos (by omega)), fun c => ⟨fun c2 ⟨n, hn, e⟩ => ?_, fun c2 => ?_⟩⟩
  · rw [e] at c2
    have := (nI_leI hk (by omega)).mp c2
    omega
  · rcases n_of x with y | ⟨n, hn, e⟩
    · exact absurd y c
    · refine ⟨n, ?_, e⟩
      rcases Nat.lt_or_ge n k with z | z
      · exact z
      · rw [e] at c2; exact absurd (n_le z hn) c2
theorem S_isOrder {x : Int32} {post : Int32 → Prop} (h1 : isN 3 x → post 1) (h0 : ¬ isN 3 x → post 0) : P_X7_isOrder x post := by
  obtain ⟨g1, g2⟩ := isN_dec (k := 3) (by omega) (x := x)
  exact ⟨fun c => h0 (g1 c), fun c => ⟨fun c2 => h0 ((g2 c).1 c2), fun c2 => h1 ((g2 c).2 c2)⟩⟩
/-- a place: below a size, or not -/
theorem below {k : Nat} (hk : k < 2147483648) {x : Int32} : (x < 0 → ¬ isN k x) ∧ (¬ x < 0 → (x < nI k → isN k x) ∧ (¬ x < nI k → ¬ isN k x)) := by
  obtain ⟨g1, g2⟩ := isN_dec hk (x := x)
  refine ⟨g1, fun c => ⟨fun c2 => (g2 c).2 (fun c3 => (Int32.lt_irrefl (Int32.lt_of_lt_of_le c2 c3)).elim), fun c2 ⟨n, hn, e⟩ => c2 (by rw [e]; exact n_lt hn hk)⟩⟩
theorem C_triples {T M : List Nat} {Q : List Pt3} {A : List Nat} {kv : Nat} {c : TriS} {post : Int32 → Prop} (hc : cls T M Q A kv c) (h : post (nI M.length)) : P_X7_triples c post := S_ssize hc.2.1 h
theorem C_terms {T M : List Nat} {Q : List Pt3} {A : List Nat} {kv : Nat} {c : TriS} {post : Int32 → Prop} (hc : cls T M Q A kv c) (h : post (nI T.length)) : P_X7_terms c post := by
  show post c.dictionary.size
  rw [hc.1.1]; exact h
theorem C_numberOf {T M : List Nat} {Q : List Pt3} {A : List Nat} {kv : Nat} {c : TriS} {x : Int32} {post : Int32 → Prop} {postX : Nat → Prop} (hc : cls T M Q A kv c) (h0 : ¬ isT x → postX 1) (h1 : ∀ a, a < 100 → x = nI a → a ∉ T → post (-1)) (h2 : ∀ a, a < 100 → x = nI a → a ∈ T → post (nI (T.idxOf a))) : P_X7_numberOf c x post postX := by
  refine S_isTerm (fun ⟨a, ha, e⟩ => ⟨fun _ => ?_, fun z => absurd z (by decide)⟩) (fun n => ⟨fun z => absurd rfl z, fun _ => h0 n⟩)
  have g1 := h1 a ha e
  have g2 := h2 a ha e
  subst e
  refine S_knows hc.1 ha ?_
  by_cases q : a ∈ T
  · rw [if_pos q]
    refine ⟨fun z => absurd z (by decide), fun _ => S_number hc.1 ha ?_⟩
    unfold num; rw [if_pos q]; exact g2 q
  · rw [if_neg q]
    exact ⟨fun _ => g1 q, fun z => absurd rfl z⟩
theorem C_termOf {T M : List Nat} {Q : List Pt3} {A : List Nat} {kv : Nat} {c : TriS} {x : Int32} {post : Int32 → Prop} {postX : Nat → Prop} (hc : cls T M Q A kv c) (h0 : ¬ isN T.length x → postX 3) (h1 : ∀ i (hi : i < T.length), x = nI i → post (nI T[i])) : P_X7_termOf c x post postX := by
  have hT := hc.1.2.1
  obtain ⟨g1, g2⟩ := below (k := T.length) (by omega) (x := x)
  have hsz : c.dictionary.size = nI T.length := hc.1.1
  refine ⟨fun c1 => h0 (g1 c1), fun c1 => ⟨fun c2 => ?_, fun c2 => ?_⟩⟩
  · have c2 : x < c.dictionary.size := c2
    rw [hsz] at c2
    obtain ⟨i, hi, e⟩ := (g2 c1).1 c2
    have := h1 i hi e
    subst e
    exact S_term hc.1 hi this
  · have c2 : ¬ x < c.dictionary.size := c2
    rw [hsz] at c2
    exact h0 ((g2 c1).2 c2)
theorem C_termAt {T M : List Nat} {Q : List Pt3} {A : List Nat} {kv : Nat} {c : TriS} {x y z : Int32} {post : Int32 → Prop} {postX : Nat → Prop} (hc : cls T M Q A kv c) (h0 : ¬ (isN 3 x ∧ isN 3 z) → postX 1) (h1 : isN 3 x → isN 3 z → ¬ isN M.length y → postX 3) (h2 : ∀ o i p K, o < 3 → p < 3 → x = nI o → y = nI i → z = nI p → SL K → K.Perm (keysOf M o) → ∀ (hi : i < K.length) (hp : part (rol K[i] ((3 - o) % 3)) p < T.length), post (nI T[part (rol K[i] ((3 - o) % 3)) p])) : P_X7_termAt c x y z post postX := by
  obtain ⟨a1, a2, a3, -⟩ := hc
  have hMl := sto_len a2
  obtain ⟨z1, z2⟩ := below (k := 3) (by omega) (x := z)
  obtain ⟨y1, y2⟩ := below (k := M.length) (by omega) (x := y)
  refine S_isOrder (fun hx => ⟨fun _ => ⟨fun cz => h0 (fun g => z1 cz g.2), fun cz => ⟨fun cz2 => ?_, fun cz2 => h0 (fun g => (z2 cz).2 cz2 g.2)⟩⟩, fun e => absurd e (by decide)⟩) (fun nx => ⟨fun e => absurd rfl e, fun _ => h0 (fun g => nx g.1)⟩)
  have hz := (z2 cz).1 cz2
  refine ⟨fun cy => h1 hx hz (y1 cy), fun cy => S_ssize a2 ⟨fun cy2 => ?_, fun cy2 => h1 hx hz ((y2 cy).2 cy2)⟩⟩
  obtain ⟨o, ho, ex⟩ := hx
  obtain ⟨p, hp, ez⟩ := hz
  obtain ⟨i, hi, ey⟩ := (y2 cy).1 cy2
  obtain ⟨K, hK, hpm⟩ := a2.2.2 o ho
  have hKl : K.length = M.length := by rw [hpm.length_eq]; unfold keysOf; rw [List.length_map]
  have g := h2 o i p K ho hp ex ey ez hK.2.2.1 hpm (by omega)
  subst ex ey ez
  have hiK : i < K.length := by omega
  have hkb := hK.2.2.2.1 _ (List.getElem_mem hiK)
  have hmem : rol K[i] ((3 - o) % 3) ∈ M := by
    obtain ⟨t, ht, e⟩ := List.mem_map.mp (hpm.mem_iff.mp (List.getElem_mem hiK))
    rw [← e, rol_rol (a2.2.1 t ht) ho]; exact ht
  have hpt := a3 _ hmem p hp
  refine S_striple hK ho hiK (S_partOf (Nat.lt_trans (rol_lt hkb) (by omega)) (by omega) (S_term a1 hpt ?_))
  exact g hpt
theorem C_patterns {T M : List Nat} {Q : List Pt3} {A : List Nat} {kv : Nat} {c : TriS} {post : Int32 → Prop} (hc : cls T M Q A kv c) (h : post (nI Q.length)) : P_X7_patterns c post := by
  show post c.query.size
  rw [hc.2.2.2.1.2.1]; exact h
theorem C_forget {T M : List Nat} {Q : List Pt3} {A : List Nat} {kv : Nat} {c : TriS} {post : Int32 → TriS → Prop} (hc : cls T M Q A kv c) (h : ∀ c', cls T M [] A kv c' → post (nI Q.length) c') : P_X7_forget c post := by
  obtain ⟨a1, a2, a3, a4, a5⟩ := hc
  show post c.query.size _
  rw [a4.2.1]
  exact h _ ⟨a1, a2, a3, ⟨by simp, rfl, fun i hi => absurd hi (Nat.not_lt_zero i)⟩, a5⟩
theorem C_answers {T M : List Nat} {Q : List Pt3} {A : List Nat} {kv : Nat} {c : TriS} {post : Int32 → Prop} (hc : cls T M Q A kv c) (h : post (nI A.length)) : P_X7_answers c post := by
  show post c.keptSize
  rw [hc.2.2.2.2.1.1]; exact h
theorem C_variables {T M : List Nat} {Q : List Pt3} {A : List Nat} {kv : Nat} {c : TriS} {post : Int32 → Prop} (hc : cls T M Q A kv c) (h : post (nI (qv Q))) : P_X7_variables c post := S_qvars hc.2.2.2.1 h
theorem C_joined {T M : List Nat} {Q : List Pt3} {A : List Nat} {kv : Nat} {c : TriS} {x : Int32} {post : Int32 → TriS → Prop} {postX : Nat → TriS → Prop} (hc : cls T M Q A kv c) (h0 : ¬ isN Q.length x → postX 3 c) (h1 : ∀ i, i < Q.length → x = nI i → ∀ c', cls T M Q A kv c' → post (nI (jo T M Q i)) c') : P_X7_joined c x post postX := by
  obtain ⟨a1, a2, a3, a4, a5⟩ := id hc
  have hsz : c.query.size = nI Q.length := a4.2.1
  obtain ⟨g1, g2⟩ := below (k := Q.length) (by have := a4.1; omega) (x := x)
  refine ⟨fun c1 => h0 (g1 c1), fun c1 => ⟨fun c2 => ?_, fun c2 => ?_⟩⟩
  · have c2 : x < c.query.size := c2
    rw [hsz] at c2
    obtain ⟨i, hi, e⟩ := (g2 c1).1 c2
    have g := h1 i hi e
    subst e
    refine S_qlook a1 a2 a4 (fun q' hq' => S_inJoinOrder (sto_len a2) hq' hi ?_)
    exact g _ ⟨a1, a2, a3, hq'.1, a5⟩
  · have c2 : ¬ x < c.query.size := c2
    rw [hsz] at c2
    exact h0 ((g2 c1).2 c2)
theorem C_matches {T M : List Nat} {Q : List Pt3} {A : List Nat} {kv : Nat} {c : TriS} {x : Int32} {post : Int32 → TriS → Prop} {postX : Nat → TriS → Prop} (hc : cls T M Q A kv c) (h0 : ¬ isN Q.length x → postX 3 c) (h1 : ∀ i (hi : i < Q.length), x = nI i → ∀ c', cls T M Q A kv c' → post (nI (cand T M Q[i] 0 0).length) c') : P_X7_matches c x post postX := by
  obtain ⟨a1, a2, a3, a4, a5⟩ := id hc
  have hsz : c.query.size = nI Q.length := a4.2.1
  have hQ3 := a4.1
  obtain ⟨g1, g2⟩ := below (k := Q.length) (by omega) (x := x)
  refine ⟨fun c1 => h0 (g1 c1), fun c1 => ⟨fun c2 => ?_, fun c2 => ?_⟩⟩
  · have c2 : x < c.query.size := c2
    rw [hsz] at c2
    obtain ⟨i, hi, e⟩ := (g2 c1).1 c2
    have g := h1 i hi e
    subst e
    refine S_qlook a1 a2 a4 (fun q' hq' => ?_)
    have f := (hq'.2 i hi).2
    have g := g (c.dictionary, c.store, q', c.joins, c.kept, c.keptSize, c.keptVariables) ⟨a1, a2, a3, hq'.1, a5⟩
    rw [← f] at g
    refine S_pattern (by omega) ⟨fun d => ?_, fun d => ?_, fun d => ?_⟩
    · subst d; exact g
    · subst d; exact g
    · subst d; exact g
  · have c2 : ¬ x < c.query.size := c2
    rw [hsz] at c2
    exact h0 ((g2 c1).2 c2)
