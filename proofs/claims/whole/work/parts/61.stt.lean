/-! PURE SIDE 31: the model: state, takeBack, the dictionary's calls -/
theorem m_nb {T : List Nat} {m : ModS} (hm : mdlT T m) {a : Nat} (ha : a < 100) : vp_in (nI a) 100 ∧ m.number (nI a).toNatClampNeg = nb T a := by
  refine ⟨n_in ha (by omega), ?_⟩
  rw [n_cl (by omega)]
  exact hm.2.1 a ha
theorem nb_le {T : List Nat} (hT : T.length ≤ 40) {a : Nat} : 0 ≤ nb T a ↔ a ∈ T := by
  unfold nb
  by_cases q : a ∈ T
  · rw [if_pos q]
    have := List.idxOf_lt_length_of_mem q
    exact ⟨fun _ => q, fun _ => nI_pos' (by omega)⟩
  · rw [if_neg q]
    exact ⟨fun z => absurd z (by decide), fun z => absurd z q⟩
theorem nb_in {T : List Nat} {a : Nat} (h : a ∈ T) : nb T a = nI (num T a) := by
  unfold nb num
  rw [if_pos h, if_pos h]
/-- nothing but the dictionary is another -/
def sameT (m m' : ModS) : Prop := m'.triples = m.triples ∧ m'.store = m.store ∧ m'.patterns = m.patterns ∧ m'.query = m.query ∧ m'.kept = m.kept ∧ m'.keptVariables = m.keptVariables ∧ m'.answers = m.answers ∧ m'.thrown = m.thrown
theorem N_numbered {T : List Nat} {m : ModS} {a : Nat} {post : Int32 → ModS → Prop} (hm : mdlT T m) (hT : T.length ≤ 40) (ha : a < 100) (hl : (lrn T a).length ≤ 40) (h : ∀ m', mdlT (lrn T a) m' → sameT m m' → post (nI (num (lrn T a) a)) m') : P_X8_numbered m (nI a) post := by
  have hn := m_nb hm ha
  refine ⟨hn.1, fun c => ⟨hn.1, ?_⟩, fun c => ⟨hn.1, ?_⟩⟩
  · rw [hn.2] at c
    have q := (nb_le hT).mp c
    have e : lrn T a = T := by unfold lrn; rw [if_pos q]
    rw [hn.2, nb_in q]
    rw [e] at h
    exact h m hm ⟨rfl, rfl, rfl, rfl, rfl, rfl, rfl, rfl⟩
  · rw [hn.2] at c
    have q : a ∉ T := fun z => c ((nb_le hT).mpr z)
    have e : lrn T a = T ++ [a] := by unfold lrn; rw [if_neg q]
    have e2 : num (lrn T a) a = T.length := by
      unfold num
      rw [if_pos (lrn_in T a), e, idxOf_new q]
    rw [lrn_len, if_neg q] at hl
    have hsz : m.terms = nI T.length := hm.1
    rw [e2] at h
    rw [hsz]
    refine ⟨n_in (by omega) (by omega), hn.1, ?_⟩
    rw [n_cl (show a < 2147483648 by omega), n_cl (show T.length < 2147483648 by omega), pk_us, nI_1]
    refine h _ ?_ ⟨rfl, rfl, rfl, rfl, rfl, rfl, rfl, rfl⟩
    rw [e]
    refine ⟨?_, fun t ht => ?_, fun i hi => ?_⟩
    · show nI (T.length + 1) = nI (T ++ [a]).length
      rw [List.length_append, List.length_singleton]
    · show upd m.number a (nI T.length) t = nb (T ++ [a]) t
      unfold nb
      by_cases z : t = a
      · subst z
        rw [pk_us, if_pos (by simp), idxOf_new q]
      · rw [pk_un z, hm.2.1 t ht]
        unfold nb
        by_cases y : t ∈ T
        · rw [if_pos y, if_pos (List.mem_append_left _ y), idxOf_app y]
        · rw [if_neg y, if_neg (by simp [y, z])]
    · show upd m.term T.length (nI a) i = _
      rw [List.length_append, List.length_singleton] at hi
      rcases Nat.lt_or_ge i T.length with y | y
      · rw [pk_un (by omega), hm.2.2 i y, List.getElem_append_left y]
      · have z : i = T.length := by omega
        subst z
        rw [pk_us, List.getElem_append_right (Nat.le_refl _)]
        simp
theorem N_unknown {T : List Nat} {m : ModS} {a b d : Nat} {post : Int32 → Prop} (hm : mdlT T m) (hT : T.length ≤ 40) (ha : a < 100) (hb : b < 100) (hd : d < 100) (h : post (nI (unk T a b d))) : P_X8_unknown m (nI a) (nI b) (nI d) post := by
  have na := m_nb hm ha
  have nbb := m_nb hm hb
  have nd := m_nb hm hd
  have j37 : ∀ x y : Nat, x + y + (if d ∈ T ∨ d = a ∨ d = b then 0 else 1) = unk T a b d → P_X8_unknown_j37 m (nI a) (nI b) (nI d) (nI y) (nI x) post := by
    intro x y e
    refine ⟨nd.1, fun c => ?_, fun c => ⟨fun c2 => ?_, fun c2 => ⟨fun c3 => ?_, fun c3 => ?_⟩⟩⟩
    · rw [nd.2] at c
      rw [if_pos (Or.inl ((nb_le hT).mp c))] at e
      show post (nI x + nI y + nI 0)
      rw [n_add, n_add, e]; exact h
    · have c2 := (nI_eq (by omega) (by omega)).mp c2
      rw [if_pos (Or.inr (Or.inl c2))] at e
      show post (nI x + nI y + nI 0)
      rw [n_add, n_add, e]; exact h
    · have c3 := (nI_eq (by omega) (by omega)).mp c3
      rw [if_pos (Or.inr (Or.inr c3))] at e
      show post (nI x + nI y + nI 0)
      rw [n_add, n_add, e]; exact h
    · rw [nd.2] at c
      have y1 : d ∉ T := fun z => c ((nb_le hT).mpr z)
      have y2 : d ≠ a := fun z => c2 (by rw [z])
      have y3 : d ≠ b := fun z => c3 (by rw [z])
      rw [if_neg (by simp [y1, y2, y3])] at e
      show post (nI x + nI y + nI 1)
      rw [n_add, n_add, e]; exact h
  have j14 : ∀ x : Nat, x = (if a ∈ T then 0 else 1) → P_X8_unknown_j14 m (nI a) (nI b) (nI d) (nI x) post := by
    intro x e
    refine ⟨nbb.1, fun c => ?_, fun c => ⟨fun c2 => ?_, fun c2 => ?_⟩⟩
    · rw [nbb.2] at c
      refine j37 x 0 ?_
      unfold unk
      rw [if_pos (Or.inl ((nb_le hT).mp c) : b ∈ T ∨ b = a), e]
    · have c2 := (nI_eq (by omega) (by omega)).mp c2
      refine j37 x 0 ?_
      unfold unk
      rw [if_pos (Or.inr c2 : b ∈ T ∨ b = a), e]
    · rw [nbb.2] at c
      have y1 : b ∉ T := fun z => c ((nb_le hT).mpr z)
      have y2 : b ≠ a := fun z => c2 (by rw [z])
      refine j37 x 1 ?_
      unfold unk
      rw [if_neg (by simp [y1, y2] : ¬ (b ∈ T ∨ b = a)), e]
  refine ⟨na.1, fun c => ?_, fun c => ?_⟩
  · rw [na.2] at c
    exact j14 0 (by rw [if_pos ((nb_le hT).mp c)])
  · rw [na.2] at c
    exact j14 1 (by rw [if_neg (fun z => c ((nb_le hT).mpr z))])
theorem num_keep {T : List Nat} {t u : Nat} (h : t ∈ T) : num (lrn T u) t = num T t := by
  unfold lrn
  split
  · rfl
  · unfold num
    rw [if_pos h, if_pos (List.mem_append_left _ h), idxOf_app h]
/-- the model with thrown -/
def setX (m : ModS) (x : Int32) : ModS := (m.terms, m.number, m.term, m.triples, m.store, m.patterns, m.query, m.bound, m.found, m.work, m.kept, m.keptVariables, m.answers, x)
theorem N_state0 {m : ModS} {x y z : Int32} {post : Int32 → ModS → Prop} (hn : ¬ (isT x ∧ isT y ∧ isT z)) (h : post 0 (setX m 1)) : P_X8_state m x y z post := by
  refine N_are (C := isT) (fun w p h1 h0 => N_isT h1 h0) (fun g1 g2 g3 => absurd ⟨g1, g2, g3⟩ hn) (fun _ => ⟨fun _ => ⟨fun _ => h, fun c => absurd (by decide) c⟩, fun c => absurd rfl c⟩)
theorem N_stateG {m : ModS} {a b d : Nat} {post : Int32 → ModS → Prop} (ha : a < 100) (hb : b < 100) (hd : d < 100) (h : P_X8_state_j16 m (nI a) (nI b) (nI d) 0 post) : P_X8_state m (nI a) (nI b) (nI d) post := by
  refine N_are (C := isT) (fun w p h1 h0 => N_isT h1 h0) (fun g1 g2 g3 => ⟨fun c => absurd c (by decide), fun _ => h⟩) (fun n => absurd ⟨⟨a, ha, rfl⟩, ⟨b, hb, rfl⟩, ⟨d, hd, rfl⟩⟩ n)
theorem N_state1 {T M : List Nat} {Q : List Pt3} {A : List Nat} {kv : Nat} {m : ModS} {a b d : Nat} {post : Int32 → ModS → Prop} (hi : inv T M Q A kv) (hm : mdl T M Q A kv m) (ha : a < 100) (hb : b < 100) (hd : d < 100) (hin : enc (num T a) (num T b) (num T d) ∈ M) (h : post 0 (setX m 0)) : P_X8_state m (nI a) (nI b) (nI d) post := by
  refine N_stateG ha hb hd ⟨fun c => absurd c (by decide), fun _ => N_find hi hm.1 hm.2.1 ha hb hd (fun n => absurd hin n) (fun k hk _ => ⟨fun c => absurd c (nI_pos (by have := hi.2.2.2.2.2.1; omega)), fun _ => h⟩)⟩
theorem N_state2 {T M : List Nat} {Q : List Pt3} {A : List Nat} {kv : Nat} {m : ModS} {a b d : Nat} {post : Int32 → ModS → Prop} (hi : inv T M Q A kv) (hm : mdl T M Q A kv m) (ha : a < 100) (hb : b < 100) (hd : d < 100) (hni : enc (num T a) (num T b) (num T d) ∉ M) (hf : 60 ≤ M.length ∨ 40 < T.length + unk T a b d) (h : post 0 (setX m 2)) : P_X8_state m (nI a) (nI b) (nI d) post := by
  have hM := hi.2.2.2.2.2.1
  have hT := hi.1
  have hu3 : unk T a b d ≤ 3 := by unfold unk; split <;> split <;> split <;> omega
  have j65 : P_X8_state_j65 (setX m 0) (nI a) (nI b) (nI d) post := ⟨fun c => absurd c (by decide), fun _ => h⟩
  refine N_stateG ha hb hd ⟨fun c => absurd c (by decide), fun _ => N_find hi hm.1 hm.2.1 ha hb hd (fun _ => ⟨fun _ => ⟨fun _ => j65, fun c => ?_⟩, fun c => absurd (by decide) c⟩) (fun k hk e => absurd (e ▸ List.getElem_mem hk) hni)⟩
  have c : ¬ m.triples = (60 : Int32) := c
  rw [hm.2.1.1] at c
  have c3 : ¬ M.length = 60 := fun z => c (by rw [z]; rfl)
  refine N_unknown (m := setX m 0) hm.1 hT ha hb hd ⟨fun c2 => ?_, fun _ => j65⟩
  have c2 : m.terms + nI (unk T a b d) ≤ (40 : Int32) := c2
  rw [hm.1.1, n_add] at c2
  have := (nI_leI (b := 40) (by omega) (by omega)).mp c2
  omega
theorem N_state3 {T M : List Nat} {Q : List Pt3} {A : List Nat} {kv : Nat} {m : ModS} {a b d : Nat} {post : Int32 → ModS → Prop} (hi : inv T M Q A kv) (hm : mdl T M Q A kv m) (ha : a < 100) (hb : b < 100) (hd : d < 100) (hni : enc (num T a) (num T b) (num T d) ∉ M) (hl : M.length < 60) (hle : T.length + unk T a b d ≤ 40) (h : ∀ m', mdl (lrn3 T a b d) (M ++ [enc (num (lrn3 T a b d) a) (num (lrn3 T a b d) b) (num (lrn3 T a b d) d)]) Q A kv m' → m'.thrown = 0 → post 1 m') : P_X8_state m (nI a) (nI b) (nI d) post := by
  have hT := hi.1
  have hl3 := unk_len T a b d
  have l1 := lrn_le (lrn (lrn T a) b) d
  have l2 := lrn_le (lrn T a) b
  have l0 := lrn_le T a
  refine N_stateG ha hb hd ⟨fun c => absurd c (by decide), fun _ => N_find hi hm.1 hm.2.1 ha hb hd (fun _ => ⟨fun _ => ⟨fun c => ?_, fun _ => ?_⟩, fun c => absurd (by decide) c⟩) (fun k hk e => absurd (e ▸ List.getElem_mem hk) hni)⟩
  · have c : m.triples = nI 60 := c
    rw [hm.2.1.1] at c
    have := (nI_eq (by omega) (by omega)).mp c
    omega
  refine N_unknown (m := setX m 0) hm.1 hT ha hb hd ⟨fun _ => ⟨fun _ => ?_, fun c => absurd (by decide) c⟩, fun c2 => ?_⟩
  · have htr : m.triples = nI M.length := hm.2.1.1
    have in0 : vp_in ((3 : Int32) * m.triples) 180 := by rw [htr, ix0]; exact n_in (by omega) (by omega)
    have in1 : vp_in ((3 : Int32) * m.triples + (1 : Int32)) 180 := by rw [htr, ix1]; exact n_in (by omega) (by omega)
    have in2 : vp_in ((3 : Int32) * m.triples + (2 : Int32)) 180 := by rw [htr, ix2]; exact n_in (by omega) (by omega)
    refine N_numbered (m := setX (setX m 0) 0) hm.1 hT ha (by omega) (fun u4 h1 g4 => ⟨in0, ?_⟩)
    have a1 : u4.triples = m.triples := g4.1
    have a2 : u4.store = m.store := g4.2.1
    have a3 : u4.patterns = m.patterns := g4.2.2.1
    have a4 : u4.query = m.query := g4.2.2.2.1
    have a5 : u4.kept = m.kept := g4.2.2.2.2.1
    have a6 : u4.keptVariables = m.keptVariables := g4.2.2.2.2.2.1
    have a7 : u4.answers = m.answers := g4.2.2.2.2.2.2.1
    have a8 : u4.thrown = 0 := g4.2.2.2.2.2.2.2
    clear g4
    refine N_numbered (T := lrn T a) h1 (by omega) hb (by omega) (fun u6 h2 g6 => ⟨by rw [a1]; exact in1, ?_⟩)
    have b1 : u6.triples = m.triples := g6.1.trans a1
    have b2 : u6.store = upd u4.store ((3 : Int32) * m.triples).toNatClampNeg (nI (num (lrn T a) a)) := g6.2.1
    have b3 : u6.patterns = m.patterns := g6.2.2.1.trans a3
    have b4 : u6.query = m.query := g6.2.2.2.1.trans a4
    have b5 : u6.kept = m.kept := g6.2.2.2.2.1.trans a5
    have b6 : u6.keptVariables = m.keptVariables := g6.2.2.2.2.2.1.trans a6
    have b7 : u6.answers = m.answers := g6.2.2.2.2.2.2.1.trans a7
    have b8 : u6.thrown = 0 := g6.2.2.2.2.2.2.2.trans a8
    clear g6
    refine N_numbered (T := lrn (lrn T a) b) h2 (by omega) hd (by omega) (fun u8 h3 g8 => ⟨by rw [b1]; exact in2, ?_⟩)
    have c1 : u8.triples = m.triples := g8.1.trans b1
    have c2 : u8.store = upd u6.store ((3 : Int32) * u4.triples + (1 : Int32)).toNatClampNeg (nI (num (lrn (lrn T a) b) b)) := g8.2.1
    have c3 : u8.patterns = m.patterns := g8.2.2.1.trans b3
    have c4 : u8.query = m.query := g8.2.2.2.1.trans b4
    have c5 : u8.kept = m.kept := g8.2.2.2.2.1.trans b5
    have c6 : u8.keptVariables = m.keptVariables := g8.2.2.2.2.2.1.trans b6
    have c7 : u8.answers = m.answers := g8.2.2.2.2.2.2.1.trans b7
    have c8 : u8.thrown = 0 := g8.2.2.2.2.2.2.2.trans b8
    clear g8
    rw [a1] at c2
    have hin_b : b ∈ lrn (lrn T a) b := lrn_in _ _
    have hin_a : a ∈ lrn (lrn T a) b := (lrn_mem _ _ _).mpr (Or.inl (lrn_in _ _))
    have ea : num (lrn T a) a = num (lrn3 T a b d) a := by
      show _ = num (lrn (lrn (lrn T a) b) d) a
      rw [num_keep hin_a, num_keep (lrn_in _ _)]
    have eb : num (lrn (lrn T a) b) b = num (lrn3 T a b d) b := by
      show _ = num (lrn (lrn (lrn T a) b) d) b
      rw [num_keep hin_b]
    have m64 := fun t => num_lt (show (lrn3 T a b d).length ≤ 40 by show (lrn (lrn (lrn T a) b) d).length ≤ 40; omega) t
    have hpe := part_enc (m64 a) (m64 b) (m64 d)
    have qq : mdlQ Q u8 := by unfold mdlQ; rw [c3, c4]; exact hm.2.2.1
    have qa : mdlA A kv u8 := by unfold mdlA; rw [c5, c6, c7]; exact hm.2.2.2
    refine h _ ⟨h3, ⟨?_, ?_⟩, qq, qa⟩ c8
    · show u8.triples + (1 : Int32) = _
      rw [c1, htr, nI_1, List.length_append, List.length_singleton]
    · intro k hk p hp
      show upd u8.store ((3 : Int32) * u6.triples + (2 : Int32)).toNatClampNeg (nI (num (lrn3 T a b d) d)) (3 * k + p) = _
      rw [c2, b2, a2, b1, htr, ix1, ix2, ix0, n_cl (by omega), n_cl (by omega), n_cl (by omega), ea, eb]
      rw [List.length_append, List.length_singleton] at hk
      rcases Nat.lt_or_ge k M.length with q | q
      · rw [pk_un (by omega), pk_un (by omega), pk_un (by omega), List.getElem_append_left q]
        exact hm.2.1.2 k q p hp
      · have e : k = M.length := by omega
        subst e
        rw [List.getElem_append_right (Nat.le_refl _)]
        simp only [Nat.sub_self, List.getElem_cons_zero]
        rcases (show p = 0 ∨ p = 1 ∨ p = 2 by omega) with rfl | rfl | rfl
        · rw [pk_un (by omega), pk_un (by omega), pk_us, hpe.1]
        · rw [pk_un (by omega), pk_us, hpe.2.1]
        · rw [pk_us, hpe.2.2]
  · have c2 : ¬ m.terms + nI (unk T a b d) ≤ nI 40 := c2
    rw [hm.1.1, n_add] at c2
    exact absurd (n_le (by omega) (by omega)) c2
-- taking back
theorem set_erase : ∀ {l : List Nat} {k : Nat} (_ : k < l.length) (a : Nat), (l.set k a).Perm (a :: l.eraseIdx k)
  | [], k, h, a => absurd h (Nat.not_lt_zero k)
  | x :: l, 0, _, a => List.Perm.refl _
  | x :: l, k + 1, h, a => ((set_erase (l := l) (k := k) (by simpa using h) a).cons x).trans (List.Perm.swap a x _)
theorem N_takeBack0 {m : ModS} {x y z : Int32} {post : Int32 → ModS → Prop} (hn : ¬ (isT x ∧ isT y ∧ isT z)) (h : post 0 (setX m 1)) : P_X8_takeBack m x y z post := by
  refine N_are (C := isT) (fun w p h1 h0 => N_isT h1 h0) (fun g1 g2 g3 => absurd ⟨g1, g2, g3⟩ hn) (fun _ => ⟨fun _ => ⟨fun c => absurd c (by decide), fun _ => ⟨fun c => absurd c (by decide), fun _ => h⟩⟩, fun c => absurd rfl c⟩)
theorem N_takeBackG {m : ModS} {a b d : Nat} {post : Int32 → ModS → Prop} (ha : a < 100) (hb : b < 100) (hd : d < 100) (h : P_X8_find (setX m 0) (nI a) (nI b) (nI d) (fun r => P_X8_takeBack_j37 (setX m 0) r post)) : P_X8_takeBack m (nI a) (nI b) (nI d) post := by
  refine N_are (C := isT) (fun w p h1 h0 => N_isT h1 h0) (fun g1 g2 g3 => ⟨fun c => absurd c (by decide), fun _ => ⟨fun _ => h, fun c => absurd (by decide) c⟩⟩) (fun n => absurd ⟨⟨a, ha, rfl⟩, ⟨b, hb, rfl⟩, ⟨d, hd, rfl⟩⟩ n)
theorem N_takeBack1 {T M : List Nat} {Q : List Pt3} {A : List Nat} {kv : Nat} {m : ModS} {a b d : Nat} {post : Int32 → ModS → Prop} (hi : inv T M Q A kv) (hm : mdl T M Q A kv m) (ha : a < 100) (hb : b < 100) (hd : d < 100) (hni : enc (num T a) (num T b) (num T d) ∉ M) (h : post 0 (setX m 0)) : P_X8_takeBack m (nI a) (nI b) (nI d) post := by
  refine N_takeBackG ha hb hd (N_find hi (m := setX m 0) hm.1 hm.2.1 ha hb hd (fun _ => ⟨fun c => absurd c (by decide), fun _ => h⟩) (fun k hk e => absurd (e ▸ List.getElem_mem hk) hni))
theorem N_takeBack2 {T M : List Nat} {Q : List Pt3} {A : List Nat} {kv : Nat} {m : ModS} {a b d : Nat} {post : Int32 → ModS → Prop} (hi : inv T M Q A kv) (hm : mdl T M Q A kv m) (ha : a < 100) (hb : b < 100) (hd : d < 100) (hin : enc (num T a) (num T b) (num T d) ∈ M) (h : ∀ M' m', M'.Perm (M.erase (enc (num T a) (num T b) (num T d))) → mdl T M' Q A kv m' → m'.thrown = 0 → post 1 m') : P_X8_takeBack m (nI a) (nI b) (nI d) post := by
  have hM := hi.2.2.2.2.2.1
  refine N_takeBackG ha hb hd (N_find hi (m := setX m 0) hm.1 hm.2.1 ha hb hd (fun n => absurd hin n) (fun k hk e => ⟨fun _ => ?_, fun c => absurd (nI_pos' (by omega)) c⟩))
  have htr : m.triples = nI M.length := hm.2.1.1
  have hpos : 0 < M.length := by omega
  have hlast : M.length - 1 < M.length := by omega
  have e1 : m.triples - (1 : Int32) = nI (M.length - 1) := by
    rw [htr, show (1 : Int32) = nI 1 from rfl, n_sub hpos]
  show wloop (P_X8_takeBack_B59 (nI k) post) ((0 : Int32), (m.terms, m.number, m.term, m.triples - (1 : Int32), m.store, m.patterns, m.query, m.bound, m.found, m.work, m.kept, m.keptVariables, m.answers, (0 : Int32)))
  rw [e1]
  refine wl (fun w => ∃ j st, w = (nI j, (m.terms, m.number, m.term, nI (M.length - 1), st, m.patterns, m.query, m.bound, m.found, m.work, m.kept, m.keptVariables, m.answers, (0 : Int32))) ∧ j ≤ 3 ∧ ∀ (q : Nat) (hq : q < M.length) (p : Nat), p < 3 → st (3 * q + p) = nI (part (if q = k ∧ p < j then M[M.length - 1] else M[q]) p)) (fun w => 3 - w.1.toNatClampNeg) ⟨0, m.store, rfl, by omega, fun q hq p hp => by rw [if_neg (by omega)]; exact hm.2.1.2 q hq p hp⟩ ?_
  rintro w ⟨j, st, rfl, hj, hst⟩ K hK
  refine ⟨fun c => ?_, fun c => ?_⟩
  · have : 3 ≤ j := (nI_leI (a := 3) (by omega) (by omega)).mp c
    have e3 : j = 3 := by omega
    subst e3
    refine h ((M.set k M[M.length - 1]).take (M.length - 1)) _ ?_ ⟨hm.1, ⟨?_, ?_⟩, hm.2.2.1, hm.2.2.2⟩ rfl
    · have p1 := set_erase hk M[M.length - 1]
      have p2 := set_erase hk M[k]
      rw [List.set_getElem_self] at p2
      have hsl : (M.set k M[M.length - 1]).length = M.length := List.length_set
      have hg : (M.set k M[M.length - 1])[M.length - 1]'(by omega) = M[M.length - 1] := by
        rw [List.getElem_set]
        split <;> rfl
      have p3 : (M.set k M[M.length - 1]).Perm (M[M.length - 1] :: (M.set k M[M.length - 1]).take (M.length - 1)) := by
        have q1 := take_s (l := M.set k M[M.length - 1]) (n := M.length - 1) (by omega)
        rw [show M.length - 1 + 1 = (M.set k M[M.length - 1]).length by omega, List.take_length, hg] at q1
        have q2 := List.perm_append_singleton M[M.length - 1] ((M.set k M[M.length - 1]).take (M.length - 1))
        rwa [← q1] at q2
      have p4 := List.Perm.cons_inv (p3.symm.trans p1)
      have p5 := List.perm_cons_erase (List.getElem_mem hk)
      have p6 := List.Perm.cons_inv (p2.symm.trans p5)
      rw [← e]
      exact p4.trans p6
    · show nI (M.length - 1) = nI _
      rw [List.length_take, List.length_set]
      congr 1; omega
    · intro q hq p hp
      rw [List.length_take, List.length_set] at hq
      show st (3 * q + p) = _
      rw [hst q (by omega) p hp, List.getElem_take, List.getElem_set]
      by_cases z : k = q
      · subst z; rw [if_pos ⟨rfl, hp⟩, if_pos rfl]
      · rw [if_neg (fun y => z y.1.symm), if_neg z]
  · have hlt : j < 3 := by
      rcases Nat.lt_or_ge j 3 with q | q
      · exact q
      · exact absurd (n_le (a := 3) q (by omega)) c
    show vp_in ((3 : Int32) * nI (M.length - 1) + nI j) 180 ∧ vp_in ((3 : Int32) * nI k + nI j) 180 ∧ K (nI j + (1 : Int32), (m.terms, m.number, m.term, nI (M.length - 1), upd st ((3 : Int32) * nI k + nI j).toNatClampNeg (st ((3 : Int32) * nI (M.length - 1) + nI j).toNatClampNeg), m.patterns, m.query, m.bound, m.found, m.work, m.kept, m.keptVariables, m.answers, (0 : Int32)))
    rw [ix, ix, n_cl (by omega), n_cl (by omega), nI_1]
    refine ⟨n_in (by omega) (by omega), n_in (by omega) (by omega), hK _ ⟨j + 1, _, rfl, by omega, fun q hq p hp => ?_⟩ ?_⟩
    · by_cases z : 3 * q + p = 3 * k + j
      · have z1 : q = k := by omega
        have z2 : p = j := by omega
        subst z1 z2
        rw [pk_us, if_pos ⟨rfl, by omega⟩, hst _ hlast p hp]
        rw [if_neg (by omega)]
      · rw [pk_un z, hst q hq p hp]
        congr 2
        by_cases y : q = k ∧ p < j
        · rw [if_pos y, if_pos ⟨y.1, by omega⟩]
        · rw [if_neg y, if_neg (by omega)]
    · show 3 - (nI (j + 1)).toNatClampNeg < 3 - (nI j).toNatClampNeg
      rw [n_cl (by omega), n_cl (by omega)]; omega
-- the dictionary's calls, and those that say a number alone
theorem N_numberOf0 {m : ModS} {x : Int32} {post : Int32 → ModS → Prop} (hn : ¬ isT x) (h : post 0 (setX m 1)) : P_X8_numberOf m x post :=
  N_isT (fun g => absurd g hn) (fun _ => ⟨fun _ => ⟨fun c => absurd c (by decide), fun _ => h⟩, fun c => absurd rfl c⟩)
theorem N_numberOf1 {T : List Nat} {m : ModS} {a : Nat} {post : Int32 → ModS → Prop} (hm : mdlT T m) (ha : a < 100) (h : post (nb T a) (setX m 0)) : P_X8_numberOf m (nI a) post := by
  refine N_isT (fun _ => ⟨fun c => absurd c (by decide), fun _ => ⟨fun _ => ⟨(m_nb hm ha).1, ?_⟩, fun c => absurd (by decide) c⟩⟩) (fun n => absurd ⟨a, ha, rfl⟩ n)
  rw [(m_nb hm ha).2]; exact h
theorem N_termOf0 {T : List Nat} {m : ModS} {x : Int32} {post : Int32 → ModS → Prop} (hm : mdlT T m) (hT : T.length ≤ 40) (hn : ¬ isN T.length x) (h : post 0 (setX m 1)) : P_X8_termOf m x post := by
  show P_X8_isIn x (0 : Int32) (m.terms - (1 : Int32)) _
  rw [hm.1]
  exact N_isN (by omega) (fun g => absurd g hn) (fun _ => ⟨fun _ => ⟨fun c => absurd c (by decide), fun _ => h⟩, fun c => absurd rfl c⟩)
theorem N_termOf1 {T : List Nat} {m : ModS} {i : Nat} {post : Int32 → ModS → Prop} (hm : mdlT T m) (hT : T.length ≤ 40) (hi : i < T.length) (h : post (nI T[i]) (setX m 0)) : P_X8_termOf m (nI i) post := by
  show P_X8_isIn (nI i) (0 : Int32) (m.terms - (1 : Int32)) _
  rw [hm.1]
  refine N_isN (by omega) (fun _ => ⟨fun c => absurd c (by decide), fun _ => ⟨fun _ => ⟨(m_tm hm hT hi).1, ?_⟩, fun c => absurd (by decide) c⟩⟩) (fun n => absurd ⟨i, hi, rfl⟩ n)
  rw [(m_tm hm hT hi).2]; exact h
theorem N_triples {M : List Nat} {m : ModS} {post : Int32 → ModS → Prop} (hm : mdlM M m) (h : post (nI M.length) (setX m 0)) : P_X8_triples m post := by
  show post m.triples (setX m 0)
  rw [hm.1]; exact h
theorem N_terms {T : List Nat} {m : ModS} {post : Int32 → ModS → Prop} (hm : mdlT T m) (h : post (nI T.length) (setX m 0)) : P_X8_terms m post := by
  show post m.terms (setX m 0)
  rw [hm.1]; exact h
theorem N_patterns {Q : List Pt3} {m : ModS} {post : Int32 → ModS → Prop} (hm : mdlQ Q m) (h : post (nI Q.length) (setX m 0)) : P_X8_patterns m post := by
  show post m.patterns (setX m 0)
  rw [hm.1]; exact h
theorem N_answers {A : List Nat} {kv : Nat} {m : ModS} {post : Int32 → ModS → Prop} (hm : mdlA A kv m) (h : post (nI A.length) (setX m 0)) : P_X8_answers m post := by
  show post m.kept (setX m 0)
  rw [hm.1]; exact h
theorem N_forget {T M : List Nat} {Q : List Pt3} {A : List Nat} {kv : Nat} {m : ModS} {post : Int32 → ModS → Prop} (hm : mdl T M Q A kv m) (h : ∀ m', mdl T M [] A kv m' → m'.thrown = 0 → post (nI Q.length) m') : P_X8_forget m post := by
  show post m.patterns _
  rw [hm.2.2.1.1]
  exact h _ ⟨hm.1, hm.2.1, ⟨rfl, fun i hi => absurd hi (Nat.not_lt_zero i)⟩, hm.2.2.2⟩ rfl
theorem N_addPattern0 {m : ModS} {x y z : Int32} {post : Int32 → ModS → Prop} (hn : ¬ (isV4 x ∧ isV4 y ∧ isV4 z)) (h : post 0 (setX m 1)) : P_X8_addPattern m x y z post := by
  refine N_are (C := isV4) (fun w p h1 h0 => N_isV4 h1 h0) (fun g1 g2 g3 => absurd ⟨g1, g2, g3⟩ hn) (fun _ => ⟨fun c => absurd rfl c, fun _ => ⟨fun c => absurd c (by decide), fun _ => h⟩⟩)
theorem N_addPattern1 {Q : List Pt3} {m : ModS} {x y z : Int32} {post : Int32 → ModS → Prop} (hm : mdlQ Q m) (hx : isV4 x) (hy : isV4 y) (hz : isV4 z) (hl : Q.length = 3) (h : post 0 (setX m 2)) : P_X8_addPattern m x y z post := by
  have e : m.patterns = (3 : Int32) := by rw [hm.1, hl]; rfl
  refine N_are (C := isV4) (fun w p h1 h0 => N_isV4 h1 h0) (fun _ _ _ => ⟨fun _ => ⟨fun c => absurd e c, fun _ => ⟨fun c => absurd c (by decide), fun _ => h⟩⟩, fun c => absurd c (by decide)⟩) (fun n => absurd ⟨hx, hy, hz⟩ n)
theorem N_addPattern2 {T M : List Nat} {Q : List Pt3} {A : List Nat} {kv : Nat} {m : ModS} {a b d : Nat} {post : Int32 → ModS → Prop} (hm : mdl T M Q A kv m) (ha : a < 104) (hb : b < 104) (hd : d < 104) (hl : Q.length < 3) (h : ∀ m', mdl T M (Q ++ [pat3 a b d]) A kv m' → m'.thrown = 0 → post (nI Q.length) m') : P_X8_addPattern m (toldI a) (toldI b) (toldI d) post := by
  have hp : m.patterns = nI Q.length := hm.2.2.1.1
  refine N_are (C := isV4) (fun w p h1 h0 => N_isV4 h1 h0) (fun _ _ _ => ⟨fun _ => ⟨fun _ => ⟨fun _ => ?_, fun c => absurd (by decide) c⟩, fun c => ?_⟩, fun c => absurd c (by decide)⟩) (fun n => absurd ⟨⟨a, ha, rfl⟩, ⟨b, hb, rfl⟩, ⟨d, hd, rfl⟩⟩ n)
  · show vp_in ((3 : Int32) * m.patterns) 9 ∧ vp_in ((3 : Int32) * m.patterns + (1 : Int32)) 9 ∧ vp_in ((3 : Int32) * m.patterns + (2 : Int32)) 9 ∧ post (m.patterns + (1 : Int32) - (1 : Int32)) (m.terms, m.number, m.term, m.triples, m.store, m.patterns + (1 : Int32), upd (upd (upd m.query ((3 : Int32) * m.patterns).toNatClampNeg (toldI a)) ((3 : Int32) * m.patterns + (1 : Int32)).toNatClampNeg (toldI b)) ((3 : Int32) * m.patterns + (2 : Int32)).toNatClampNeg (toldI d), m.bound, m.found, m.work, m.kept, m.keptVariables, m.answers, (0 : Int32))
    rw [hp, ix1, ix2, ix0, n_cl (by omega), n_cl (by omega), n_cl (by omega), nI_1, show nI (Q.length + 1) - (1 : Int32) = nI Q.length from n_sub (b := 1) (by omega)]
    refine ⟨n_in (by omega) (by omega), n_in (by omega) (by omega), n_in (by omega) (by omega), h _ ⟨hm.1, hm.2.1, ⟨?_, ?_⟩, hm.2.2.2⟩ rfl⟩
    · show nI (Q.length + 1) = _
      rw [List.length_append, List.length_singleton]
    · intro i hi p hp3
      show upd (upd (upd m.query (3 * Q.length + 0) (toldI a)) (3 * Q.length + 1) (toldI b)) (3 * Q.length + 2) (toldI d) (3 * i + p) = _
      rw [List.length_append, List.length_singleton] at hi
      rcases Nat.lt_or_ge i Q.length with q | q
      · rw [pk_un (by omega), pk_un (by omega), pk_un (by omega), List.getElem_append_left q]
        exact hm.2.2.1.2 i q p hp3
      · have e : i = Q.length := by omega
        subst e
        rw [show (Q ++ [pat3 a b d])[Q.length]'(by simp) = pat3 a b d by simp]
        rcases (show p = 0 ∨ p = 1 ∨ p = 2 by omega) with rfl | rfl | rfl
        · rw [pk_un (by omega), pk_un (by omega), pk_us]; rfl
        · rw [pk_un (by omega), pk_us]; rfl
        · rw [pk_us]; rfl
  · have c : m.patterns = nI 3 := c
    rw [hp] at c
    have := (nI_eq (by omega) (by omega)).mp c
    omega
theorem N_orderFor {a b d : Bool} {m : ModS} {x y z : Int32} {post : Int32 → ModS → Prop} (hx : x = 0 ↔ a = false) (hy : y = 0 ↔ b = false) (hz : z = 0 ↔ d = false) (h : post (nI (ord3 a b d)) (setX m 0)) : P_X8_orderFor m x y z post := by
  refine ⟨fun c1 => ⟨fun c2 => ⟨fun c3 => ?_, fun c3 => ?_⟩, fun c2 => ?_⟩, fun c1 => ⟨fun c3 => ?_, fun c3 => ⟨fun c2 => ?_, fun c2 => ?_⟩⟩⟩
  all_goals
    have e1 : a = (if x = 0 then false else true) := by
      by_cases q : x = 0
      · rw [if_pos q]; exact hx.mp q
      · rw [if_neg q]; cases a
        · exact absurd (hx.mpr rfl) q
        · rfl
    have e2 : b = (if y = 0 then false else true) := by
      by_cases q : y = 0
      · rw [if_pos q]; exact hy.mp q
      · rw [if_neg q]; cases b
        · exact absurd (hy.mpr rfl) q
        · rfl
    have e3 : d = (if z = 0 then false else true) := by
      by_cases q : z = 0
      · rw [if_pos q]; exact hz.mp q
      · rw [if_neg q]; cases d
        · exact absurd (hz.mpr rfl) q
        · rfl
  · rw [if_pos c1] at e1; rw [if_pos c2] at e2; rw [if_pos c3] at e3; subst e1 e2 e3; exact h
  · rw [if_pos c1] at e1; rw [if_pos c2] at e2; rw [if_neg c3] at e3; subst e1 e2 e3; exact h
  · rw [if_pos c1] at e1; rw [if_neg c2] at e2; subst e1 e2; cases d <;> exact h
  · rw [if_neg c1] at e1; rw [if_pos c3] at e3; subst e1 e3; cases b <;> exact h
  · rw [if_neg c1] at e1; rw [if_neg c2] at e2; subst e1 e2; cases d <;> exact h
  · rw [if_neg c1] at e1; rw [if_pos c2] at e2; rw [if_neg c3] at e3; subst e1 e2 e3; exact h
