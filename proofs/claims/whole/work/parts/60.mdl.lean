/-! PURE SIDE 30: the model: its state, its small functions -/
/-- an answer of the model: for each variable one more than its number, 0 for none -/
def d41 (kv a v : Nat) : Nat := if kv.testBit v then cell a v + 1 else 0
def c41 (kv a : Nat) : Nat := ((d41 kv a 0 * 41 + d41 kv a 1) * 41 + d41 kv a 2) * 41 + d41 kv a 3
def nb (T : List Nat) (t : Nat) : Int32 := if t ∈ T then nI (T.idxOf t) else (-1 : Int32)
def mdlT (T : List Nat) (m : ModS) : Prop := m.terms = nI T.length ∧ (∀ t, t < 100 → m.number t = nb T t) ∧ ∀ (i : Nat) (h : i < T.length), m.term i = nI T[i]
def mdlM (M : List Nat) (m : ModS) : Prop := m.triples = nI M.length ∧ ∀ (k : Nat) (h : k < M.length) (p : Nat), p < 3 → m.store (3 * k + p) = nI (part M[k] p)
def mdlQ (Q : List Pt3) (m : ModS) : Prop := m.patterns = nI Q.length ∧ ∀ (i : Nat) (h : i < Q.length) (p : Nat), p < 3 → m.query (3 * i + p) = toldI (Q[i] p)
def mdlA (A : List Nat) (kv : Nat) (m : ModS) : Prop := m.kept = nI A.length ∧ m.keptVariables = nI kv ∧ ∀ (k : Nat) (h : k < A.length), m.answers k = nI (c41 kv A[k])
def mdl (T M : List Nat) (Q : List Pt3) (A : List Nat) (kv : Nat) (m : ModS) : Prop := mdlT T m ∧ mdlM M m ∧ mdlQ Q m ∧ mdlA A kv m
/-- what holds of the state that class and model stand for -/
def inv (T M : List Nat) (Q : List Pt3) (A : List Nat) (kv : Nat) : Prop := T.length ≤ 40 ∧ T.Nodup ∧ (∀ t ∈ T, t < 100) ∧ M.Nodup ∧ (∀ t ∈ M, t < 262144) ∧ M.length ≤ 60 ∧ partsOK T M ∧ Q.length ≤ 3 ∧ (∀ (i : Nat) (h : i < Q.length), okX Q[i]) ∧ A.length ≤ 2000 ∧ kv < 16 ∧ ansOK T A kv
theorem cls_inv {T M : List Nat} {Q : List Pt3} {A : List Nat} {kv : Nat} {c : TriS} (h : cls T M Q A kv c) (ha : ansOK T A kv) : inv T M Q A kv := by
  obtain ⟨a1, a2, a3, a4, a5, a6, a7, a8⟩ := h
  exact ⟨a1.2.1, a1.2.2.1, a1.2.2.2.1, a2.1, a2.2.1, sto_len a2, a3, a4.1, que_okX a4, a6, a8, ha⟩
theorem N_init {post : ModS → Prop} (h : ∀ m, mdl [] [] [] [] 0 m → post m) : P_X8_init post := by
  refine wl (fun w => ∃ (i : Nat) (f : Nat → Int32), w = (nI i, ((0 : Int32), f, (fun _ => 0), (0 : Int32), (fun _ => 0), (0 : Int32), (fun _ => 0), (fun _ => 0), (0 : Int32), (fun _ => 0), (0 : Int32), (0 : Int32), (fun _ => 0), (0 : Int32))) ∧ i ≤ 100 ∧ ∀ t, t < i → f t = -1) (fun w => 100 - w.1.toNatClampNeg) ⟨0, _, rfl, by omega, fun t ht => absurd ht (Nat.not_lt_zero t)⟩ ?_
  rintro w ⟨i, f, rfl, hi, hf⟩ K hK
  refine ⟨fun c => ?_, fun c => ?_⟩
  · have : 100 ≤ i := (nI_leI (a := 100) (by omega) (by omega)).mp c
    refine h _ ⟨⟨rfl, fun t ht => ?_, fun j hj => absurd hj (Nat.not_lt_zero j)⟩, ⟨rfl, fun j hj => absurd hj (Nat.not_lt_zero j)⟩, ⟨rfl, fun j hj => absurd hj (Nat.not_lt_zero j)⟩, rfl, rfl, fun j hj => absurd hj (Nat.not_lt_zero j)⟩
    unfold nb
    rw [if_neg (by simp)]
    exact hf t (by omega)
  · have hlt : i < 100 := by
      rcases Nat.lt_or_ge i 100 with q | q
      · exact q
      · exact absurd (n_le (a := 100) q (by omega)) c
    refine ⟨n_in hlt (by omega), ?_⟩
    show K (nI i + (1 : Int32), ((0 : Int32), upd f (nI i).toNatClampNeg (-1), (fun _ => 0), (0 : Int32), (fun _ => 0), (0 : Int32), (fun _ => 0), (fun _ => 0), (0 : Int32), (fun _ => 0), (0 : Int32), (0 : Int32), (fun _ => 0), (0 : Int32)))
    rw [n_cl (by omega), nI_1]
    refine hK _ ⟨i + 1, _, rfl, by omega, fun t ht => ?_⟩ ?_
    · by_cases e : t = i
      · subst e; rw [pk_us]
      · rw [pk_un e]; exact hf t (by omega)
    · show 100 - (nI (i + 1)).toNatClampNeg < 100 - (nI i).toNatClampNeg
      rw [n_cl (by omega), n_cl (by omega)]; omega
-- ranges
theorem lt99 {x : Int32} : (99 : Int32) < x ↔ (100 : Int32) ≤ x := by
  rw [Int32.lt_iff_toInt_lt, Int32.le_iff_toInt_le]
  have f0 : (99 : Int32).toInt = 99 := by decide
  have f1 : (100 : Int32).toInt = 100 := by decide
  omega
theorem N_isT {x : Int32} {post : Int32 → Prop} (h1 : isT x → post 1) (h0 : ¬ isT x → post 0) : P_X8_isIn x (0 : Int32) (99 : Int32) post := by
  obtain ⟨g1, g2⟩ := S_isTerm h1 h0
  exact ⟨g1, fun c => ⟨fun d => (g2 c).1 (lt99.mp d), fun d => (g2 c).2 (fun e => d (lt99.mpr e))⟩⟩
theorem N_isA {x : Int32} {post : Int32 → Prop} (h1 : isA x → post 1) (h0 : ¬ isA x → post 0) : P_X8_isIn x (-1 : Int32) (99 : Int32) post := by
  obtain ⟨g1, g2⟩ := S_isTermOrAny h1 h0
  exact ⟨g1, fun c => ⟨fun d => (g2 c).1 (lt99.mp d), fun d => (g2 c).2 (fun e => d (lt99.mpr e))⟩⟩
theorem N_isV4 {x : Int32} {post : Int32 → Prop} (h1 : isV4 x → post 1) (h0 : ¬ isV4 x → post 0) : P_X8_isIn x (-4 : Int32) (99 : Int32) post := by
  obtain ⟨g1, g2⟩ := S_isTermOrVariable h1 h0
  exact ⟨g1, fun c => ⟨fun d => (g2 c).1 (lt99.mp d), fun d => (g2 c).2 (fun e => d (lt99.mpr e))⟩⟩
theorem N_isN {k : Nat} (hk : k < 2147483648) {x : Int32} {post : Int32 → Prop} (h1 : isN k x → post 1) (h0 : ¬ isN k x → post 0) : P_X8_isIn x (0 : Int32) (nI k - (1 : Int32)) post := by
  refine ⟨fun c => h0 (fun ⟨n, hn, e⟩ => absurd c (by rw [e]; exact nI_pos (by omega))), fun c => ?_⟩
  rcases n_of x with y | ⟨n, hn, e⟩
  · exact absurd y c
  subst e
  rcases Nat.eq_zero_or_pos k with z | z
  · subst z
    have hm : nI 0 - (1 : Int32) < nI n := by
      have : nI 0 - (1 : Int32) = -1 := by decide
      rw [this]
      rcases Nat.eq_zero_or_pos n with y | y
      · subst y; decide
      · exact Int32.lt_of_lt_of_le (by decide : (-1 : Int32) < 0) (nI_pos' (by omega))
    exact ⟨fun _ => h0 (fun ⟨j, hj, _⟩ => absurd hj (Nat.not_lt_zero j)), fun d => absurd hm d⟩
  · rw [show (1 : Int32) = nI 1 from rfl, n_sub z]
    refine ⟨fun d => h0 (fun ⟨j, hj, e⟩ => ?_), fun d => h1 ⟨n, ?_, rfl⟩⟩
    · have := (nI_eq hn (by omega)).mp e
      have := (nI_ltI (by omega) hn).mp d
      omega
    · rcases Nat.lt_or_ge n k with y | y
      · exact y
      · exact absurd (n_lt (show k - 1 < n by omega) hn) d
theorem N_isN3 {x : Int32} {post : Int32 → Prop} (h1 : isN 3 x → post 1) (h0 : ¬ isN 3 x → post 0) : P_X8_isIn x (0 : Int32) (2 : Int32) post := N_isN (k := 3) (by omega) h1 h0
theorem N_isN4 {x : Int32} {post : Int32 → Prop} (h1 : isN 4 x → post 1) (h0 : ¬ isN 4 x → post 0) : P_X8_isIn x (0 : Int32) (3 : Int32) post := N_isN (k := 4) (by omega) h1 h0
theorem N_are {C : Int32 → Prop} {lo x y z : Int32} {post : Int32 → Prop} (hi : ∀ (w : Int32) (p : Int32 → Prop), (C w → p 1) → (¬ C w → p 0) → P_X8_isIn w lo (99 : Int32) p) (h1 : C x → C y → C z → post 1) (h0 : ¬ (C x ∧ C y ∧ C z) → post 0) : P_X8_areTerms x y z lo post := by
  refine hi _ _ (fun tx => ⟨fun e => absurd e (by decide), fun _ => hi _ _ (fun ty => ⟨fun e => absurd e (by decide), fun _ => hi _ _ (fun tz => ⟨fun e => absurd e (by decide), fun _ => h1 tx ty tz⟩) (fun nz => ⟨fun _ => h0 (fun g => nz g.2.2), fun e => absurd rfl e⟩)⟩) (fun ny => ⟨fun _ => h0 (fun g => ny g.2.1), fun e => absurd rfl e⟩)⟩) (fun nx => ⟨fun _ => h0 (fun g => nx g.1), fun e => absurd rfl e⟩)
-- the store
theorem ix (k p : Nat) : (3 : Int32) * nI k + nI p = nI (3 * k + p) := by
  rw [show (3 : Int32) = nI 3 from rfl, pk_mul, n_add]
theorem ix0 (k : Nat) : (3 : Int32) * nI k = nI (3 * k + 0) := by
  rw [show (3 : Int32) = nI 3 from rfl, pk_mul]; rfl
theorem ix1 (k : Nat) : (3 : Int32) * nI k + (1 : Int32) = nI (3 * k + 1) := ix k 1
theorem ix2 (k : Nat) : (3 : Int32) * nI k + (2 : Int32) = nI (3 * k + 2) := ix k 2
/-- what stands in the model's store -/
theorem m_st {M : List Nat} {m : ModS} (hm : mdlM M m) (hM : M.length ≤ 60) {k p : Nat} (hk : k < M.length) (hp : p < 3) : vp_in (nI (3 * k + p)) 180 ∧ m.store (nI (3 * k + p)).toNatClampNeg = nI (part M[k] p) := by
  refine ⟨n_in (by omega) (by omega), ?_⟩
  rw [n_cl (by omega)]
  exact hm.2 k hk p hp
theorem m_tm {T : List Nat} {m : ModS} (hm : mdlT T m) (hT : T.length ≤ 40) {n : Nat} (hn : n < T.length) : vp_in (nI n) 40 ∧ m.term (nI n).toNatClampNeg = nI T[n] := by
  refine ⟨n_in (by omega) (by omega), ?_⟩
  rw [n_cl (by omega)]
  exact hm.2.2 n hn
/-- the term with a number: the number of the term -/
theorem term_num {T : List Nat} (hT : T.length ≤ 40) (hN : T.Nodup) {n a : Nat} (hn : n < T.length) : T[n] = a ↔ n = num T a := by
  unfold num
  constructor
  · intro e
    have hm : a ∈ T := by rw [← e]; exact List.getElem_mem hn
    rw [if_pos hm]
    have hl := List.idxOf_lt_length_of_mem hm
    refine (List.getElem_inj (h₀ := hn) (h₁ := hl) hN).mp ?_
    rw [e, List.getElem_idxOf hl]
  · intro e
    by_cases q : a ∈ T
    · rw [if_pos q] at e
      have hl := List.idxOf_lt_length_of_mem q
      subst e
      exact List.getElem_idxOf hl
    · rw [if_neg q] at e; omega
theorem enc_eq {t a b c : Nat} (ht : t < 262144) (ha : a < 64) (hb : b < 64) (hc : c < 64) : t = enc a b c ↔ part t 0 = a ∧ part t 1 = b ∧ part t 2 = c := by
  constructor
  · intro e; subst e; exact part_enc ha hb hc
  · rintro ⟨e0, e1, e2⟩
    rw [← enc_part ht, e0, e1, e2]
theorem N_find {T M : List Nat} {Q : List Pt3} {A : List Nat} {kv : Nat} {m : ModS} {a b d : Nat} {post : Int32 → Prop} (hi : inv T M Q A kv) (hmT : mdlT T m) (hmM : mdlM M m) (ha : a < 100) (hb : b < 100) (hd : d < 100) (h0 : enc (num T a) (num T b) (num T d) ∉ M → post (-1)) (h1 : ∀ k (hk : k < M.length), M[k] = enc (num T a) (num T b) (num T d) → post (nI k)) : P_X8_find m (nI a) (nI b) (nI d) post := by
  obtain ⟨i1, i2, i3, i4, i5, i6, i7, -⟩ := hi
  have n64 := fun t => num_lt i1 t
  refine wl (fun w => ∃ i r, w = (r, nI i) ∧ i ≤ M.length ∧ ((r = -1 ∧ ∀ k (hk : k < M.length), k < i → M[k] ≠ enc (num T a) (num T b) (num T d)) ∨ ∃ k, ∃ hk : k < M.length, r = nI k ∧ M[k] = enc (num T a) (num T b) (num T d))) (fun w => 60 - w.2.toNatClampNeg) ⟨0, -1, rfl, by omega, Or.inl ⟨rfl, fun k _ hk => absurd hk (Nat.not_lt_zero k)⟩⟩ ?_
  rintro w ⟨i, r, rfl, hi, hr⟩ K hK
  refine ⟨fun c => ?_, fun c => ?_⟩
  · have c : m.triples ≤ nI i := c
    rw [hmM.1] at c
    have := (nI_leI (by omega) (by omega)).mp c
    show post r
    rcases hr with ⟨e, hr⟩ | ⟨k, hk, e, hr⟩
    · rw [e]
      refine h0 (fun hin => ?_)
      obtain ⟨k, hk, e2⟩ := List.mem_iff_getElem.mp hin
      exact hr k hk (by omega) e2
    · rw [e]; exact h1 k hk hr
  · have hlt : i < M.length := by
      rcases Nat.lt_or_ge i M.length with q | q
      · exact q
      · exact absurd (show m.triples ≤ nI i by rw [hmM.1]; exact n_le q (by omega)) c
    have hin := List.getElem_mem hlt
    have st0 := m_st hmM i6 hlt (p := 0) (by omega)
    have st1 := m_st hmM i6 hlt (p := 1) (by omega)
    have st2 := m_st hmM i6 hlt (p := 2) (by omega)
    have tm0 := m_tm hmT i1 (i7 _ hin 0 (by omega))
    have tm1 := m_tm hmT i1 (i7 _ hin 1 (by omega))
    have tm2 := m_tm hmT i1 (i7 _ hin 2 (by omega))
    have eqs : ∀ {p x : Nat} (hp : p < 3) (hx : x < 100), nI (T[part M[i] p]'(i7 _ hin p hp)) = nI x ↔ part M[i] p = num T x := by
      intro p x hp hx
      have hl := i7 _ hin p hp
      rw [nI_eq (by have := i3 _ (List.getElem_mem hl); omega) (by omega)]
      exact term_num i1 i2 hl
    have hee := enc_eq (i5 _ hin) (n64 a) (n64 b) (n64 d)
    have dec : ∀ _ : Nat, 60 - (nI (i + 1)).toNatClampNeg < 60 - (nI i).toNatClampNeg := by
      intro _
      rw [n_cl (by omega), n_cl (by omega)]; omega
    have no : M[i] ≠ enc (num T a) (num T b) (num T d) → K (r, nI i + (1 : Int32)) := by
      intro hne
      rw [nI_1]
      refine hK _ ⟨i + 1, r, rfl, by omega, ?_⟩ (dec 0)
      rcases hr with ⟨e, hr⟩ | hr
      · refine Or.inl ⟨e, fun k hk hki => ?_⟩
        by_cases z : k = i
        · subst z; exact hne
        · exact hr k hk (by omega)
      · exact Or.inr hr
    have yes : M[i] = enc (num T a) (num T b) (num T d) → K (nI i, nI i + (1 : Int32)) := by
      intro he
      rw [nI_1]
      exact hK _ ⟨i + 1, nI i, rfl, by omega, Or.inr ⟨i, hlt, rfl, he⟩⟩ (dec 0)
    show vp_in ((3 : Int32) * nI i) 180 ∧ _
    rw [ix1, ix2, ix0, st0.2, st1.2, st2.2, tm0.2, tm1.2, tm2.2, eqs (by omega) ha, eqs (by omega) hb, eqs (by omega) hd]
    exact ⟨st0.1, tm0.1, fun z => no (fun q => z (hee.mp q).1), fun z0 => ⟨st1.1, tm1.1, fun z => no (fun q => z (hee.mp q).2.1), fun z1 => ⟨st2.1, tm2.1, fun z => no (fun q => z (hee.mp q).2.2), fun z2 => yes (hee.mpr ⟨z0, z1, z2⟩)⟩⟩⟩
