/-! PURE SIDE 26: the class's beginning, orderFor, count, shape, answer -/
theorem C_init {post : TriS → Prop} (h : ∀ c, cls [] [] [] [] 0 c → post c) : P_X7_init post := by
  refine h _ ⟨⟨rfl, by simp, List.nodup_nil, fun t ht => (by cases ht), fun i hi => absurd hi (Nat.not_lt_zero i), fun t _ => by rw [if_neg (by simp)]; rfl⟩, ⟨List.nodup_nil, fun t ht => (by cases ht), fun o ho => ⟨[], ?_, List.Perm.refl _⟩⟩, fun t ht => (by cases ht), ⟨by simp, rfl, fun i hi => absurd hi (Nat.not_lt_zero i)⟩, ⟨rfl, fun i hi => absurd hi (Nat.not_lt_zero i)⟩, by simp, rfl, by omega⟩
  rcases (show o = 0 ∨ o = 1 ∨ o = 2 by omega) with rfl | rfl | rfl <;> exact ⟨rfl, by simp, List.Pairwise.nil, fun k hk => (by cases hk), fun i hi => absurd hi (Nat.not_lt_zero i)⟩
theorem S_maskFor {a b c : Bool} {x y z : Int32} {post : Int32 → Prop} (hx : x = 0 ↔ a = false) (hy : y = 0 ↔ b = false) (hz : z = 0 ↔ c = false) (h : post (nI (mk3 a b c))) : P_X7_maskFor x y z post := by
  have key : ∀ A B C : Int32, A = nI (fld 0 (f63 a)) → B = nI (fld 1 (f63 b)) → C = nI (fld 2 (f63 c)) → post ((A ||| B) ||| C) := by
    intro A B C hA hB hC
    rw [hA, hB, hC, q_or, q_or]
    have e : fld 0 (f63 a) ||| fld 1 (f63 b) ||| fld 2 (f63 c) = mk3 a b c := by cases a <;> cases b <;> cases c <;> decide
    rw [e]; exact h
  have tru : ∀ {u : Bool} {w : Int32}, (w = 0 ↔ u = false) → ¬ w = 0 → u = true := by
    intro u w hw hn
    cases u
    · exact absurd (hw.mpr rfl) hn
    · rfl
  have sh : ∀ (u : Bool) (i : Nat), i < 3 → u = true → (63 : Int32) <<< (nI (6 * (2 - i)) &&& 31) = nI (fld i (f63 u)) := by
    intro u i hi hu
    subst hu
    rw [show (63 : Int32) = nI 63 from rfl, q_fld hi]; rfl
  have zr : ∀ (u : Bool) (i : Nat), i < 3 → u = false → (0 : Int32) = nI (fld i (f63 u)) := by
    intro u i hi hu
    subst hu
    rcases (show i = 0 ∨ i = 1 ∨ i = 2 by omega) with rfl | rfl | rfl <;> rfl
  have j30 : ∀ A B : Int32, A = nI (fld 0 (f63 a)) → B = nI (fld 1 (f63 b)) → P_X7_maskFor_j30 z B A post := by
    intro A B hA hB
    exact ⟨fun q => key A B _ hA hB (zr c 2 (by omega) (hz.mp q)), fun q => S_partShift (p := 2) (by omega) (key A B _ hA hB (sh c 2 (by omega) (tru hz q)))⟩
  have j15 : ∀ A : Int32, A = nI (fld 0 (f63 a)) → P_X7_maskFor_j15 y z A post := by
    intro A hA
    exact ⟨fun q => j30 A _ hA (zr b 1 (by omega) (hy.mp q)), fun q => S_partShift (p := 1) (by omega) (j30 A _ hA (sh b 1 (by omega) (tru hy q)))⟩
  exact ⟨fun q => j15 _ (zr a 0 (by omega) (hx.mp q)), fun q => S_partShift (p := 0) (by omega) (j15 _ (sh a 0 (by omega) (tru hx q)))⟩
theorem C_orderFor {a b d : Bool} {c : TriS} {x y z : Int32} {post : Int32 → Prop} (hx : x = 0 ↔ a = false) (hy : y = 0 ↔ b = false) (hz : z = 0 ↔ d = false) (h : post (nI (ord3 a b d))) : P_X7_orderFor c x y z post :=
  S_maskFor hx hy hz (S_orderOf h)
/-- a term, or -1 for any -/
def isA (x : Int32) : Prop := x = -1 ∨ isT x
def ax (x : Int32) : Bool := !decide (x < 0)
def an (T : List Nat) (x : Int32) : Nat := num T x.toNatClampNeg
theorem m1 {x : Int32} (h : x < 0) (h2 : ¬ x < (-1 : Int32)) : x = -1 := by
  rw [Int32.lt_iff_toInt_lt] at h h2
  rw [← Int32.toInt_inj]
  have f0 : (0 : Int32).toInt = 0 := by decide
  have f1 : (-1 : Int32).toInt = -1 := by decide
  omega
theorem S_isTermOrAny {x : Int32} {post : Int32 → Prop} (h1 : isA x → post 1) (h0 : ¬ isA x → post 0) : P_X7_isTermOrAny x post := by
  refine ⟨fun c => h0 (fun g => ?_), fun c => ⟨fun c2 => h0 (fun g => ?_), fun c2 => h1 ?_⟩⟩
  · rcases g with e | ⟨n, hn, e⟩
    · rw [e] at c; exact absurd c (by decide)
    · rw [e] at c
      exact nI_pos (n := n) (by omega) (Int32.lt_of_lt_of_le c (by decide))
  · rcases g with e | ⟨n, hn, e⟩
    · rw [e] at c2; exact absurd c2 (by decide)
    · rw [e] at c2
      have := (nI_leI (a := 100) (by omega) (by omega)).mp c2
      omega
  · rcases n_of x with y | ⟨n, hn, e⟩
    · exact Or.inl (m1 y c)
    · refine Or.inr ⟨n, ?_, e⟩
      rcases Nat.lt_or_ge n 100 with z | z
      · exact z
      · rw [e] at c2; exact absurd (n_le z hn) c2
theorem ax_iff {x : Int32} : x < 0 ↔ ax x = false := by
  unfold ax
  simp
theorem an_lt {T : List Nat} (h : T.length ≤ 40) (x : Int32) : an T x < 64 := num_lt h _
/-- the number of a term, 63 for any -/
def hn (T : List Nat) (x : Int32) : Nat := if ax x then an T x else 63
theorem hn_lt {T : List Nat} (h : T.length ≤ 40) (x : Int32) : hn T x < 64 := by
  unfold hn; split
  · exact an_lt h x
  · omega
theorem S_number_any {T : List Nat} {d : DicS} {x : Int32} {post : Int32 → Prop} (hd : dicOK T d) (hx : isA x) (h : post (nI (hn T x))) : P_X0_number d x post := by
  rcases hx with e | ⟨n, hn100, e⟩
  · subst e
    exact S_number_neg (by decide) h
  · subst e
    have e1 : ax (nI n) = true := by
      cases hq : ax (nI n)
      · exact absurd (ax_iff.mpr hq) (nI_pos (by omega))
      · rfl
    unfold hn an at h
    rw [e1, if_pos rfl, n_cl (by omega)] at h
    exact S_number hd hn100 h
theorem hn_and {T : List Nat} (h : T.length ≤ 40) (x : Int32) : hn T x &&& f63 (ax x) = fv (ax x) (an T x) := by
  unfold hn
  cases hq : ax x
  · simp [f63, fv]
  · simp only [f63, fv, if_true]
    exact and63 (an_lt h x)
theorem C_count {T M : List Nat} {Q : List Pt3} {A : List Nat} {kv : Nat} {c : TriS} {x y z : Int32} {post : Int32 → Prop} {postX : Nat → Prop} (hc : cls T M Q A kv c) (h0 : ¬ (isA x ∧ isA y ∧ isA z) → postX 1) (h1 : isA x → isA y → isA z → post (nI (M.countP (mat (ax x) (ax y) (ax z) (an T x) (an T y) (an T z))))) : P_X7_count c x y z post postX := by
  obtain ⟨a1, a2, a3, -⟩ := hc
  refine S_isTermOrAny (fun tx => ⟨fun e => absurd e (by decide), fun _ => S_isTermOrAny (fun ty => ⟨fun e => absurd e (by decide), fun _ => S_isTermOrAny (fun tz => ⟨fun _ => ?_, fun e => absurd e (by decide)⟩) (fun nz => ⟨fun e => absurd rfl e, fun _ => h0 (fun g => nz g.2.2)⟩)⟩) (fun ny => ⟨fun _ => h0 (fun g => ny g.2.1), fun e => absurd rfl e⟩)⟩) (fun nx => ⟨fun _ => h0 (fun g => nx g.1), fun e => absurd rfl e⟩)
  have g := h1 tx ty tz
  have hT := a1.2.1
  have one : ∀ w : Int32, ¬ w < 0 → ((1 : Int32) = 0 ↔ ax w = false) := fun w c => ⟨fun e => absurd e (by decide), fun e => absurd (ax_iff.mpr e) c⟩
  have zer : ∀ w : Int32, w < 0 → ((0 : Int32) = 0 ↔ ax w = false) := fun w c => ⟨fun _ => ax_iff.mp c, fun _ => rfl⟩
  have j58 : ∀ A B C : Int32, (A = 0 ↔ ax x = false) → (B = 0 ↔ ax y = false) → (C = 0 ↔ ax z = false) → P_X7_count_j58 c x y z C B A post postX := by
    intro A B C hA hB hC
    have ho := ord3_lt (ax x) (ax y) (ax z)
    obtain ⟨K, hK, hpm⟩ := a2.2.2 _ ho
    have hv64 := an_lt hT
    refine S_maskFor hA hB hC (S_pack (fun q hq => S_number_any a1 tx hq) (fun q hq => S_number_any a1 ty hq) (fun q hq => S_number_any a1 tz hq) (hn_lt hT y) (hn_lt hT z) (S_orderOf ?_))
    have e : nI (enc (hn T x) (hn T y) (hn T z)) &&& nI (mk3 (ax x) (ax y) (ax z)) = nI (vl3 (ax x) (ax y) (ax z) (an T x) (an T y) (an T z)) := by
      rw [q_and, enc_and (hn_lt hT y) (hn_lt hT z) (f63_lt _) (f63_lt _), hn_and hT, hn_and hT, hn_and hT]
    rw [e]
    refine S_send hK (hv64 x) (hv64 y) (hv64 z) (S_sbegin hK ho (enc_lt (fv_lt _ (hv64 x)) (fv_lt _ (hv64 y)) (fv_lt _ (hv64 z))) ?_)
    have hs := (stretch a2.2.1 (ax x) (ax y) (ax z) (hv64 x) (hv64 y) (hv64 z) hK.2.2.1 hpm).1
    rw [hs, n_sub (by omega), Nat.add_sub_cancel_left]
    exact g
  have j49 : ∀ A B : Int32, (A = 0 ↔ ax x = false) → (B = 0 ↔ ax y = false) → P_X7_count_j49 c x y z B A post postX :=
    fun A B hA hB => ⟨fun q => j58 A B _ hA hB (zer z q), fun q => j58 A B _ hA hB (one z q)⟩
  have j40 : ∀ A : Int32, (A = 0 ↔ ax x = false) → P_X7_count_j40 c x y z A post postX :=
    fun A hA => ⟨fun q => j49 A _ hA (zer y q), fun q => j49 A _ hA (one y q)⟩
  exact ⟨fun q => j40 _ (zer x q), fun q => j40 _ (one x q)⟩
-- the shape
def starQ (Q : List Pt3) : Nat → Bool
  | 0 => false
  | n + 1 => if n = 0 then (if h : 2 ≤ Q.length then decide (100 ≤ Q[0] 0) else false) else (starQ Q n && (if h : n < Q.length then Q[n] 0 == Q[0] 0 else true))
def chainQ (Q : List Pt3) : Nat → Bool
  | 0 => false
  | n + 1 => if n = 0 then decide (2 ≤ Q.length) else (chainQ Q n && (if h : n < Q.length then (decide (100 ≤ Q[n - 1] 2) && Q[n - 1] 2 == Q[n] 0) else true))
theorem told_eq {x y : Nat} (hx : x < 104) (hy : y < 104) : toldI x = toldI y ↔ x = y := by
  refine ⟨fun h => ?_, fun h => by rw [h]⟩
  rcases Nat.lt_or_ge x 100 with a | a <;> rcases Nat.lt_or_ge y 100 with b | b
  · rw [told_pos a, told_pos b] at h
    exact (nI_eq (by omega) (by omega)).mp h
  · have := told_neg b hy
    rw [← h, told_pos a] at this
    exact absurd this (nI_pos (by omega))
  · have := told_neg a hx
    rw [h, told_pos b] at this
    exact absurd this (nI_pos (by omega))
  · have h1 := told_var a hx
    have h2 := told_var b hy
    rw [h, h2] at h1
    have := (nI_eq (by omega) (by omega)).mp h1
    omega
theorem told_le {x : Nat} (hx : x < 104) : 0 ≤ toldI x ↔ x < 100 := by
  constructor
  · intro h
    rcases Nat.lt_or_ge x 100 with a | a
    · exact a
    · exact (Int32.lt_irrefl (Int32.lt_of_lt_of_le (told_neg a hx) h)).elim
  · intro h
    rw [told_pos h]; exact nI_pos' (by omega)
theorem S_part {X : Pt3} {p : PatS} {i : Nat} {post : Int32 → Prop} (hp : patOK X p) (hi : i < 3) (h : post (toldI (X i))) : P_X2_part p (nI i) post := by
  refine S_at hi (by omega) ?_
  rw [hp.2.1 i hi]; exact h
theorem obz (b : Bool) : ob b = 0 ↔ b = false := by cases b <;> decide
theorem bo_ob (b : Bool) : bo (ob b) := by cases b <;> first | exact bo0 | exact bo1
theorem S_isStar {Q : List Pt3} {q : QueS} {post : Int32 → Prop} (hq : queOK Q q) (h : post (ob (starQ Q Q.length))) : P_X3_isStar q post := by
  obtain ⟨z1, z2, z3⟩ := id hq
  have hX := que_okX hq
  have lp : ∀ b, b = starQ Q 1 → 0 < Q.length ∨ b = false → P_X3_isStar_j24 q (ob b) post := by
    intro b hb h0
    refine wl (fun w => ∃ i, w = (ob (starQ Q i), nI i) ∧ 1 ≤ i ∧ (i ≤ Q.length ∨ i = 1)) (fun w => 3 - w.2.toNatClampNeg) ⟨1, by rw [hb]; rfl, by omega, Or.inr rfl⟩ ?_
    rintro w ⟨i, rfl, h1, hi⟩ K hK
    refine ⟨fun c => ?_, fun c => ?_⟩
    · have c : q.size ≤ nI i := c
      rw [z2] at c
      have c := (nI_leI (by omega) (by omega)).mp c
      refine ⟨bo_ob _, ?_⟩
      rcases Nat.eq_or_lt_of_le c with e | e
      · rw [e] at h; exact h
      · have e1 : i = 1 := by omega
        have e0 : Q.length = 0 := by omega
        rw [e0] at h
        subst e1
        have : starQ Q 1 = false := by
          show (if h : 2 ≤ Q.length then _ else false) = false
          rw [dif_neg (by omega)]
        rw [this]; exact h
    · have hlt : i < Q.length := by
        rcases Nat.lt_or_ge i Q.length with y | y
        · exact y
        · exact absurd (show q.size ≤ nI i by rw [z2]; exact n_le y (by omega)) c
      have st : starQ Q (i + 1) = (starQ Q i && (Q[i] 0 == Q[0] 0)) := by
        show (if i = 0 then _ else _) = _
        rw [if_neg (by omega), dif_pos hlt]
      have nx : ∀ x b, x = ob b → b = starQ Q (i + 1) → K (x, nI i + (1 : Int32)) := by
        intro x b e e2
        rw [e, e2, nI_1]
        refine hK _ ⟨i + 1, rfl, by omega, Or.inl (by omega)⟩ ?_
        show 3 - (nI (i + 1)).toNatClampNeg < 3 - (nI i).toNatClampNeg
        rw [n_cl (by omega), n_cl (by omega)]; omega
      refine ⟨fun c2 => ?_, fun c2 => ?_⟩
      · have c2 : ob (starQ Q i) = 0 := c2
        exact nx 0 false rfl (by rw [st, (obz _).mp c2]; rfl)
      · have c2 : ¬ ob (starQ Q i) = 0 := c2
        have hs : starQ Q i = true := by
          cases hz : starQ Q i
          · exact absurd ((obz _).mpr hz) c2
          · rfl
        have j48 : P_X3_isStar_j48 q (nI i) (toldI (Q[i] 0)) K post := by
          refine S_part (i := 0) (z3 0 (by omega)) (by omega) ⟨fun e => ?_, fun e => ?_⟩
          · refine nx 0 false rfl ?_
            rw [st, hs, Bool.true_and]
            have : ¬ Q[i] 0 = Q[0] 0 := fun z => e (by rw [z])
            simp [this]
          · have e := (told_eq (hX i hlt 0 (by omega)) (hX 0 (by omega) 0 (by omega))).mp e
            refine nx 1 true rfl ?_
            rw [st, hs, e]; simp
        have hp := z3 i hlt
        refine S_pattern (by omega) ⟨fun d => ?_, fun d => ?_, fun d => ?_⟩
        · subst d; exact S_part (i := 0) hp (by omega) j48
        · subst d; exact S_part (i := 0) hp (by omega) j48
        · subst d; exact S_part (i := 0) hp (by omega) j48
  have c2 : q.size < (2 : Int32) ↔ Q.length < 2 := by rw [z2]; exact nI_ltI (b := 2) (by omega) (by omega)
  have no : starQ Q 1 = false → P_X3_isStar_j23 q post := fun e => lp false e.symm (Or.inr rfl)
  have s1 : ∀ hl : 2 ≤ Q.length, starQ Q 1 = decide (100 ≤ Q[0] 0) := by
    intro hl
    show (if h : 2 ≤ Q.length then _ else false) = _
    rw [dif_pos hl]
  refine ⟨fun c => no ?_, fun c => ?_⟩
  · have := c2.mp c
    show (if h : 2 ≤ Q.length then _ else false) = false
    rw [dif_neg (by omega)]
  · have hl : 2 ≤ Q.length := by
      rcases Nat.lt_or_ge Q.length 2 with y | y
      · exact absurd (c2.mpr y) c
      · exact y
    have h104 := hX 0 (by omega) 0 (by omega)
    refine S_part (i := 0) (z3 0 (by omega)) (by omega) ⟨fun e => no ?_, fun e => ?_⟩
    · have := (told_le h104).mp e
      rw [s1 hl, decide_eq_false (by omega)]
    · have : ¬ Q[0] 0 < 100 := fun z => e ((told_le h104).mpr z)
      exact lp true (by rw [s1 hl, decide_eq_true (by omega)]) (Or.inl (by omega))
theorem S_isChain {Q : List Pt3} {q : QueS} {post : Int32 → Prop} (hq : queOK Q q) (h : post (ob (chainQ Q Q.length))) : P_X3_isChain q post := by
  obtain ⟨z1, z2, z3⟩ := id hq
  have hX := que_okX hq
  have lp : ∀ b, b = chainQ Q 1 → P_X3_isChain_j13 q (ob b) post := by
    intro b hb
    refine wl (fun w => ∃ i, w = (ob (chainQ Q i), nI i) ∧ 1 ≤ i ∧ (i ≤ Q.length ∨ i = 1)) (fun w => 3 - w.2.toNatClampNeg) ⟨1, by rw [hb]; rfl, by omega, Or.inr rfl⟩ ?_
    rintro w ⟨i, rfl, h1, hi⟩ K hK
    refine ⟨fun c => ?_, fun c => ?_⟩
    · have c : q.size ≤ nI i := c
      rw [z2] at c
      have c := (nI_leI (by omega) (by omega)).mp c
      refine ⟨bo_ob _, ?_⟩
      rcases Nat.eq_or_lt_of_le c with e | e
      · rw [e] at h; exact h
      · have e1 : i = 1 := by omega
        have e0 : Q.length = 0 := by omega
        rw [e0] at h
        subst e1
        have : chainQ Q 1 = false := by
          show decide (2 ≤ Q.length) = false
          exact decide_eq_false (by omega)
        rw [this]; exact h
    · have hlt : i < Q.length := by
        rcases Nat.lt_or_ge i Q.length with y | y
        · exact y
        · exact absurd (show q.size ≤ nI i by rw [z2]; exact n_le y (by omega)) c
      have st : chainQ Q (i + 1) = (chainQ Q i && (decide (100 ≤ Q[i - 1] 2) && Q[i - 1] 2 == Q[i] 0)) := by
        show (if i = 0 then _ else _) = _
        rw [if_neg (by omega), dif_pos hlt]
      have nx : ∀ x b, x = ob b → b = chainQ Q (i + 1) → K (x, nI i + (1 : Int32)) := by
        intro x b e e2
        rw [e, e2, nI_1]
        refine hK _ ⟨i + 1, rfl, by omega, Or.inl (by omega)⟩ ?_
        show 3 - (nI (i + 1)).toNatClampNeg < 3 - (nI i).toNatClampNeg
        rw [n_cl (by omega), n_cl (by omega)]; omega
      have h104 := hX (i - 1) (by omega) 2 (by omega)
      have h104b := hX i hlt 0 (by omega)
      have j54 : chainQ Q i = true → 100 ≤ Q[i - 1] 2 → P_X3_isChain_j54 q (nI i) (toldI (Q[i] 0)) (toldI (Q[i - 1] 2)) K post := by
        intro hs hg
        refine ⟨fun e => ?_, fun e => ?_⟩
        · refine nx 0 false rfl ?_
          have : ¬ Q[i - 1] 2 = Q[i] 0 := fun z => e (by rw [z])
          rw [st, hs]
          simp [this]
        · have e := (told_eq h104 h104b).mp e
          refine nx 1 true rfl ?_
          rw [st, hs, decide_eq_true hg, e]; simp
      have j35 : P_X3_isChain_j35 q (ob (chainQ Q i)) (nI i) (toldI (Q[i - 1] 2)) K post := by
        refine ⟨fun c2 => nx 0 false rfl (by rw [st, (obz _).mp c2]; rfl), fun c2 => ⟨fun e => nx 0 false rfl ?_, fun e => ?_⟩⟩
        · have := (told_le h104).mp e
          rw [st, decide_eq_false (by omega)]; simp
        · have hg : ¬ Q[i - 1] 2 < 100 := fun z => e ((told_le h104).mpr z)
          have hs : chainQ Q i = true := by
            cases hz : chainQ Q i
            · exact absurd ((obz _).mpr hz) c2
            · rfl
          have hj := j54 hs (by omega)
          have hp := z3 i hlt
          refine S_pattern (by omega) ⟨fun d => ?_, fun d => ?_, fun d => ?_⟩
          · subst d; exact S_part (i := 0) hp (by omega) hj
          · subst d; exact S_part (i := 0) hp (by omega) hj
          · subst d; exact S_part (i := 0) hp (by omega) hj
      have hp := z3 (i - 1) (by omega)
      show P_X3_pattern q (nI i - (1 : Int32)) _
      rw [show (1 : Int32) = nI 1 from rfl, n_sub h1]
      have hi1 : i - 1 < 3 := by omega
      generalize Q[i - 1] = X at hp j35
      refine S_pattern hi1 ⟨fun d => ?_, fun d => ?_, fun d => ?_⟩
      · rw [d] at hp; exact S_part (i := 2) (show patOK X q.first from hp) (by omega) j35
      · rw [d] at hp; exact S_part (i := 2) (show patOK X q.second from hp) (by omega) j35
      · rw [d] at hp; exact S_part (i := 2) (show patOK X q.third from hp) (by omega) j35
  have c2 : q.size < (2 : Int32) ↔ Q.length < 2 := by rw [z2]; exact nI_ltI (b := 2) (by omega) (by omega)
  refine ⟨fun c => lp false ?_, fun c => lp true ?_⟩
  · have := c2.mp c
    exact (decide_eq_false (by omega) : decide (2 ≤ Q.length) = false).symm
  · have hl : 2 ≤ Q.length := by
      rcases Nat.lt_or_ge Q.length 2 with y | y
      · exact absurd (c2.mpr y) c
      · exact y
    exact (decide_eq_true hl : decide (2 ≤ Q.length) = true).symm
def shp (Q : List Pt3) : Nat := (if starQ Q Q.length then 1 else 0) + (if chainQ Q Q.length then 2 else 0)
theorem C_shape {T M : List Nat} {Q : List Pt3} {A : List Nat} {kv : Nat} {c : TriS} {post : Int32 → Prop} (hc : cls T M Q A kv c) (h : post (nI (shp Q))) : P_X7_shape c post := by
  have hq := hc.2.2.2.1
  unfold shp at h
  have j15 : ∀ x n, x = nI n → n = (if starQ Q Q.length then 1 else 0) → P_X7_shape_j15 c x post := by
    intro x n e e2
    subst e
    rw [← e2] at h
    refine S_isChain hq ⟨fun d => ?_, fun d => ?_⟩
    · rw [(obz _).mp d] at h
      show post (nI n + nI 0)
      rw [n_add]; exact h
    · have hs : chainQ Q Q.length = true := by
        cases hz : chainQ Q Q.length
        · exact absurd ((obz _).mpr hz) d
        · rfl
      rw [hs] at h
      show post (nI n + nI 2)
      rw [n_add]; exact h
  refine S_isStar hq ⟨fun d => j15 0 0 rfl ?_, fun d => j15 1 1 rfl ?_⟩
  · rw [(obz _).mp d]; rfl
  · have hs : starQ Q Q.length = true := by
      cases hz : starQ Q Q.length
      · exact absurd ((obz _).mpr hz) d
      · rfl
    rw [hs]; rfl
-- the answers kept
theorem S_isVariable {x : Int32} {post : Int32 → Prop} (h1 : isN 4 x → post 1) (h0 : ¬ isN 4 x → post 0) : P_X7_isVariable x post := by
  obtain ⟨g1, g2⟩ := isN_dec (k := 4) (by omega) (x := x)
  exact ⟨fun c => h0 (g1 c), fun c => ⟨fun c2 => h0 ((g2 c).1 c2), fun c2 => h1 ((g2 c).2 c2)⟩⟩
/-- the answers kept: rows over kv, with numbers of the dictionary, rising -/
def ansOK (T A : List Nat) (kv : Nat) : Prop := A.Pairwise (fun a b => a < b) ∧ ∀ a ∈ A, rowOK kv a ∧ ∀ v, v < 4 → kv.testBit v = true → cell a v < T.length
theorem C_answer {T M : List Nat} {Q : List Pt3} {A : List Nat} {kv : Nat} {c : TriS} {x y : Int32} {post : Int32 → Prop} {postX : Nat → Prop} (hc : cls T M Q A kv c) (ha : ansOK T A kv) (h0 : ¬ isN A.length x → postX 3) (h1 : isN A.length x → (∀ v, v < 4 → y = nI v → kv.testBit v = false) → postX 1) (h2 : ∀ i v (hi : i < A.length), v < 4 → x = nI i → y = nI v → kv.testBit v = true → ∀ (hl : cell A[i] v < T.length), post (nI T[cell A[i] v])) : P_X7_answer c x y post postX := by
  obtain ⟨a1, a2, a3, a4, a5, a6, a7, a8⟩ := hc
  have hsz : c.keptSize = nI A.length := a5.1
  obtain ⟨g1, g2⟩ := below (k := A.length) (by omega) (x := x)
  refine ⟨fun c1 => h0 (g1 c1), fun c1 => ⟨fun c2 => ?_, fun c2 => ?_⟩⟩
  · have c2 : x < c.keptSize := c2
    rw [hsz] at c2
    have hx := (g2 c1).1 c2
    refine S_isVariable (fun hv => ⟨fun _ => ?_, fun e => absurd e (by decide)⟩) (fun nv => ⟨fun e => absurd rfl e, fun _ => h1 hx (fun v hv e => absurd ⟨v, hv, e⟩ nv)⟩)
    obtain ⟨v, hv4, ev⟩ := hv
    obtain ⟨i, hi, ex⟩ := id hx
    have k2 := h2 i v hi hv4 ex ev
    have k1 := h1 hx
    rw [a7]
    subst ev ex
    refine S_hasBitB (by omega) (by omega) (fun hb => ⟨fun _ => ?_, fun e => absurd e (by decide)⟩) (fun hb => ⟨fun e => absurd rfl e, fun _ => k1 (fun v' hv' e => ?_)⟩)
    · have hrow := ha.2 _ (List.getElem_mem hi)
      have hl := hrow.2 v hv4 hb
      refine S_at (by omega) (by omega) ?_
      rw [a5.2 i hi]
      exact S_cellOf (Nat.lt_trans hrow.1.1 (by omega)) (by omega) (S_term a1 hl (k2 hb hl))
    · have := (nI_eq (by omega) (by omega)).mp e
      subst this; exact hb
  · have c2 : ¬ x < c.keptSize := c2
    rw [hsz] at c2
    exact h0 ((g2 c1).2 c2)
