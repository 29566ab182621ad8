abbrev DicS : Type := (Nat → Int32) × (Nat → Int32) × Int32
abbrev DicS.termByNumber (s : DicS) : (Nat → Int32) := s.1
abbrev DicS.nextNumberByTerm (s : DicS) : (Nat → Int32) := s.2.1
abbrev DicS.size (s : DicS) : Int32 := s.2.2
abbrev SorS : Type := (Nat → Int32) × Int32
abbrev SorS.keys (s : SorS) : (Nat → Int32) := s.1
abbrev SorS.size (s : SorS) : Int32 := s.2
abbrev StoS : Type := SorS × SorS × SorS
abbrev StoS.bySubject (s : StoS) : SorS := s.1
abbrev StoS.byPredicate (s : StoS) : SorS := s.2.1
abbrev StoS.byObject (s : StoS) : SorS := s.2.2
abbrev PatS : Type := (Nat → Int32) × (Nat → Int32) × Int32 × Int32
abbrev PatS.told (s : PatS) : (Nat → Int32) := s.1
abbrev PatS.numbers (s : PatS) : (Nat → Int32) := s.2.1
abbrev PatS.variableBits (s : PatS) : Int32 := s.2.2.1
abbrev PatS.found (s : PatS) : Int32 := s.2.2.2
abbrev QueS : Type := PatS × PatS × PatS × Int32
abbrev QueS.first (s : QueS) : PatS := s.1
abbrev QueS.second (s : QueS) : PatS := s.2.1
abbrev QueS.third (s : QueS) : PatS := s.2.2.1
abbrev QueS.size (s : QueS) : Int32 := s.2.2.2
abbrev TabS : Type := (Nat → Int32) × (Nat → Int32) × (Nat → Int32) × Int32 × Int32 × Int32
abbrev TabS.rows (s : TabS) : (Nat → Int32) := s.1
abbrev TabS.next_ (s : TabS) : (Nat → Int32) := s.2.1
abbrev TabS.starts (s : TabS) : (Nat → Int32) := s.2.2.1
abbrev TabS.size (s : TabS) : Int32 := s.2.2.2.1
abbrev TabS.nextSize (s : TabS) : Int32 := s.2.2.2.2.1
abbrev TabS.over (s : TabS) : Int32 := s.2.2.2.2.2
abbrev JoiS : Type := TabS × TabS
abbrev JoiS.made (s : JoiS) : TabS := s.1
abbrev JoiS.side (s : JoiS) : TabS := s.2
abbrev TriS : Type := DicS × StoS × QueS × JoiS × (Nat → Int32) × Int32 × Int32
abbrev TriS.dictionary (s : TriS) : DicS := s.1
abbrev TriS.store (s : TriS) : StoS := s.2.1
abbrev TriS.query (s : TriS) : QueS := s.2.2.1
abbrev TriS.joins (s : TriS) : JoiS := s.2.2.2.1
abbrev TriS.kept (s : TriS) : (Nat → Int32) := s.2.2.2.2.1
abbrev TriS.keptSize (s : TriS) : Int32 := s.2.2.2.2.2.1
abbrev TriS.keptVariables (s : TriS) : Int32 := s.2.2.2.2.2.2

/-- a loop: an invariant by a number that falls -/
def wloop {V : Type} (B : (V → Prop) → V → Prop) (v : V) : Prop := ∃ I : Nat → V → Prop, (∀ n v, I n v → B (fun w => ∃ k, k < n ∧ I k w) v) ∧ ∃ n, I n v
/-- what a boolean answer is -/
def bo (v : Int32) : Prop := narrow .boolean (.int v) = .int v
abbrev jlushr (x : Int64) (y : Int32) : Int64 := (x.toUInt64 >>> (y.toInt64.toUInt64 &&& Int64.toUInt64 63)).toInt64
theorem vaP0 (D : va_G) {H : Heap} : va_P D vwCl [] H := fun _ _ h => by cases h
theorem vaD0 {A : Nat → Prop} : va_D A [] := ⟨fun _ _ _ _ h => (nomatch h), fun _ _ h => (nomatch h)⟩
theorem fr0 {A0 : Nat → Prop} {H0 H : Heap} {locs : List Loc} (hA : ∀ q, H0.size ≤ q → A0 q) (hS : va_S A0 H0 H locs) : ∀ q, va_A [] H.size q → A0 q := by
  intro q h
  rcases h with ⟨k, e, h⟩ | h
  · cases h
  · exact hA q (Nat.le_trans hS.1 h)
theorem vaPk {D : va_G} {ws : va_W} {H H1 : Heap} (hP : va_P D vwCl ws H) (hk : ∀ q : Nat, q < H.size → ¬ va_A [] H.size q → H1[q]? = H[q]?) : va_P D vwCl ws H1 := by
  refine hP.kept (fun k q hq => ?_)
  have hl := (hP k q hq).lt
  refine hk q.1 hl (fun z => ?_)
  rcases z with ⟨k, e, z⟩ | z
  · cases z
  · omega
theorem cl_join {A0 : Nat → Prop} {D : va_G} {ws wc wr w1 ws' : va_W} {H H1 : Heap} (hP : va_P D vwCl ws H) (hD : va_D A0 ws) (isC isR pm : List Nat) (hC : isC.map (fun i => ws[i]?) = wc.map some) (hR : isR.map (fun i => ws[i]?) = wr.map some) (hn : va_nd isR = true) (hdis : ∀ i ∈ isR, i ∉ isC) (hpm : va_nd pm = true) (hw : pm.map (fun i => (wr ++ w1)[i]?) = ws'.map some)
    (hk : ∀ q : Nat, q < H.size → ¬ va_A wc H.size q → H1[q]? = H[q]?) (hF : ∀ q, va_A wc H.size q → A0 q) (hP1 : va_P D vwCl w1 H1) (hD1 : va_D (va_A wc H.size) w1) : va_P D vwCl ws' H1 ∧ va_D A0 ws' := by
  obtain ⟨h1, h2⟩ := va_join hP hD isC isR hC hR hn hdis hk hF hP1 hD1
  refine ⟨?_, h2.sub pm hpm hw⟩
  intro k q hq
  have h3 : (pm.map (fun i => (wr ++ w1)[i]?))[k]? = some (some q) := by rw [hw, List.getElem?_map, hq]; rfl
  rw [List.getElem?_map] at h3
  cases hi : pm[k]? with
  | none => rw [hi] at h3; cases h3
  | some i => rw [hi] at h3; exact h1 i q (Option.some.inj h3)
theorem cap1 {n : Nat} (h : n ≤ 4000) : ¬ (if Int32.ofNat n < 0 then 0 else Int32.ofNat n) < 0 := by
  show ¬ (if nI n < 0 then 0 else nI n) < 0
  rw [if_neg (nI_pos (n := n) (by omega))]
  exact nI_pos (n := n) (by omega)
theorem cap2 {n : Nat} (h : n ≤ 4000) : (if Int32.ofNat n < 0 then 0 else Int32.ofNat n).toNatClampNeg = n := by
  show (if nI n < 0 then 0 else nI n).toNatClampNeg = n
  rw [if_neg (nI_pos (n := n) (by omega))]
  exact nI_clamp (n := n) (by omega)
theorem arr_eq {D : va_G} {cl : List vw_C} {cI cA : ClassId} {s : State} (h : va_K D cl ([(cI, .int)] ++ [(cA, .int)]) s) : cI = cA := by
  have h1 := (h.2 0 _ rfl).2
  have h2 := (h.2 1 _ rfl).2
  exact Option.some.inj (h1.symm.trans h2)

