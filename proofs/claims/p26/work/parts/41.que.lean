/-! PURE SIDE 12: the query: Q, its patterns as codes -/
abbrev Pt3 : Type := Nat → Nat
def selP (q : QueS) (i : Nat) : PatS := if i = 1 then q.second else if i = 2 then q.third else q.first
def setP (q : QueS) (i : Nat) (p : PatS) : QueS := if i = 1 then (q.first, p, q.third, q.size) else if i = 2 then (q.first, q.second, p, q.size) else (p, q.second, q.third, q.size)
def queOK (Q : List Pt3) (q : QueS) : Prop := Q.length ≤ 3 ∧ q.size = nI Q.length ∧ ∀ (i : Nat) (h : i < Q.length), patOK Q[i] (selP q i)
/-- numbers and matches have been looked up -/
def lookOK (T M : List Nat) (Q : List Pt3) (q : QueS) : Prop := queOK Q q ∧ ∀ (i : Nat) (h : i < Q.length), numOK T Q[i] (selP q i) ∧ (selP q i).found = nI (cand T M Q[i] 0 0).length
theorem selP_set {q : QueS} {i : Nat} {p : PatS} (hi : i < 3) : selP (setP q i p) i = p := by
  rcases (show i = 0 ∨ i = 1 ∨ i = 2 by omega) with rfl | rfl | rfl <;> rfl
theorem selP_set_ne {q : QueS} {i j : Nat} {p : PatS} (hi : i < 3) (hj : j < 3) (hne : j ≠ i) : selP (setP q i p) j = selP q j := by
  rcases (show i = 0 ∨ i = 1 ∨ i = 2 by omega) with rfl | rfl | rfl <;> rcases (show j = 0 ∨ j = 1 ∨ j = 2 by omega) with rfl | rfl | rfl <;> first | rfl | exact absurd rfl hne
theorem setP_size {q : QueS} {i : Nat} {p : PatS} : (setP q i p).size = q.size := by
  unfold setP; split
  · rfl
  · split <;> rfl
theorem S_pattern {q : QueS} {i : Nat} {post : Nat → Prop} (hi : i < 3) (h : post i) : P_X3_pattern q (nI i) post := by
  rcases (show i = 0 ∨ i = 1 ∨ i = 2 by omega) with rfl | rfl | rfl
  · exact ⟨fun _ => ⟨fun _ => h, fun c => absurd c (by decide)⟩, fun c => absurd c (by decide)⟩
  · exact ⟨fun c => absurd rfl c, fun _ => h⟩
  · exact ⟨fun _ => ⟨fun c => absurd rfl c, fun _ => h⟩, fun c => absurd c (by decide)⟩
/-- a choice of a pattern, and what is done with it -/
theorem pick {F : Nat → Prop} {i : Nat} (hi : i < 3) (h : F i) : (i = 0 → F 0) ∧ (i = 1 → F 1) ∧ (i = 2 → F 2) :=
  ⟨fun e => e ▸ h, fun e => e ▸ h, fun e => e ▸ h⟩
theorem S_qlook {T M : List Nat} {d : DicS} {s : StoS} {Q : List Pt3} {q : QueS} {post : QueS → Prop} (hd : dicOK T d) (hs : stoOK M s) (hq : queOK Q q) (h : ∀ q', lookOK T M Q q' → post q') : P_X3_look q d s post := by
  refine wl (fun w => ∃ i z, w = (nI i, z) ∧ i ≤ Q.length ∧ queOK Q z ∧ ∀ (j : Nat) (hj : j < Q.length), j < i → numOK T Q[j] (selP z j) ∧ (selP z j).found = nI (cand T M Q[j] 0 0).length) (fun w => 3 - w.1.toNatClampNeg) ⟨0, q, rfl, by omega, hq, fun j _ hj => by omega⟩ ?_
  rintro w ⟨i, z, rfl, hi, hz, hl⟩ K hK
  obtain ⟨z1, z2, z3⟩ := hz
  refine ⟨fun c => ?_, fun c => ?_⟩
  · have c : z.size ≤ nI i := c
    rw [z2] at c
    have := (nI_leI (by omega) (by omega)).mp c
    exact h z ⟨⟨z1, z2, z3⟩, fun j hj => hl j hj (by omega)⟩
  · have hlt : i < Q.length := by
      rcases Nat.lt_or_ge i Q.length with y | y
      · exact y
      · exact absurd (show z.size ≤ nI i by rw [z2]; exact n_le y (by omega)) c
    have hi3 : i < 3 := by omega
    have fin : ∀ p', patOK Q[i] p' → numOK T Q[i] p' → p'.found = nI (cand T M Q[i] 0 0).length → K (nI i + (1 : Int32), setP z i p') := by
      intro p' h1 h2 h3
      rw [nI_1]
      refine hK _ ⟨i + 1, _, rfl, by omega, ⟨z1, by rw [setP_size]; exact z2, ?_⟩, ?_⟩ ?_
      · intro j hj
        by_cases e : j = i
        · subst e; rw [selP_set hi3]; exact h1
        · rw [selP_set_ne hi3 (by omega) e]; exact z3 j hj
      · intro j hj hj2
        by_cases e : j = i
        · subst e; rw [selP_set hi3]; exact ⟨h2, h3⟩
        · rw [selP_set_ne hi3 (by omega) e]; exact hl j hj (by omega)
      · show 3 - (nI (i + 1)).toNatClampNeg < 3 - (nI i).toNatClampNeg
        rw [n_cl (by omega), n_cl (by omega)]; omega
    refine S_pattern hi3 ⟨fun e => ?_, fun e => ?_, fun e => ?_⟩
    · subst e; exact S_look hd hs (z3 0 hlt) fin
    · subst e; exact S_look hd hs (z3 1 hlt) fin
    · subst e; exact S_look hd hs (z3 2 hlt) fin
/-- the variables of the first n patterns, of all -/
def qvN (Q : List Pt3) : Nat → Nat
  | 0 => 0
  | n + 1 => qvN Q n ||| (if h : n < Q.length then vbits Q[n] else 0)
def qv (Q : List Pt3) : Nat := qvN Q Q.length
theorem qvN_lt {Q : List Pt3} (hX : ∀ (i : Nat) (h : i < Q.length), okX Q[i]) : ∀ n, qvN Q n < 16
  | 0 => show 0 < 16 by omega
  | n + 1 => by
    have ih := qvN_lt hX n
    show qvN Q n ||| _ < 2 ^ 4
    refine Nat.or_lt_two_pow ih ?_
    split
    · next h => exact vb_lt (hX n h)
    · decide
theorem que_okX {Q : List Pt3} {q : QueS} (h : queOK Q q) : ∀ (i : Nat) (hi : i < Q.length), okX Q[i] := fun i hi => (h.2.2 i hi).1
theorem S_qvars {Q : List Pt3} {q : QueS} {post : Int32 → Prop} (hq : queOK Q q) (h : post (nI (qv Q))) : P_X3_variableBits q post := by
  obtain ⟨z1, z2, z3⟩ := hq
  refine wl (fun w => ∃ i, w = (nI (qvN Q i), nI i) ∧ i ≤ Q.length) (fun w => 3 - w.2.toNatClampNeg) ⟨0, rfl, by omega⟩ ?_
  rintro w ⟨i, rfl, hi⟩ K hK
  refine ⟨fun c => ?_, fun c => ?_⟩
  · have c : q.size ≤ nI i := c
    rw [z2] at c
    have := (nI_leI (by omega) (by omega)).mp c
    have e : i = Q.length := by omega
    subst e; exact h
  · have hlt : i < Q.length := by
      rcases Nat.lt_or_ge i Q.length with y | y
      · exact y
      · exact absurd (show q.size ≤ nI i by rw [z2]; exact n_le y (by omega)) c
    have hi3 : i < 3 := by omega
    have fin : ∀ x, x = nI (vbits Q[i]) → K (nI (qvN Q i) ||| x, nI i + (1 : Int32)) := by
      intro x e
      rw [e, q_or, nI_1]
      refine hK _ ⟨i + 1, ?_, by omega⟩ ?_
      · show _ = (nI (qvN Q i ||| _), _)
        rw [dif_pos hlt]
      · show 3 - (nI (i + 1)).toNatClampNeg < 3 - (nI i).toNatClampNeg
        rw [n_cl (by omega), n_cl (by omega)]; omega
    refine S_pattern hi3 ⟨fun e => ?_, fun e => ?_, fun e => ?_⟩
    · subst e; exact fin _ (z3 0 hlt).2.2
    · subst e; exact fin _ (z3 1 hlt).2.2
    · subst e; exact fin _ (z3 2 hlt).2.2
-- the join order
/-- among the patterns left, i goes ahead of j -/
def shr (Q : List Pt3) (kn i : Nat) : Bool := if h : i < Q.length then !(vbits Q[i] &&& kn == 0) else false
def fnd (T M : List Nat) (Q : List Pt3) (i : Nat) : Nat := if h : i < Q.length then (cand T M Q[i] 0 0).length else 0
def ahead (T M : List Nat) (Q : List Pt3) (kn i j : Nat) : Bool := if shr Q kn i == shr Q kn j then decide (fnd T M Q i < fnd T M Q j) else shr Q kn i
/-- the best of the first n patterns; n + 9 when there is none -/
def bestN (T M : List Nat) (Q : List Pt3) (ca kn : Nat) : Nat → Option Nat
  | 0 => none
  | n + 1 => if ca.testBit n then bestN T M Q ca kn n else match bestN T M Q ca kn n with
    | none => some n
    | some b => if ahead T M Q kn n b then some n else some b
theorem fnd_le {T M : List Nat} {Q : List Pt3} {i : Nat} (hM : M.length ≤ 60) : fnd T M Q i ≤ 60 := by
  unfold fnd
  split
  · unfold cand
    have a1 := List.length_filterMap_le (wid Q[i] 0 0) (M.filter (matX T Q[i] 0 0))
    have a2 := List.length_filter_le (matX T Q[i] 0 0) M
    omega
  · omega
theorem bestN_lt {T M : List Nat} {Q : List Pt3} {ca kn : Nat} : ∀ {n b : Nat}, bestN T M Q ca kn n = some b → b < n
  | 0, b, h => by cases h
  | n + 1, b, h => by
    unfold bestN at h
    split at h
    · have := bestN_lt h; omega
    · split at h
      · cases h; omega
      · next b' hb =>
        have := bestN_lt hb
        split at h <;> cases h <;> omega
theorem S_goesAhead {T M : List Nat} {Q : List Pt3} {q : QueS} {i j kn : Nat} {post : Int32 → Prop} (hM : M.length ≤ 60) (hq : lookOK T M Q q) (hi : i < Q.length) (hj : j < Q.length) (h : post (ob (ahead T M Q kn i j))) : P_X3_goesAhead q (nI i) (nI j) (nI kn) post := by
  obtain ⟨⟨z1, z2, z3⟩, z4⟩ := hq
  have hvb : ∀ (n : Nat) (hn : n < Q.length), (selP q n).variableBits = nI (vbits Q[n]) := fun n hn => (z3 n hn).2.2
  have hfd : ∀ (n : Nat) (hn : n < Q.length), (selP q n).found = nI (fnd T M Q n) := fun n hn => by unfold fnd; rw [dif_pos hn]; exact (z4 n hn).2
  have hsh : ∀ (n : Nat) (hn : n < Q.length) (F : Int32 → Prop), F (ob (shr Q kn n)) → ((nI (vbits Q[n]) &&& nI kn) = 0 → F 0) ∧ (¬ ((nI (vbits Q[n]) &&& nI kn) = 0) → F 1) := by
    intro n hn F hF
    have hlt : vbits Q[n] &&& kn < 2147483648 := Nat.lt_of_le_of_lt Nat.and_le_left (Nat.lt_trans (vb_lt (z3 n hn).1) (by decide))
    unfold shr at hF
    rw [dif_pos hn] at hF
    rw [q_and]
    refine ⟨fun c => ?_, fun c => ?_⟩
    · have e : vbits Q[n] &&& kn = 0 := (nI_eq (b := 0) hlt (by omega)).mp c
      rw [e] at hF; exact hF
    · have e : ¬ vbits Q[n] &&& kn = 0 := fun z => c (by rw [z]; rfl)
      have e2 : (!(vbits Q[n] &&& kn == 0)) = true := by simp [e]
      rw [e2] at hF; exact hF
  have j63 : (shr Q kn i == shr Q kn j) = true → P_X3_goesAhead_j63 q (nI (fnd T M Q j)) (nI (fnd T M Q i)) post := by
    intro e
    have hi60 := fnd_le (T := T) (Q := Q) (i := i) hM
    have hj60 := fnd_le (T := T) (Q := Q) (i := j) hM
    unfold ahead at h
    rw [if_pos e] at h
    refine ⟨fun c => ?_, fun c => ?_⟩
    · have c := (nI_leI (by omega) (by omega)).mp c
      rw [decide_eq_false (by omega)] at h; exact h
    · have c2 : fnd T M Q i < fnd T M Q j := by
        rcases Nat.lt_or_ge (fnd T M Q i) (fnd T M Q j) with y | y
        · exact y
        · exact absurd (n_le y (by omega)) c
      rw [decide_eq_true c2] at h; exact h
  have j38 : P_X3_goesAhead_j38 q (nI i) (nI j) (ob (shr Q kn i)) (ob (shr Q kn j)) post := by
    refine ⟨fun c => ?_, fun c => ?_⟩
    · have e : (shr Q kn i == shr Q kn j) = false := by
        cases h1 : shr Q kn i <;> cases h2 : shr Q kn j <;> first | rfl | (rw [h1, h2] at c; exact absurd rfl c)
      unfold ahead at h
      rw [if_neg (by rw [e]; decide)] at h
      exact ⟨by cases shr Q kn i <;> first | exact bo0 | exact bo1, h⟩
    · have e : (shr Q kn i == shr Q kn j) = true := by
        cases h1 : shr Q kn i <;> cases h2 : shr Q kn j <;> first | rfl | (rw [h1, h2] at c; exact absurd c (by decide))
      have k2 : ∀ x, x = nI (fnd T M Q i) → P_X3_goesAhead_j55 q (nI j) x post := by
        intro x ex
        subst ex
        refine S_pattern (by omega) ⟨fun d => ?_, fun d => ?_, fun d => ?_⟩
        · have := hfd j hj; subst d
          show P_X3_goesAhead_j63 q (selP q 0).found _ post
          rw [this]; exact j63 e
        · have := hfd j hj; subst d
          show P_X3_goesAhead_j63 q (selP q 1).found _ post
          rw [this]; exact j63 e
        · have := hfd j hj; subst d
          show P_X3_goesAhead_j63 q (selP q 2).found _ post
          rw [this]; exact j63 e
      refine S_pattern (by omega) ⟨fun d => ?_, fun d => ?_, fun d => ?_⟩
      · have := hfd i hi; subst d; exact k2 _ this
      · have := hfd i hi; subst d; exact k2 _ this
      · have := hfd i hi; subst d; exact k2 _ this
  have j18 : P_X3_goesAhead_j18 q (nI i) (nI j) (nI kn) (ob (shr Q kn i)) post := by
    refine S_pattern (by omega) ⟨fun d => ?_, fun d => ?_, fun d => ?_⟩
    · have := hvb j hj; have g := hsh j hj (fun x => P_X3_goesAhead_j38 q (nI i) (nI j) (ob (shr Q kn i)) x post) j38; rw [← this] at g; subst d; exact g
    · have := hvb j hj; have g := hsh j hj (fun x => P_X3_goesAhead_j38 q (nI i) (nI j) (ob (shr Q kn i)) x post) j38; rw [← this] at g; subst d; exact g
    · have := hvb j hj; have g := hsh j hj (fun x => P_X3_goesAhead_j38 q (nI i) (nI j) (ob (shr Q kn i)) x post) j38; rw [← this] at g; subst d; exact g
  refine S_pattern (by omega) ⟨fun d => ?_, fun d => ?_, fun d => ?_⟩
  · have := hvb i hi; have g := hsh i hi (fun x => P_X3_goesAhead_j18 q (nI i) (nI j) (nI kn) x post) j18; rw [← this] at g; subst d; exact g
  · have := hvb i hi; have g := hsh i hi (fun x => P_X3_goesAhead_j18 q (nI i) (nI j) (nI kn) x post) j18; rw [← this] at g; subst d; exact g
  · have := hvb i hi; have g := hsh i hi (fun x => P_X3_goesAhead_j18 q (nI i) (nI j) (nI kn) x post) j18; rw [← this] at g; subst d; exact g
theorem S_bestLeft {T M : List Nat} {Q : List Pt3} {q : QueS} {ca kn : Nat} {post : Int32 → Prop} (hM : M.length ≤ 60) (hq : lookOK T M Q q) (hca : ca < 2147483648) (h : post (nI ((bestN T M Q ca kn Q.length).getD 0))) : P_X3_bestLeft q (nI ca) (nI kn) post := by
  have hq' := hq
  obtain ⟨⟨z1, z2, z3⟩, z4⟩ := hq'
  have enc1 : ∀ o : Option Nat, (∀ b, o = some b → b < 3) → (if (match o with | none => (-1 : Int32) | some b => nI b) < (0 : Int32) then (0 : Int32) else (match o with | none => (-1 : Int32) | some b => nI b)) = nI (o.getD 0) := by
    intro o ho
    cases o with
    | none => decide
    | some b =>
      show (if nI b < 0 then 0 else nI b) = nI b
      rw [if_neg (nI_pos (by have := ho b rfl; omega))]
  refine wl (fun w => ∃ i, w = ((match bestN T M Q ca kn i with | none => (-1 : Int32) | some b => nI b), nI i) ∧ i ≤ Q.length) (fun w => 3 - w.2.toNatClampNeg) ⟨0, rfl, by omega⟩ ?_
  rintro w ⟨i, rfl, hi⟩ K hK
  refine ⟨fun c => ?_, fun c => ?_⟩
  · have c : q.size ≤ nI i := c
    rw [z2] at c
    have := (nI_leI (by omega) (by omega)).mp c
    have e : i = Q.length := by omega
    subst e
    show post (if _ < (0 : Int32) then (0 : Int32) else _)
    rw [enc1 _ (fun b hb => by have := bestN_lt hb; omega)]; exact h
  · have hlt : i < Q.length := by
      rcases Nat.lt_or_ge i Q.length with y | y
      · exact y
      · exact absurd (show q.size ≤ nI i by rw [z2]; exact n_le y (by omega)) c
    have nx : ∀ x, x = (match bestN T M Q ca kn (i + 1) with | none => (-1 : Int32) | some b => nI b) → K (x, nI i + (1 : Int32)) := by
      intro x e
      rw [e, nI_1]
      refine hK _ ⟨i + 1, rfl, by omega⟩ ?_
      show 3 - (nI (i + 1)).toNatClampNeg < 3 - (nI i).toNatClampNeg
      rw [n_cl (by omega), n_cl (by omega)]; omega
    refine S_hasBitB hca (by omega) (fun hb => ⟨fun _ => nx _ ?_, fun d => absurd d (by decide)⟩) (fun hb => ⟨fun d => absurd rfl d, fun _ => ?_⟩)
    · show _ = (match bestN T M Q ca kn (i + 1) with | none => (-1 : Int32) | some b => nI b)
      rw [show bestN T M Q ca kn (i + 1) = bestN T M Q ca kn i by show (if ca.testBit i then _ else _) = _; rw [hb]; rfl]
    · cases hbn : bestN T M Q ca kn i with
      | none =>
        refine ⟨fun _ => nx _ ?_, fun d => absurd (show (-1 : Int32) < 0 by decide) d⟩
        have e : bestN T M Q ca kn (i + 1) = some i := by
          show (if ca.testBit i then _ else _) = _
          rw [hb, hbn]; rfl
        rw [e]
      | some b =>
        have hb3 := bestN_lt hbn
        refine ⟨fun d => absurd d (nI_pos (by omega)), fun _ => S_goesAhead hM hq hlt (by omega) ?_⟩
        have e : bestN T M Q ca kn (i + 1) = if ahead T M Q kn i b then some i else some b := by
          show (if ca.testBit i then _ else _) = _
          rw [hb, hbn]; rfl
        cases ha : ahead T M Q kn i b
        · refine ⟨fun _ => nx _ ?_, fun d => absurd rfl d⟩
          rw [e, ha]; rfl
        · refine ⟨fun d => absurd d (by decide), fun _ => nx _ ?_⟩
          rw [e, ha]; rfl
/-- the join order: what came, what is known, the pattern, behind n steps -/
def joN (T M : List Nat) (Q : List Pt3) : Nat → Nat × Nat × Nat
  | 0 => (0, 0, 0)
  | n + 1 =>
    let b := (bestN T M Q (joN T M Q n).1 (joN T M Q n).2.1 Q.length).getD 0
    ((joN T M Q n).1 ||| 2 ^ b, (joN T M Q n).2.1 ||| (if h : b < Q.length then vbits Q[b] else 0), b)
/-- the pattern at a place of the join order -/
def jo (T M : List Nat) (Q : List Pt3) (place : Nat) : Nat := (joN T M Q (place + 1)).2.2
theorem best_lt {T M : List Nat} {Q : List Pt3} {ca kn : Nat} (hQ : 0 < Q.length) : (bestN T M Q ca kn Q.length).getD 0 < Q.length := by
  cases h : bestN T M Q ca kn Q.length with
  | none => exact hQ
  | some b => exact bestN_lt h
theorem joN_lt {T M : List Nat} {Q : List Pt3} (hQ : 0 < Q.length) (hQ3 : Q.length ≤ 3) (hX : ∀ (i : Nat) (h : i < Q.length), okX Q[i]) : ∀ n, (joN T M Q n).1 < 8 ∧ (joN T M Q n).2.1 < 16 ∧ (joN T M Q n).2.2 < Q.length
  | 0 => ⟨show 0 < 8 by omega, show 0 < 16 by omega, hQ⟩
  | n + 1 => by
    obtain ⟨h1, h2, h3⟩ := joN_lt hQ hQ3 hX n
    have hb := best_lt (T := T) (M := M) (ca := (joN T M Q n).1) (kn := (joN T M Q n).2.1) hQ
    refine ⟨?_, ?_, hb⟩
    · show (joN T M Q n).1 ||| 2 ^ _ < 2 ^ 3
      exact Nat.or_lt_two_pow h1 (Nat.pow_lt_pow_right (by omega) (by omega))
    · show (joN T M Q n).2.1 ||| _ < 2 ^ 4
      refine Nat.or_lt_two_pow h2 ?_
      rw [dif_pos hb]
      exact vb_lt (hX _ hb)
theorem S_inJoinOrder {T M : List Nat} {Q : List Pt3} {q : QueS} {place : Nat} {post : Int32 → Prop} (hM : M.length ≤ 60) (hq : lookOK T M Q q) (hp : place < Q.length) (h : post (nI (jo T M Q place))) : P_X3_inJoinOrder q (nI place) post := by
  have hq' := hq
  obtain ⟨⟨z1, z2, z3⟩, z4⟩ := hq'
  have hlt := joN_lt (T := T) (M := M) (show 0 < Q.length by omega) z1 (que_okX ⟨z1, z2, z3⟩)
  refine wl (fun w => ∃ n, w = (nI (joN T M Q n).1, nI (joN T M Q n).2.1, nI (joN T M Q n).2.2, nI n) ∧ n ≤ place + 1) (fun w => 9 - w.2.2.2.toNatClampNeg) ⟨0, rfl, by omega⟩ ?_
  rintro w ⟨n, rfl, hn⟩ K hK
  obtain ⟨b1, b2, b3⟩ := hlt n
  refine ⟨fun c => ?_, fun c => ⟨fun c2 => ?_, fun c2 => ?_⟩⟩
  · have c := (nI_ltI (by omega) (by omega)).mp c
    have e : n = place + 1 := by omega
    subst e; exact h
  · have c2 : q.size ≤ nI n := c2
    rw [z2] at c2
    have := (nI_leI (by omega) (by omega)).mp c2
    have c3 : ¬ place < n := fun z => c (n_lt z (by omega))
    omega
  · have hnl : n ≤ place := by
      rcases Nat.lt_or_ge place n with y | y
      · exact absurd (n_lt y (by omega)) c
      · exact y
    have hb := best_lt (T := T) (M := M) (ca := (joN T M Q n).1) (kn := (joN T M Q n).2.1) (show 0 < Q.length by omega)
    refine S_bestLeft hM hq (by omega) ?_
    have fin : ∀ x, x = nI (vbits Q[(bestN T M Q (joN T M Q n).1 (joN T M Q n).2.1 Q.length).getD 0]) → K (nI (joN T M Q n).1 ||| ((1 : Int32) <<< (nI ((bestN T M Q (joN T M Q n).1 (joN T M Q n).2.1 Q.length).getD 0) &&& 31)), nI (joN T M Q n).2.1 ||| x, nI ((bestN T M Q (joN T M Q n).1 (joN T M Q n).2.1 Q.length).getD 0), nI n + (1 : Int32)) := by
      intro x e
      rw [e, show (1 : Int32) <<< (nI ((bestN T M Q (joN T M Q n).1 (joN T M Q n).2.1 Q.length).getD 0) &&& 31) = nI (1 * 2 ^ ((bestN T M Q (joN T M Q n).1 (joN T M Q n).2.1 Q.length).getD 0)) from q_shl 1 (by omega), q_or, q_or, nI_1, Nat.one_mul]
      refine hK _ ⟨n + 1, ?_, by omega⟩ ?_
      · show _ = (nI ((joN T M Q n).1 ||| 2 ^ _), nI ((joN T M Q n).2.1 ||| (if h : _ then _ else 0)), _, _)
        rw [dif_pos hb]
        rfl
      · show 9 - (nI (n + 1)).toNatClampNeg < 9 - (nI n).toNatClampNeg
        rw [n_cl (by omega), n_cl (by omega)]; omega
    have hv := (z3 _ hb).2.2
    generalize hbe : (bestN T M Q (joN T M Q n).1 (joN T M Q n).2.1 Q.length).getD 0 = b at *
    refine S_pattern (by omega) ⟨fun d => ?_, fun d => ?_, fun d => ?_⟩
    · subst d; exact fin _ hv
    · subst d; exact fin _ hv
    · subst d; exact fin _ hv
