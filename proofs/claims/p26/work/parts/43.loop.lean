/-! PURE SIDE 14: filling a table; the loop -/
/-- of the rows D, in some order, the table has N: all of them, or (over) as many as go in, and D has more -/
def fil (L : Nat) (D N : List Nat) (ov : Bool) : Prop := (ov = false → N.Perm D) ∧ (ov = true → N.length = L ∧ ∃ e E, (N ++ e :: E).Perm D)
theorem fil_nil (L : Nat) : fil L [] [] false := ⟨fun _ => List.Perm.refl _, fun h => by cases h⟩
theorem fil_perm {L : Nat} {D D' N : List Nat} {ov : Bool} (h : fil L D N ov) (hp : D.Perm D') : fil L D' N ov := by
  refine ⟨fun e => (h.1 e).trans hp, fun e => ?_⟩
  obtain ⟨h1, a, E, h2⟩ := h.2 e
  exact ⟨h1, a, E, h2.trans hp⟩
theorem fil_more {L : Nat} {D D' N : List Nat} (h : fil L D N true) : fil L (D ++ D') N true := by
  refine ⟨fun e => (by cases e), fun _ => ?_⟩
  obtain ⟨h1, a, E, h2⟩ := h.2 rfl
  refine ⟨h1, a, E ++ D', ?_⟩
  have := h2.append_right D'
  rw [List.append_assoc] at this
  exact this
theorem S_fadd {L r : Nat} {R N D : List Nat} {ov : Bool} {t : TabS} {post : TabS → Prop} (hL : L < 2147483648) (ht : tb L R N ov t) (hf : fil L D N ov) (h : ∀ N' ov' t', tb L R N' ov' t' → fil L (D ++ [r]) N' ov' → post t') : P_X6_add L t (nI r) post := by
  refine S_add hL ht (fun hlt t' ht' => h _ _ t' ht' ?_) (fun he t' ht' => h _ _ t' ht' ?_)
  · cases ov
    · exact ⟨fun _ => (hf.1 rfl).append_right [r], fun c => by cases c⟩
    · have := (hf.2 rfl).1; omega
  · refine ⟨fun c => (by cases c), fun _ => ⟨he, ?_⟩⟩
    cases ov
    · exact ⟨r, [], (hf.1 rfl).append_right [r]⟩
    · obtain ⟨e, E, hp⟩ := (hf.2 rfl).2
      refine ⟨e, E ++ [r], ?_⟩
      have := hp.append_right [r]
      rw [List.append_assoc] at this
      exact this
theorem keys0 (M : List Nat) : keysOf M 0 = M := by
  show M.map (fun t => rol t 0) = M
  rw [show (fun t => rol t 0) = id from rfl, List.map_id]
theorem ff_step {f : Nat → Option Nat} {m : Nat → Bool} {l : List Nat} {n : Nat} (h : n < l.length) : ((l.take (n + 1)).filter m).filterMap f = ((l.take n).filter m).filterMap f ++ (if m l[n] then (match f l[n] with | none => [] | some c => [c]) else []) := by
  rw [take_s h, List.filter_append, List.filterMap_append]
  congr 1
  cases hm : m l[n] with
  | false => rw [List.filter_cons_of_neg (by rw [hm]; decide)]; rfl
  | true =>
    rw [List.filter_cons_of_pos hm, if_pos rfl]
    cases hc : f l[n] with
    | none => rw [List.filterMap_cons_none hc]; rfl
    | some c => rw [List.filterMap_cons_some hc]; rfl
theorem S_tryAll {T M : List Nat} {s : StoS} {X : Nat → Nat} {p : PatS} {V r : Nat} {j : JoiS} {R N D : List Nat} {ov : Bool} {post : JoiS → Prop} (hT : T.length ≤ 40) (hs : stoOK M s) (hp : patOK X p) (hn : numOK T X p) (hr : rowOK V r) (ht : tb 3600 R N ov j.made) (hf : fil 3600 D N ov) (h : ∀ N' ov' t', tb 3600 R N' ov' t' → fil 3600 (D ++ cand T M X V r) N' ov' → post (t', j.side)) : P_X1_tryAllTriples j p s (nI V) (nI r) post := by
  have hr' := hr
  obtain ⟨r1, r2, r3⟩ := hr'
  obtain ⟨K, hK, hpm⟩ := hs.2.2 0 (by omega)
  have hK : sorOK K s.bySubject := hK
  rw [keys0] at hpm
  have hKl := hK.2.1
  refine S_maskWith hp r2 (S_valueWith hT hp hn r2 (by omega) (fun _ => ?_))
  show wloop (P_X1_tryAllTriples_B32 p s (nI V) (nI r) _ _ s.bySubject.size post) ((0 : Int32), j)
  rw [hK.1]
  refine wl (fun w => ∃ n N' ov' t', w = (nI n, (t', j.side)) ∧ n ≤ K.length ∧ tb 3600 R N' ov' t' ∧ fil 3600 (D ++ ((K.take n).filter (matX T X V r)).filterMap (wid X V r)) N' ov') (fun w => 60 - w.1.toNatClampNeg) ⟨0, N, ov, j.made, rfl, by omega, ht, by simpa using hf⟩ ?_
  rintro w ⟨n, N', ov', t', rfl, hnl, ht', hf'⟩ K1 hK1
  refine ⟨fun c => ?_, fun c => ?_⟩
  · have : K.length ≤ n := (nI_leI (by omega) (by omega)).mp c
    have e : n = K.length := by omega
    subst e
    rw [List.take_length] at hf'
    exact h _ _ t' ht' (fil_perm hf' (((hpm.filter _).filterMap _).append_left D))
  · have hlt : n < K.length := by
      rcases Nat.lt_or_ge n K.length with z | z
      · exact z
      · exact absurd (n_le z (by omega)) c
    have hkb := hK.2.2.2.1 _ (List.getElem_mem hlt)
    have hst := ff_step (f := wid X V r) (m := matX T X V r) hlt
    have go : ∀ N2 ov2 t2, tb 3600 R N2 ov2 t2 → fil 3600 (D ++ ((K.take (n + 1)).filter (matX T X V r)).filterMap (wid X V r)) N2 ov2 → K1 (nI n + (1 : Int32), (t2, j.side)) := by
      intro N2 ov2 t2 h1 h2
      rw [nI_1]
      refine hK1 _ ⟨n + 1, N2, ov2, t2, rfl, by omega, h1, h2⟩ ?_
      show 60 - (nI (n + 1)).toNatClampNeg < 60 - (nI n).toNatClampNeg
      rw [n_cl (by omega), n_cl (by omega)]; omega
    refine S_key hK hlt ?_
    have hand : (nI K[n] &&& nI (mk3 (td X V 0) (td X V 1) (td X V 2)) = nI (vl3 (td X V 0) (td X V 1) (td X V 2) (vv T X r 0) (vv T X r 1) (vv T X r 2))) ↔ matX T X V r K[n] = true := by
      rw [q_and, nI_eq (Nat.lt_of_le_of_lt Nat.and_le_left (by omega)) (Nat.lt_trans (vl3_lt hT X V r) (by omega))]
      exact mat_and hkb (vv_lt hT X r 0) (vv_lt hT X r 1) (vv_lt hT X r 2)
    refine ⟨fun c2 => ?_, fun c2 => ?_⟩
    · have hm : ¬ matX T X V r K[n] = true := fun z => c2 (hand.mpr z)
      rw [if_neg hm, List.append_nil] at hst
      refine go _ _ _ ht' ?_
      rw [hst]; exact hf'
    · have hm : matX T X V r K[n] = true := hand.mp c2
      rw [if_pos hm] at hst
      refine S_widen hp hr hkb (fun w hw hwl => ⟨fun e3 => ?_, fun _ => ?_⟩) (fun hw => ⟨fun _ => ?_, fun e3 => absurd rfl e3⟩)
      · exact absurd (by rw [e3]; decide) (nI_pos (n := w) (by omega))
      · rw [hw] at hst
        refine S_fadd (by omega) ht' hf' (fun N2 ov2 t2 h1 h2 => go N2 ov2 t2 h1 ?_)
        rw [hst, ← List.append_assoc]; exact h2
      · rw [hw] at hst
        refine go _ _ _ ht' ?_
        rw [hst, List.append_nil]; exact hf'
/-- behind i patterns: the answers of those, at most 60 ^ i, or over, not before the third -/
def STP (T M : List Nat) (ps : List Pt3) (i : Nat) (R : List Nat) (ov : Bool) : Prop := OUT T M ps R ov ∧ (ov = false → R.length ≤ 60 ^ i) ∧ (ov = true → 3 ≤ i)
theorem stp_step {T M : List Nat} {ps : List Pt3} {X : Pt3} {V i : Nat} {R N : List Nat} {ov : Bool} (hT : T.length ≤ 40) (hMl : M.length ≤ 60) (hM : ∀ t ∈ M, t < 262144) (hN : M.Nodup) (hX : okX X) (hps : ∀ Y ∈ ps, okX Y) (hV : isV V ps) (h : rowsOf T M ps R) (hl : R.length ≤ 60 ^ i) (hf : fil 3600 (R.flatMap (cand T M X V)) N ov) : STP T M (X :: ps) (i + 1) N ov := by
  have hr := rows_step hT hM hN hX hps hV h
  have hlen := flat_len (f := cand T M X V) (c := 60) (fun r => cand_len hMl) R
  have h60 : R.length * 60 ≤ 60 ^ (i + 1) := by rw [Nat.pow_succ]; exact Nat.mul_le_mul_right 60 hl
  refine ⟨⟨fun e => rows_perm hr (hf.1 e), fun e => ?_⟩, fun e => ?_, fun e => ?_⟩
  · obtain ⟨h1, a, E, hp⟩ := hf.2 e
    exact ⟨N, (List.nodup_append.mp (hp.symm.nodup hr.1)).1, fun w hw => (hr.2 w).mp (hp.mem_iff.mp (List.mem_append_left _ hw)), by omega⟩
  · rw [(hf.1 e).length_eq]; omega
  · obtain ⟨h1, a, E, hp⟩ := hf.2 e
    have h3 := hp.length_eq
    rw [List.length_append, List.length_cons] at h3
    have h4 : 3600 < 60 ^ (i + 1) := by omega
    rcases (show i = 0 ∨ i = 1 ∨ 2 ≤ i by omega) with rfl | rfl | h5
    · exact absurd h4 (by decide)
    · exact absurd h4 (by decide)
    · omega
theorem take_fm {f : Nat → List Nat} {l : List Nat} {n : Nat} (h : n < l.length) : (l.take (n + 1)).flatMap f = (l.take n).flatMap f ++ f l[n] := by
  rw [take_s h, List.flatMap_append]; simp
theorem take_fm_all {f : Nat → List Nat} {l : List Nat} (n : Nat) : (l.take n).flatMap f ++ (l.drop n).flatMap f = l.flatMap f := by
  rw [← List.flatMap_append, List.take_append_drop]
def lpB (p : PatS) (s2 : StoS) (v3 v4 : Int32) (k12 : (Int32 × Int32 × JoiS) → Prop) (k32 : (Int32 × JoiS) → Prop) (w32 : Int32 × JoiS) : Prop :=
  P_X6_size 3600 w32.2.made (fun (r1 : Int32) => (r1 ≤ w32.1 → (P_X6_turn 3600 w32.2.made (fun (u : TabS) => P_X2_variableBits p (fun (r2 : Int32) => k12 ((v3 ||| r2), (v4 + (1 : Int32)), (u, w32.2.side)))))) ∧ (¬ (r1 ≤ w32.1) → (P_X6_isOver 3600 w32.2.made (fun (r3 : Int32) => (¬ r3 = 0 → (P_X6_turn 3600 w32.2.made (fun (u : TabS) => P_X2_variableBits p (fun (r4 : Int32) => k12 ((v3 ||| r4), (v4 + (1 : Int32)), (u, w32.2.side)))))) ∧ (r3 = 0 → (P_X6_row 3600 w32.2.made w32.1 (fun (r5 : Int32) => P_X1_tryAllTriples w32.2 p s2 v3 r5 (fun (u : JoiS) => k32 ((w32.1 + (1 : Int32)), u)))))))))
theorem S_lp {T M : List Nat} {s : StoS} {X : Pt3} {p : PatS} {V i : Nat} {ps : List Pt3} {R : List Nat} {t : TabS} {sd : TabS} {k12 : (Int32 × Int32 × JoiS) → Prop} (hT : T.length ≤ 40) (hs : stoOK M s) (hp : patOK X p) (hn : numOK T X p) (hps : ∀ Y ∈ ps, okX Y) (hV : isV V ps) (ht : tb 3600 R [] false t) (hst : STP T M ps i R false) (k : ∀ N ov t', tb 3600 N [] ov t' → STP T M (X :: ps) (i + 1) N ov → k12 (nI (V ||| vbits X), nI (i + 1), (t', sd))) : wloop (lpB p s (nI V) (nI i) k12) ((0 : Int32), (t, sd)) := by
  have hMl := sto_len hs
  have hRl : R.length ≤ 3600 := ht.2.1
  have hrows := hst.1.1 rfl
  have fin : ∀ N ov t', tb 3600 R N ov t' → fil 3600 (R.flatMap (cand T M X V)) N ov → P_X6_turn 3600 t' (fun (u : TabS) => P_X2_variableBits p (fun (r2 : Int32) => k12 ((nI V ||| r2), (nI i + (1 : Int32)), (u, sd)))) := by
    intro N ov t' h1 h2
    refine S_turn h1 (fun t2 h3 => ?_)
    show k12 (nI V ||| p.variableBits, nI i + (1 : Int32), (t2, sd))
    rw [hp.2.2, q_or, nI_1]
    exact k N ov t2 h3 (stp_step hT hMl hs.2.1 hs.1 hp.1 hps hV hrows (hst.2.1 rfl) h2)
  refine wl (fun w => ∃ n N ov t', w = (nI n, (t', sd)) ∧ n ≤ R.length ∧ tb 3600 R N ov t' ∧ fil 3600 ((R.take n).flatMap (cand T M X V)) N ov) (fun w => 3600 - w.1.toNatClampNeg) ⟨0, [], false, t, rfl, by omega, ht, fil_nil _⟩ ?_
  rintro w ⟨n, N, ov, t', rfl, hnl, ht', hf'⟩ K1 hK1
  have hsz : t'.size = nI R.length := ht'.1.1
  refine ⟨fun c => ?_, fun c => ?_⟩
  · have c : t'.size ≤ nI n := c
    rw [hsz] at c
    have : R.length ≤ n := (nI_leI (by omega) (by omega)).mp c
    have e : n = R.length := by omega
    subst e
    rw [List.take_length] at hf'
    exact fin N ov t' ht' hf'
  · have hlt : n < R.length := by
      rcases Nat.lt_or_ge n R.length with z | z
      · exact z
      · exact absurd (show t'.size ≤ nI n by rw [hsz]; exact n_le z (by omega)) c
    refine S_isOver ht' ⟨fun c2 => ?_, fun c2 => ?_⟩
    · have e : ov = true := by cases ov <;> first | rfl | exact absurd rfl c2
      subst e
      refine fin N true t' ht' ?_
      rw [← take_fm_all n]
      exact fil_more hf'
    · refine S_row (by omega) ht' hlt (S_tryAll hT hs hp hn (Ans_row hV ((hrows.2 _).mp (List.getElem_mem hlt))) ht' hf' (fun N2 ov2 t2 h1 h2 => ?_))
      show K1 (nI n + (1 : Int32), (t2, sd))
      rw [nI_1]
      refine hK1 _ ⟨n + 1, N2, ov2, t2, rfl, by omega, h1, ?_⟩ ?_
      · rw [take_fm hlt]; exact h2
      · show 3600 - (nI (n + 1)).toNatClampNeg < 3600 - (nI n).toNatClampNeg
        rw [n_cl (by omega), n_cl (by omega)]; omega
theorem stp_nil (T M : List Nat) : STP T M [] 0 [0] false := ⟨⟨fun _ => rows_nil T M, fun h => by cases h⟩, fun _ => by decide, fun h => by cases h⟩
/-- the first n patterns, the last one first -/
def firsts (Q : List Pt3) : Nat → List Pt3
  | 0 => []
  | n + 1 => if h : n < Q.length then Q[n] :: firsts Q n else firsts Q n
theorem firsts_mem {Q : List Pt3} : ∀ {n : Nat}, n ≤ Q.length → ∀ X, X ∈ firsts Q n ↔ ∃ (i : Nat) (h : i < Q.length), i < n ∧ X = Q[i]
  | 0, _, X => ⟨fun h => (List.not_mem_nil h).elim, fun ⟨i, _, h, _⟩ => absurd h (Nat.not_lt_zero i)⟩
  | n + 1, hn, X => by
    have hlt : n < Q.length := by omega
    unfold firsts
    rw [dif_pos hlt, List.mem_cons, firsts_mem (by omega) X]
    constructor
    · rintro (rfl | ⟨i, hi, h1, h2⟩)
      · exact ⟨n, hlt, by omega, rfl⟩
      · exact ⟨i, hi, by omega, h2⟩
    · rintro ⟨i, hi, h1, h2⟩
      rcases (show i = n ∨ i < n by omega) with rfl | h3
      · exact Or.inl h2
      · exact Or.inr ⟨i, hi, h3, h2⟩
theorem firsts_all {Q : List Pt3} (X : Pt3) : X ∈ firsts Q Q.length ↔ X ∈ Q := by
  rw [firsts_mem (Nat.le_refl _)]
  constructor
  · rintro ⟨i, hi, -, rfl⟩; exact List.getElem_mem hi
  · intro h
    obtain ⟨i, hi, e⟩ := List.getElem_of_mem h
    exact ⟨i, hi, hi, e.symm⟩
theorem firsts_V {Q : List Pt3} (hX : ∀ (i : Nat) (h : i < Q.length), okX Q[i]) : ∀ {n : Nat}, n ≤ Q.length → isV (qvN Q n) (firsts Q n) ∧ ∀ Y ∈ firsts Q n, okX Y
  | 0, _ => ⟨isV_nil, fun Y h => (List.not_mem_nil h).elim⟩
  | n + 1, hn => by
    have hlt : n < Q.length := by omega
    obtain ⟨h1, h2⟩ := firsts_V hX (n := n) (by omega)
    unfold firsts qvN
    rw [dif_pos hlt, dif_pos hlt]
    refine ⟨isV_cons h1 (hX n hlt), fun Y hY => ?_⟩
    rcases List.mem_cons.mp hY with rfl | hY
    · exact hX n hlt
    · exact h2 Y hY
theorem OUT_perm {T M : List Nat} {ps ps' : List Pt3} {R : List Nat} {ov : Bool} (hp : ∀ X, X ∈ ps ↔ X ∈ ps') (h : OUT T M ps R ov) : OUT T M ps' R ov := by
  refine ⟨fun e => ⟨(h.1 e).1, fun w => ((h.1 e).2 w).trans (Ans_perm hp)⟩, fun e => ?_⟩
  obtain ⟨A, h1, h2, h3⟩ := h.2 e
  exact ⟨A, h1, fun w hw => (Ans_perm hp).mp (h2 w hw), h3⟩
theorem S_loop {T M : List Nat} {s : StoS} {Q : List Pt3} {q : QueS} {j : JoiS} {post : JoiS → Prop} (hT : T.length ≤ 40) (hs : stoOK M s) (hq : lookOK T M Q q) (h : ∀ R ov t sd, tb 3600 R [] ov t → OUT T M Q R ov → post (t, sd)) : P_X1_loop j q s post := by
  have hq' := hq
  obtain ⟨⟨z1, z2, z3⟩, z4⟩ := hq'
  have hX := que_okX hq.1
  refine S_begin0 (by omega) (by omega) (fun t0 ht0 => ?_)
  refine wl (fun w => ∃ i R ov t, w = (nI (qvN Q i), nI i, (t, j.side)) ∧ i ≤ Q.length ∧ tb 3600 R [] ov t ∧ STP T M (firsts Q i) i R ov) (fun w => 3 - w.2.1.toNatClampNeg) ⟨0, [0], false, t0, rfl, by omega, ht0, stp_nil T M⟩ ?_
  rintro w ⟨i, R, ov, t, rfl, hi, ht, hst⟩ K hK
  refine ⟨fun c => ?_, fun c => ?_⟩
  · have c : q.size ≤ nI i := c
    rw [z2] at c
    have := (nI_leI (by omega) (by omega)).mp c
    have e : i = Q.length := by omega
    subst e
    exact h R ov t _ ht (OUT_perm firsts_all hst.1)
  · have hlt : i < Q.length := by
      rcases Nat.lt_or_ge i Q.length with y | y
      · exact y
      · exact absurd (show q.size ≤ nI i by rw [z2]; exact n_le y (by omega)) c
    have hi3 : i < 3 := by omega
    have e : ov = false := by
      cases ov
      · rfl
      · have := hst.2.2 rfl; omega
    subst e
    obtain ⟨hV, hps⟩ := firsts_V hX hi
    have nx : ∀ p, patOK Q[i] p → numOK T Q[i] p → wloop (lpB p s (nI (qvN Q i)) (nI i) K) ((0 : Int32), (t, j.side)) := by
      intro p h1 h2
      refine S_lp hT hs h1 h2 hps hV ht hst (fun N ov t' h3 h4 => ?_)
      have e1 : firsts Q (i + 1) = Q[i] :: firsts Q i := by show dite _ _ _ = _; rw [dif_pos hlt]
      have e2 : qvN Q (i + 1) = qvN Q i ||| vbits Q[i] := by show qvN Q i ||| dite _ _ _ = _; rw [dif_pos hlt]
      rw [← e2]
      refine hK _ ⟨i + 1, N, ov, t', rfl, by omega, h3, by rw [e1]; exact h4⟩ ?_
      show 3 - (nI (i + 1)).toNatClampNeg < 3 - (nI i).toNatClampNeg
      rw [n_cl (by omega), n_cl (by omega)]; omega
    refine S_pattern hi3 ⟨fun d => ?_, fun d => ?_, fun d => ?_⟩
    · subst d; exact nx _ (z3 0 hlt) (z4 0 hlt).1
    · subst d; exact nx _ (z3 1 hlt) (z4 1 hlt).1
    · subst d; exact nx _ (z3 2 hlt) (z4 2 hlt).1
