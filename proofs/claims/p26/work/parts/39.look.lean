/-! PURE SIDE 10: looking a pattern up, gathering its rows -/
theorem take_s : ∀ {l : List Nat} {n : Nat} (h : n < l.length), l.take (n + 1) = l.take n ++ [l[n]]
  | [], n, h => absurd h (Nat.not_lt_zero n)
  | a :: l, 0, _ => by simp
  | a :: l, n + 1, h => by
    rw [List.take_succ_cons, List.take_succ_cons, take_s (l := l) (n := n) (by simp at h; omega), List.getElem_cons_succ]; rfl
theorem fm_step {f : Nat → Option Nat} {l : List Nat} {n : Nat} (h : n < l.length) : (l.take (n + 1)).filterMap f = (l.take n).filterMap f ++ (match f l[n] with | none => [] | some c => [c]) := by
  rw [take_s h, List.filterMap_append]
  congr 1
  cases hc : f l[n] with
  | none => rw [List.filterMap_cons_none hc]; rfl
  | some c => rw [List.filterMap_cons_some hc]; rfl
/-- the stretch of an order that a pattern looks at: its ends, its keys, and what becomes of them -/
theorem seg {T M : List Nat} {s : StoS} {X : Nat → Nat} {V r : Nat} (hT : T.length ≤ 40) (hs : stoOK M s) (hX : okX X) :
    ∃ K, sorOK K (sel s (ord3 (td X V 0) (td X V 1) (td X V 2))) ∧ K.Perm (keysOf M (ord3 (td X V 0) (td X V 1) (td X V 2))) ∧
      rk K (rol (vl3 (td X V 0) (td X V 1) (td X V 2) (vv T X r 0) (vv T X r 1) (vv T X r 2)) (ord3 (td X V 0) (td X V 1) (td X V 2))) ≤ rk K (rol (hi3 (td X V 0) (td X V 1) (td X V 2) (vv T X r 0) (vv T X r 1) (vv T X r 2)) (ord3 (td X V 0) (td X V 1) (td X V 2)) + 1) ∧
      (((K.take (rk K (rol (hi3 (td X V 0) (td X V 1) (td X V 2) (vv T X r 0) (vv T X r 1) (vv T X r 2)) (ord3 (td X V 0) (td X V 1) (td X V 2)) + 1))).drop (rk K (rol (vl3 (td X V 0) (td X V 1) (td X V 2) (vv T X r 0) (vv T X r 1) (vv T X r 2)) (ord3 (td X V 0) (td X V 1) (td X V 2))))).filterMap (fun k => wid X V r (rol k ((3 - ord3 (td X V 0) (td X V 1) (td X V 2)) % 3)))).Perm (cand T M X V r) := by
  have ho := ord3_lt (td X V 0) (td X V 1) (td X V 2)
  obtain ⟨K, hK, hp⟩ := hs.2.2 _ ho
  obtain ⟨h1, h2⟩ := stretch hs.2.1 (td X V 0) (td X V 1) (td X V 2) (vv_lt hT X r 0) (vv_lt hT X r 1) (vv_lt hT X r 2) hK.2.2.1 hp
  refine ⟨K, hK, hp, by omega, ?_⟩
  refine (h2.filterMap _).trans ?_
  unfold keysOf cand
  rw [List.filterMap_map]
  have e : ∀ (l : List Nat), (∀ t ∈ l, t < 262144) → l.filterMap ((fun k => wid X V r (rol k ((3 - ord3 (td X V 0) (td X V 1) (td X V 2)) % 3))) ∘ fun t => rol t (ord3 (td X V 0) (td X V 1) (td X V 2))) = l.filterMap (wid X V r) := by
    intro l hl
    induction l with
    | nil => rfl
    | cons a l ih =>
      have ha : ((fun k => wid X V r (rol k ((3 - ord3 (td X V 0) (td X V 1) (td X V 2)) % 3))) ∘ fun t => rol t (ord3 (td X V 0) (td X V 1) (td X V 2))) a = wid X V r a := by
        show wid X V r (rol (rol a _) _) = _
        rw [rol_rol (hl a List.mem_cons_self) ho]
      have ih := ih (fun t ht => hl t (List.mem_cons_of_mem _ ht))
      cases hc : wid X V r a with
      | none => rw [List.filterMap_cons_none hc, List.filterMap_cons_none (by rw [ha]; exact hc), ih]
      | some c => rw [List.filterMap_cons_some hc, List.filterMap_cons_some (by rw [ha]; exact hc), ih]
  rw [e _ (fun t ht => hs.2.1 t (List.mem_filter.mp ht).1)]
theorem vl3_lt {T : List Nat} (hT : T.length ≤ 40) (X : Nat → Nat) (V r : Nat) : vl3 (td X V 0) (td X V 1) (td X V 2) (vv T X r 0) (vv T X r 1) (vv T X r 2) < 262144 := enc_lt (fv_lt _ (vv_lt hT X r 0)) (fv_lt _ (vv_lt hT X r 1)) (fv_lt _ (vv_lt hT X r 2))
theorem row0 : rowOK 0 0 := ⟨by omega, by omega, fun v hv _ => by unfold cell; simp⟩
theorem S_look {T M : List Nat} {d : DicS} {s : StoS} {X : Nat → Nat} {p : PatS} {post : PatS → Prop} (hd : dicOK T d) (hs : stoOK M s) (hp : patOK X p) (h : ∀ p', patOK X p' → numOK T X p' → p'.found = nI (cand T M X 0 0).length → post p') : P_X2_look p d s post := by
  have hT := hd.2.1
  refine wl (fun w => ∃ i q, w = (nI i, q) ∧ i ≤ 3 ∧ patOK X q ∧ ∀ j, j < i → q.numbers j = nI (if X j < 100 then num T (X j) else 0)) (fun w => 3 - w.1.toNatClampNeg) ⟨0, p, rfl, by omega, hp, fun j hj => by omega⟩ ?_
  rintro w ⟨i, q, rfl, hi, hq, hn⟩ K0 hK0
  refine ⟨fun c => ?_, fun c => ?_⟩
  · have : 3 ≤ i := (nI_leI (a := 3) (by omega) (by omega)).mp c
    have e : i = 3 := by omega
    subst e
    have hnum : numOK T X q := hn
    refine S_maskWith (V := 0) hq (by omega) (S_valueWith (V := 0) (r := 0) hT hq hnum (by omega) (by omega) (S_orderOf ?_))
    obtain ⟨K, hK, hpm, hle, hseg⟩ := seg (T := T) (V := 0) (r := 0) hT hs hq.1
    have ho := ord3_lt (td X 0 0) (td X 0 1) (td X 0 2)
    refine S_send hK (vv_lt hT X 0 0) (vv_lt hT X 0 1) (vv_lt hT X 0 2) (S_sbegin hK ho (vl3_lt hT X 0 0) ?_)
    have hel := rk_le K (rol (hi3 (td X 0 0) (td X 0 1) (td X 0 2) (vv T X 0 0) (vv T X 0 1) (vv T X 0 2)) (ord3 (td X 0 0) (td X 0 1) (td X 0 2)) + 1)
    have hKl := hK.2.1
    generalize rk K (rol (hi3 (td X 0 0) (td X 0 1) (td X 0 2) (vv T X 0 0) (vv T X 0 1) (vv T X 0 2)) (ord3 (td X 0 0) (td X 0 1) (td X 0 2)) + 1) = eN at *
    generalize rk K (rol (vl3 (td X 0 0) (td X 0 1) (td X 0 2) (vv T X 0 0) (vv T X 0 1) (vv T X 0 2)) (ord3 (td X 0 0) (td X 0 1) (td X 0 2))) = bN at *
    generalize ord3 (td X 0 0) (td X 0 1) (td X 0 2) = o at *
    have hSl : ((K.take eN).drop bN).length = eN - bN := by rw [List.length_drop, List.length_take]; omega
    have hSg : ∀ n (hn2 : n < ((K.take eN).drop bN).length) (hn3 : bN + n < K.length), ((K.take eN).drop bN)[n] = K[bN + n] := by
      intro n hn2 hn3
      rw [List.getElem_drop, List.getElem_take]
    generalize (K.take eN).drop bN = S at *
    have hlen := hseg.length_eq
    refine wl (fun w => ∃ n, w = (nI (bN + n), (q.told, q.numbers, q.variableBits, nI ((S.take n).filterMap (fun k => wid X 0 0 (rol k ((3 - o) % 3)))).length)) ∧ n ≤ S.length) (fun w => eN - w.1.toNatClampNeg) ⟨0, by simp; rfl, by omega⟩ ?_
    rintro w ⟨n, rfl, hnl⟩ K1 hK1
    refine ⟨fun c2 => ?_, fun c2 => ?_⟩
    · have : eN ≤ bN + n := (nI_leI (by omega) (by omega)).mp c2
      have e2 : n = S.length := by omega
      subst e2
      refine h _ hq hnum ?_
      show nI _ = nI _
      rw [List.take_length, hlen]
    · have hlt : n < S.length := by
        rcases Nat.lt_or_ge n S.length with z | z
        · exact z
        · exact absurd (n_le (show eN ≤ bN + n by omega) (by omega)) c2
      have hbk : bN + n < K.length := by omega
      have hkb := hK.2.2.2.1 _ (List.getElem_mem hbk)
      refine S_striple hK ho hbk (S_widen hq row0 (rol_lt hkb) (fun w hw hwl => ?_) (fun hw => ?_))
      · refine ⟨fun e3 => ?_, fun _ => ?_⟩
        · exact absurd (by rw [e3]; decide) (nI_pos (n := w) (by omega))
        · have hst := fm_step (f := fun k => wid X 0 0 (rol k ((3 - o) % 3))) hlt
          rw [hSg n hlt hbk, hw] at hst
          show K1 (nI (bN + n) + (1 : Int32), (q.told, q.numbers, q.variableBits, nI _ + (1 : Int32)))
          rw [nI_1, nI_1]
          refine hK1 _ ⟨n + 1, ?_, by omega⟩ ?_
          · rw [hst, List.length_append]; rfl
          · show eN - (nI (bN + n + 1)).toNatClampNeg < eN - (nI (bN + n)).toNatClampNeg
            rw [n_cl (by omega), n_cl (by omega)]; omega
      · refine ⟨fun _ => ?_, fun e3 => absurd rfl e3⟩
        have hst := fm_step (f := fun k => wid X 0 0 (rol k ((3 - o) % 3))) hlt
        rw [hSg n hlt hbk, hw] at hst
        show K1 (nI (bN + n) + (1 : Int32), (q.told, q.numbers, q.variableBits, nI _))
        rw [nI_1]
        refine hK1 _ ⟨n + 1, ?_, by omega⟩ ?_
        · rw [hst, List.append_nil]; rfl
        · show eN - (nI (bN + n + 1)).toNatClampNeg < eN - (nI (bN + n)).toNatClampNeg
          rw [n_cl (by omega), n_cl (by omega)]; omega
  · have hi3 : i < 3 := by
      rcases Nat.lt_or_ge i 3 with z | z
      · exact z
      · exact absurd (n_le z (by omega)) c
    have hx := hq.1 i hi3
    have nx : ∀ x, x = (if X i < 100 then num T (X i) else 0) → P_X2_look_j39 q d s (nI i) (nI x) (nI i) K0 post := by
      intro x e
      refine S_put hi3 (by omega) ?_
      show K0 (nI i + (1 : Int32), (q.told, upd q.numbers i (nI x), q.variableBits, q.found))
      rw [nI_1]
      refine hK0 _ ⟨i + 1, _, rfl, by omega, hq, ?_⟩ ?_
      · intro j hj
        show upd q.numbers i (nI x) j = _
        by_cases z : j = i
        · subst z; rw [pk_us, e]
        · rw [pk_un z]; exact hn j (by omega)
      · show 3 - (nI (i + 1)).toNatClampNeg < 3 - (nI i).toNatClampNeg
        rw [n_cl (by omega), n_cl (by omega)]; omega
    refine S_at hi3 (by omega) ?_
    rw [show q.told i = toldI (X i) from hq.2.1 i hi3]
    refine ⟨fun c2 => ?_, fun c2 => ?_⟩
    · have hlt : X i < 100 := by
        rcases Nat.lt_or_ge (X i) 100 with z | z
        · exact z
        · exact (Int32.lt_irrefl (Int32.lt_of_lt_of_le (told_neg z hx) c2)).elim
      refine S_at hi3 (by omega) ?_
      rw [show q.told i = toldI (X i) from hq.2.1 i hi3, told_pos hlt]
      refine S_number hd hlt ?_
      exact nx _ (by rw [if_pos hlt])
    · have hnl : ¬ X i < 100 := by
        intro z
        rw [told_pos z] at c2
        exact c2 (nI_pos' (by omega))
      exact nx 0 (by rw [if_neg hnl])
/-- the rows of a pattern that go on a row, laid at the side -/
theorem S_gather {T M : List Nat} {s : StoS} {X : Nat → Nat} {p : PatS} {V r : Nat} {jo : JoiS} {post : JoiS → Prop} (hT : T.length ≤ 40) (hs : stoOK M s) (hp : patOK X p) (hn : numOK T X p) (hr : rowOK V r) (h : ∀ sd R, R.Perm (cand T M X V r) → tb 60 R [] false sd → post (jo.made, sd)) : P_X1_gather jo p s (nI V) (nI r) post := by
  have hr' := hr
  obtain ⟨r1, r2, r3⟩ := hr'
  refine S_maskWith hp r2 (S_valueWith hT hp hn r2 (by omega) (S_orderOf ?_))
  obtain ⟨K, hK, hpm, hle, hseg⟩ := seg (T := T) (V := V) (r := r) hT hs hp.1
  have ho := ord3_lt (td X V 0) (td X V 1) (td X V 2)
  refine S_send hK (vv_lt hT X r 0) (vv_lt hT X r 1) (vv_lt hT X r 2) (S_beginEmpty (fun t0 ht0 => S_sbegin hK ho (vl3_lt hT X V r) ?_))
  have hel := rk_le K (rol (hi3 (td X V 0) (td X V 1) (td X V 2) (vv T X r 0) (vv T X r 1) (vv T X r 2)) (ord3 (td X V 0) (td X V 1) (td X V 2)) + 1)
  have hKl := hK.2.1
  generalize rk K (rol (hi3 (td X V 0) (td X V 1) (td X V 2) (vv T X r 0) (vv T X r 1) (vv T X r 2)) (ord3 (td X V 0) (td X V 1) (td X V 2)) + 1) = eN at *
  generalize rk K (rol (vl3 (td X V 0) (td X V 1) (td X V 2) (vv T X r 0) (vv T X r 1) (vv T X r 2)) (ord3 (td X V 0) (td X V 1) (td X V 2))) = bN at *
  generalize ord3 (td X V 0) (td X V 1) (td X V 2) = o at *
  have hSl : ((K.take eN).drop bN).length = eN - bN := by rw [List.length_drop, List.length_take]; omega
  have hSg : ∀ n (hn2 : n < ((K.take eN).drop bN).length) (hn3 : bN + n < K.length), ((K.take eN).drop bN)[n] = K[bN + n] := by
    intro n hn2 hn3
    rw [List.getElem_drop, List.getElem_take]
  generalize (K.take eN).drop bN = S at *
  refine wl (fun w => ∃ n sd, w = (nI (bN + n), (jo.made, sd)) ∧ n ≤ S.length ∧ tb 60 [] ((S.take n).filterMap (fun k => wid X V r (rol k ((3 - o) % 3)))) false sd) (fun w => eN - w.1.toNatClampNeg) ⟨0, t0, rfl, by omega, ht0⟩ ?_
  rintro w ⟨n, sd, rfl, hnl, hsd⟩ K1 hK1
  refine ⟨fun c2 => ?_, fun c2 => ?_⟩
  · have : eN ≤ bN + n := (nI_leI (by omega) (by omega)).mp c2
    have e2 : n = S.length := by omega
    subst e2
    rw [List.take_length] at hsd
    exact S_turn hsd (fun t' ht' => h t' _ hseg ht')
  · have hlt : n < S.length := by
      rcases Nat.lt_or_ge n S.length with z | z
      · exact z
      · exact absurd (n_le (show eN ≤ bN + n by omega) (by omega)) c2
    have hbk : bN + n < K.length := by omega
    have hkb := hK.2.2.2.1 _ (List.getElem_mem hbk)
    have hst := fm_step (f := fun k => wid X V r (rol k ((3 - o) % 3))) hlt
    rw [hSg n hlt hbk] at hst
    refine S_striple hK ho hbk (S_widen hp hr (rol_lt hkb) (fun w hw hwl => ?_) (fun hw => ?_))
    · refine ⟨fun e3 => ?_, fun _ => ?_⟩
      · exact absurd (by rw [e3]; decide) (nI_pos (n := w) (by omega))
      · rw [hw] at hst
        have hfl : ((S.take n).filterMap (fun k => wid X V r (rol k ((3 - o) % 3)))).length ≤ n := by
          have a1 := List.length_filterMap_le (fun k => wid X V r (rol k ((3 - o) % 3))) (S.take n)
          have a2 := List.length_take_le n S
          omega
        refine S_add (by omega) hsd (fun _ t' ht' => ?_) (fun e => by omega)
        show K1 (nI (bN + n) + (1 : Int32), (jo.made, t'))
        rw [nI_1]
        refine hK1 _ ⟨n + 1, t', rfl, by omega, ?_⟩ ?_
        · rw [hst]; exact ht'
        · show eN - (nI (bN + n + 1)).toNatClampNeg < eN - (nI (bN + n)).toNatClampNeg
          rw [n_cl (by omega), n_cl (by omega)]; omega
    · refine ⟨fun _ => ?_, fun e3 => absurd rfl e3⟩
      rw [hw] at hst
      show K1 (nI (bN + n) + (1 : Int32), (jo.made, sd))
      rw [nI_1]
      refine hK1 _ ⟨n + 1, sd, rfl, by omega, ?_⟩ ?_
      · rw [hst, List.append_nil]; exact hsd
      · show eN - (nI (bN + n + 1)).toNatClampNeg < eN - (nI (bN + n)).toNatClampNeg
        rw [n_cl (by omega), n_cl (by omega)]; omega
