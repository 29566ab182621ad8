/-! PURE SIDE 16: merging, the walk -/
theorem filt_take {m : Nat → Bool} {U : List Nat} {n : Nat} (h : n < U.length) : (U.take (n + 1)).filter m = (U.take n).filter m ++ (if m U[n] then [U[n]] else []) := by
  rw [take_s h, List.filter_append]
  congr 1
  cases hm : m U[n] with
  | false => rw [List.filter_cons_of_neg (by rw [hm]; decide)]; rfl
  | true => rw [List.filter_cons_of_pos hm]; rfl
theorem filt_none {m : Nat → Bool} {U : List Nat} {n : Nat} (h : ∀ (k : Nat) (hk : k < U.length), k < n → m U[k] = false) : (U.take n).filter m = [] := by
  rw [List.filter_eq_nil_iff]
  intro a ha
  obtain ⟨k, hk, rfl⟩ := List.getElem_of_mem ha
  rw [List.length_take] at hk
  rw [List.getElem_take, h k (by omega) (by omega)]
  decide
theorem filt_rest {m : Nat → Bool} {U : List Nat} {n : Nat} (h : ∀ (k : Nat) (hk : k < U.length), n ≤ k → m U[k] = false) : (U.take n).filter m = U.filter m := by
  have e : U.filter m = (U.take n).filter m ++ (U.drop n).filter m := by rw [← List.filter_append, List.take_append_drop]
  rw [e, show (U.drop n).filter m = [] from ?_, List.append_nil]
  rw [List.filter_eq_nil_iff]
  intro a ha
  obtain ⟨k, hk, rfl⟩ := List.getElem_of_mem ha
  rw [List.length_drop] at hk
  rw [List.getElem_drop, h (n + k) (by omega) (by omega)]
  decide
theorem S_mergeSide {S : Nat} {R U : List Nat} {t sd : TabS} {ovs : Bool} {post : JoiS → Prop} (ht : tb 3600 R [] false t) (hsd : tb 60 U [] ovs sd) (hR : R.Pairwise (fun a b => res S a ≤ res S b)) (hU : U.Pairwise (fun a b => res S a ≤ res S b)) (hRl : ∀ r ∈ R, r < 16777216) (hUl : ∀ r ∈ U, r < 16777216) (h : ∀ N ov t', tb 3600 N [] ov t' → fil 3600 (R.flatMap (mrg S U)) N ov → post (t', sd)) : P_X1_mergeSide (t, sd) (nI (rmA S 4)) post := by
  have hRn : R.length ≤ 3600 := ht.2.1
  have hUn : U.length ≤ 60 := hsd.2.1
  have hss : sd.size = nI U.length := hsd.1.1
  have hres : ∀ w, res S w < 16777216 := fun w => (res_cell S w (v := 0) (by omega)).1
  have hRs : ∀ (a b : Nat) (ha : a < R.length) (hb : b < R.length), a < b → res S R[a] ≤ res S R[b] := List.pairwise_iff_getElem.mp hR
  have hUs : ∀ (a b : Nat) (ha : a < U.length) (hb : b < U.length), a ≤ b → res S U[a] ≤ res S U[b] := by
    intro a b ha hb hab
    rcases (show a = b ∨ a < b by omega) with e | e
    · subst e; exact Nat.le_refl _
    · exact List.pairwise_iff_getElem.mp hU a b ha hb e
  have fin : ∀ N ov t', tb 3600 R N ov t' → fil 3600 (R.flatMap (mrg S U)) N ov → P_X1_mergeSide_j135 (t', sd) post := fun N ov t' h1 h2 => S_turn h1 (fun t2 h3 => h N ov t2 h3 h2)
  refine wl (fun w => ∃ f n N ov t', w = (nI f, nI n, (t', sd)) ∧ n ≤ R.length ∧ f ≤ U.length ∧ (∀ (hn : n < R.length) (k : Nat) (hk : k < U.length), k < f → res S U[k] < res S R[n]) ∧ tb 3600 R N ov t' ∧ fil 3600 ((R.take n).flatMap (mrg S U)) N ov) (fun w => 3600 - w.2.1.toNatClampNeg) ⟨0, 0, [], false, t, rfl, by omega, by omega, fun _ k _ hk => by omega, ht, fil_nil _⟩ ?_
  rintro w ⟨f, n, N, ov, t', rfl, hnl, hfl, hfr, ht', hf'⟩ K1 hK1
  have hsz : t'.size = nI R.length := ht'.1.1
  refine ⟨fun c => ?_, fun c => ?_⟩
  · have c : t'.size ≤ nI n := c
    rw [hsz] at c
    have : R.length ≤ n := (nI_leI (by omega) (by omega)).mp c
    have e : n = R.length := by omega
    subst e
    rw [List.take_length] at hf'
    exact fin N ov t' ht' hf'
  · have hlt : n < R.length := by
      rcases Nat.lt_or_ge n R.length with z | z
      · exact z
      · exact absurd (show t'.size ≤ nI n by rw [hsz]; exact n_le z (by omega)) c
    refine S_isOver ht' ⟨fun c2 => ?_, fun c2 => ?_⟩
    · have e : ov = true := by cases ov <;> first | rfl | exact absurd rfl c2
      subst e
      refine fin N true t' ht' ?_
      rw [← take_fm_all n]
      exact fil_more hf'
    · refine S_row (by omega) ht' hlt ?_
      have hrl := hRl _ (List.getElem_mem hlt)
      have hnx : ∀ (hn : n + 1 < R.length), res S R[n] ≤ res S R[n + 1] := fun hn => hRs n (n + 1) hlt hn (by omega)
      have htk := take_fm (f := mrg S U) hlt
      have hfr := hfr hlt
      generalize R[n] = r at *
      show wloop (P_X1_mergeSide_B41 (t', sd) (nI (rmA S 4)) (nI n) (nI r) (nI r &&& nI (rmA S 4)) K1 post) (nI f)
      rw [q_and, and_rmask S hrl]
      have j73 : ∀ f, f ≤ U.length → (∀ (k : Nat) (hk : k < U.length), k < f → res S U[k] < res S r) → (∀ hk : f < U.length, res S r ≤ res S U[f]) → P_X1_mergeSide_j73 (t', sd) (nI (rmA S 4)) (nI f) (nI n) (nI r) (nI (res S r)) K1 post := by
        intro f hfl hlo hge
        have done : ∀ N2 ov2 t2, tb 3600 R N2 ov2 t2 → fil 3600 ((R.take n).flatMap (mrg S U) ++ mrg S U r) N2 ov2 → K1 (nI f, (nI n + (1 : Int32), (t2, sd))) := by
          intro N2 ov2 t2 h1 h2
          rw [nI_1]
          refine hK1 _ ⟨f, n + 1, N2, ov2, t2, rfl, by omega, hfl, fun hn k hk hkf => ?_, h1, ?_⟩ ?_
          · exact Nat.lt_of_lt_of_le (hlo k hk hkf) (hnx hn)
          · rw [htk]; exact h2
          · show 3600 - (nI (n + 1)).toNatClampNeg < 3600 - (nI n).toNatClampNeg
            rw [n_cl (by omega), n_cl (by omega)]; omega
        refine wl (fun w => ∃ m N ov t2, w = (nI m, (t2, sd)) ∧ f ≤ m ∧ m ≤ U.length ∧ tb 3600 R N ov t2 ∧ fil 3600 ((R.take n).flatMap (mrg S U) ++ ((U.take m).filter (fun x => res S x == res S r)).map (fun x => r ||| x)) N ov) (fun w => 60 - w.1.toNatClampNeg) ⟨f, N, ov, t', rfl, Nat.le_refl _, hfl, ht', ?_⟩ ?_
        · rw [filt_none (fun k hk hkf => ?_), List.map_nil, List.append_nil]
          · exact hf'
          · have := hlo k hk hkf
            rw [beq_eq_false_iff_ne]; omega
        rintro w ⟨m, N2, ov2, t2, rfl, hfm, hml, ht2, hf2⟩ K2 hK2
        refine ⟨fun d => ?_, fun d => ?_⟩
        · have d : sd.size ≤ nI m := d
          rw [hss] at d
          have : U.length ≤ m := (nI_leI (by omega) (by omega)).mp d
          have e : m = U.length := by omega
          subst e
          rw [List.take_length] at hf2
          exact done N2 ov2 t2 ht2 hf2
        · have hml2 : m < U.length := by
            rcases Nat.lt_or_ge m U.length with z | z
            · exact z
            · exact absurd (show sd.size ≤ nI m by rw [hss]; exact n_le z (by omega)) d
          have hul := hUl _ (List.getElem_mem hml2)
          have hst := filt_take (m := fun x => res S x == res S r) hml2
          refine S_row (by omega) hsd hml2 ?_
          show (¬ (nI U[m] &&& nI (rmA S 4)) = nI (res S r) → _) ∧ ((nI U[m] &&& nI (rmA S 4)) = nI (res S r) → _)
          rw [q_and, and_rmask S hul]
          have hq := nI_eq (a := res S U[m]) (b := res S r) (Nat.lt_trans (hres _) (by omega)) (Nat.lt_trans (hres _) (by omega))
          refine ⟨fun d2 => ?_, fun d2 => ?_⟩
          · have hne : res S U[m] ≠ res S r := fun z => d2 (hq.mpr z)
            refine done N2 ov2 t2 ht2 ?_
            unfold mrg
            rw [filt_rest (fun k hk hmk => ?_)] at hf2
            · exact hf2
            · have h1 := hge (by omega)
              have h2 := hUs f m (by omega) hml2 hfm
              have h3 := hUs m k hml2 hk hmk
              rw [beq_eq_false_iff_ne]; omega
          · have heq := hq.mp d2
            refine S_row (by omega) hsd hml2 ?_
            show P_X6_add 3600 t2 (nI r ||| nI U[m]) _
            rw [q_or]
            refine S_fadd (by omega) ht2 hf2 (fun N3 ov3 t3 h1 h2 => ?_)
            show K2 (nI m + (1 : Int32), (t3, sd))
            rw [nI_1]
            refine hK2 _ ⟨m + 1, N3, ov3, t3, rfl, by omega, by omega, h1, ?_⟩ ?_
            · rw [hst, if_pos (by rw [beq_iff_eq]; exact heq), List.map_append, ← List.append_assoc]
              exact h2
            · show 60 - (nI (m + 1)).toNatClampNeg < 60 - (nI m).toNatClampNeg
              rw [n_cl (by omega), n_cl (by omega)]; omega
      refine wl (fun w => ∃ f, w = nI f ∧ f ≤ U.length ∧ ∀ (k : Nat) (hk : k < U.length), k < f → res S U[k] < res S r) (fun w => 60 - w.toNatClampNeg) ⟨f, rfl, hfl, fun k hk hkf => hfr k hk hkf⟩ ?_
      rintro w ⟨f, rfl, hfl, hlo⟩ K2 hK2
      refine ⟨fun d => ?_, fun d => ?_⟩
      · have d : sd.size ≤ nI f := d
        rw [hss] at d
        have : U.length ≤ f := (nI_leI (by omega) (by omega)).mp d
        exact j73 f hfl hlo (fun hk => by omega)
      · have hf2 : f < U.length := by
          rcases Nat.lt_or_ge f U.length with z | z
          · exact z
          · exact absurd (show sd.size ≤ nI f by rw [hss]; exact n_le z (by omega)) d
        refine S_row (by omega) hsd hf2 ?_
        show (nI (res S r) ≤ (nI U[f] &&& nI (rmA S 4)) → _) ∧ (¬ (nI (res S r) ≤ (nI U[f] &&& nI (rmA S 4))) → _)
        rw [q_and, and_rmask S (hUl _ (List.getElem_mem hf2))]
        have hq := nI_leI (a := res S r) (b := res S U[f]) (Nat.lt_trans (hres _) (by omega)) (Nat.lt_trans (hres _) (by omega))
        refine ⟨fun d2 => j73 f hfl hlo (fun _ => hq.mp d2), fun d2 => ?_⟩
        have hlt2 : res S U[f] < res S r := by
          rcases Nat.lt_or_ge (res S U[f]) (res S r) with z | z
          · exact z
          · exact absurd (hq.mpr z) d2
        show K2 (nI f + (1 : Int32))
        rw [nI_1]
        refine hK2 _ ⟨f + 1, rfl, by omega, fun k hk hkf => ?_⟩ ?_
        · rcases (show k = f ∨ k < f by omega) with e | e
          · subst e; exact hlt2
          · exact hlo k hk e
        · show 60 - (nI (f + 1)).toNatClampNeg < 60 - (nI f).toNatClampNeg
          rw [n_cl (by omega), n_cl (by omega)]; omega
-- the join order goes through all patterns
theorem best_none {T M : List Nat} {Q : List Pt3} {ca kn : Nat} : ∀ {n : Nat}, bestN T M Q ca kn n = none → ∀ i, i < n → ca.testBit i = true
  | 0, _, i, hi => by omega
  | n + 1, h, i, hi => by
    unfold bestN at h
    split at h
    · next hc =>
      rcases (show i = n ∨ i < n by omega) with rfl | h2
      · exact hc
      · exact best_none h i h2
    · split at h
      · cases h
      · split at h <;> cases h
theorem best_new {T M : List Nat} {Q : List Pt3} {ca kn : Nat} : ∀ {n b : Nat}, bestN T M Q ca kn n = some b → ca.testBit b = false
  | 0, b, h => by cases h
  | n + 1, b, h => by
    unfold bestN at h
    split at h
    · exact best_new h
    · next hc =>
      have hc : ca.testBit n = false := by simpa using hc
      split at h
      · cases h; exact hc
      · next b' hb =>
        split at h <;> cases h
        · exact hc
        · exact best_new hb
theorem came {T M : List Nat} {Q : List Pt3} : ∀ n i, (joN T M Q n).1.testBit i = true ↔ ∃ m, m < n ∧ jo T M Q m = i
  | 0, i => ⟨fun h => by simp [joN] at h, fun ⟨m, h, _⟩ => by omega⟩
  | n + 1, i => by
    have e : (joN T M Q (n + 1)).1 = (joN T M Q n).1 ||| 2 ^ (jo T M Q n) := rfl
    rw [e, Nat.testBit_or, Nat.testBit_two_pow, Bool.or_eq_true, came n i, decide_eq_true_iff]
    constructor
    · rintro (⟨m, h1, h2⟩ | h)
      · exact ⟨m, by omega, h2⟩
      · exact ⟨n, by omega, h⟩
    · rintro ⟨m, h1, h2⟩
      rcases (show m = n ∨ m < n by omega) with rfl | h3
      · exact Or.inr h2
      · exact Or.inl ⟨m, h3, h2⟩
theorem jo_new {T M : List Nat} {Q : List Pt3} (hQ3 : Q.length ≤ 3) {n : Nat} (hn : n < Q.length) : ∀ m, m < n → jo T M Q m ≠ jo T M Q n := by
  intro m hm e
  have hb : (joN T M Q n).1.testBit (jo T M Q n) = true := (came n _).mpr ⟨m, hm, e⟩
  cases hbn : bestN T M Q (joN T M Q n).1 (joN T M Q n).2.1 Q.length with
  | some b =>
    have h1 := best_new hbn
    have h2 : jo T M Q n = b := by
      show (bestN T M Q (joN T M Q n).1 (joN T M Q n).2.1 Q.length).getD 0 = b
      rw [hbn]; rfl
    rw [h2, h1] at hb; cases hb
  | none =>
    have h1 := best_none hbn
    have g : ∀ i, i < Q.length → ∃ m, m < n ∧ jo T M Q m = i := fun i hi => (came n i).mp (h1 i hi)
    rcases (show n = 0 ∨ n = 1 ∨ n = 2 by omega) with rfl | rfl | rfl
    · omega
    · obtain ⟨a, ha, ea⟩ := g 0 (by omega)
      obtain ⟨b, hb, eb⟩ := g 1 (by omega)
      have : a = b := by omega
      subst this; omega
    · obtain ⟨a, ha, ea⟩ := g 0 (by omega)
      obtain ⟨b, hb, eb⟩ := g 1 (by omega)
      obtain ⟨c, hc, ec⟩ := g 2 (by omega)
      rcases (show a = b ∨ a = c ∨ b = c by omega) with z | z | z <;> subst z <;> omega
theorem jo_lt {T M : List Nat} {Q : List Pt3} (hQ : 0 < Q.length) (n : Nat) : jo T M Q n < Q.length := best_lt hQ
theorem jo_onto {T M : List Nat} {Q : List Pt3} (hQ3 : Q.length ≤ 3) {i : Nat} (hi : i < Q.length) : ∃ n, n < Q.length ∧ jo T M Q n = i := by
  have h0 := jo_lt (T := T) (M := M) (show 0 < Q.length by omega) 0
  have h1 := jo_lt (T := T) (M := M) (show 0 < Q.length by omega) 1
  have h2 := jo_lt (T := T) (M := M) (show 0 < Q.length by omega) 2
  have d := fun n hn m hm => jo_new (T := T) (M := M) (Q := Q) hQ3 (n := n) hn m hm
  rcases (show Q.length = 1 ∨ Q.length = 2 ∨ Q.length = 3 by omega) with e | e | e
  · exact ⟨0, by omega, by omega⟩
  · have := d 1 (by omega) 0 (by omega)
    rcases (show jo T M Q 0 = i ∨ jo T M Q 1 = i by omega) with z | z
    · exact ⟨0, by omega, z⟩
    · exact ⟨1, by omega, z⟩
  · have a := d 1 (by omega) 0 (by omega)
    have b := d 2 (by omega) 0 (by omega)
    have c := d 2 (by omega) 1 (by omega)
    rcases (show jo T M Q 0 = i ∨ jo T M Q 1 = i ∨ jo T M Q 2 = i by omega) with z | z | z
    · exact ⟨0, by omega, z⟩
    · exact ⟨1, by omega, z⟩
    · exact ⟨2, by omega, z⟩
/-- the first n patterns of the join order -/
def ofJo (T M : List Nat) (Q : List Pt3) : Nat → List Pt3
  | 0 => []
  | n + 1 => (if h : jo T M Q n < Q.length then Q[jo T M Q n] else fun _ => 0) :: ofJo T M Q n
theorem ofJo_mem {T M : List Nat} {Q : List Pt3} (hQ : 0 < Q.length) : ∀ n X, X ∈ ofJo T M Q n ↔ ∃ m, m < n ∧ X = Q[jo T M Q m]'(jo_lt hQ m)
  | 0, X => ⟨fun h => (List.not_mem_nil h).elim, fun ⟨m, h, _⟩ => by omega⟩
  | n + 1, X => by
    unfold ofJo
    rw [dif_pos (jo_lt hQ n), List.mem_cons, ofJo_mem hQ n X]
    constructor
    · rintro (rfl | ⟨m, h1, h2⟩)
      · exact ⟨n, by omega, rfl⟩
      · exact ⟨m, by omega, h2⟩
    · rintro ⟨m, h1, h2⟩
      rcases (show m = n ∨ m < n by omega) with rfl | h3
      · exact Or.inl h2
      · exact Or.inr ⟨m, h3, h2⟩
theorem ofJo_all {T M : List Nat} {Q : List Pt3} (hQ3 : Q.length ≤ 3) (X : Pt3) : X ∈ ofJo T M Q Q.length ↔ X ∈ Q := by
  rcases Nat.eq_zero_or_pos Q.length with z | z
  · rw [List.eq_nil_of_length_eq_zero z]; exact Iff.rfl
  · rw [ofJo_mem z]
    constructor
    · rintro ⟨m, -, rfl⟩; exact List.getElem_mem _
    · intro h
      obtain ⟨i, hi, e⟩ := List.getElem_of_mem h
      obtain ⟨n, hn, e2⟩ := jo_onto (T := T) (M := M) hQ3 hi
      subst e2
      exact ⟨n, hn, e.symm⟩
theorem ofJo_V {T M : List Nat} {Q : List Pt3} (hQ : 0 < Q.length) (hX : ∀ (i : Nat) (h : i < Q.length), okX Q[i]) : ∀ n, isV (joN T M Q n).2.1 (ofJo T M Q n) ∧ ∀ Y ∈ ofJo T M Q n, okX Y
  | 0 => ⟨isV_nil, fun Y h => (List.not_mem_nil h).elim⟩
  | n + 1 => by
    obtain ⟨h1, h2⟩ := ofJo_V hQ hX n
    have hj := jo_lt (T := T) (M := M) hQ n
    have e : (joN T M Q (n + 1)).2.1 = (joN T M Q n).2.1 ||| vbits (Q[jo T M Q n]'hj) := by
      show (joN T M Q n).2.1 ||| dite _ _ _ = _
      rw [dif_pos (show (bestN T M Q (joN T M Q n).1 (joN T M Q n).2.1 Q.length).getD 0 < Q.length from hj)]
      rfl
    rw [e]
    unfold ofJo
    rw [dif_pos hj]
    refine ⟨isV_cons h1 (hX _ hj), fun Y hY => ?_⟩
    rcases List.mem_cons.mp hY with rfl | hY
    · exact hX _ hj
    · exact h2 Y hY
theorem S_merge {T M : List Nat} {s : StoS} {Q : List Pt3} {q : QueS} {j : JoiS} {post : JoiS → Prop} (hT : T.length ≤ 40) (hs : stoOK M s) (hq : lookOK T M Q q) (h : ∀ R ov t sd, tb 3600 R [] ov t → OUT T M Q R ov → post (t, sd)) : P_X1_merge j q s post := by
  have hq' := hq
  obtain ⟨⟨z1, z2, z3⟩, z4⟩ := hq'
  have hX := que_okX hq.1
  have hMl := sto_len hs
  refine S_begin0 (by omega) (by omega) (fun t0 ht0 => ?_)
  refine wl (fun w => ∃ i R ov t sd, w = (nI (joN T M Q i).2.1, nI i, (t, sd)) ∧ i ≤ Q.length ∧ tb 3600 R [] ov t ∧ STP T M (ofJo T M Q i) i R ov) (fun w => 3 - w.2.1.toNatClampNeg) ⟨0, [0], false, t0, j.side, rfl, by omega, ht0, stp_nil T M⟩ ?_
  rintro w ⟨i, R, ov, t, sd, rfl, hi, ht, hst⟩ K hK
  refine ⟨fun c => ?_, fun c => ?_⟩
  · have c : q.size ≤ nI i := c
    rw [z2] at c
    have := (nI_leI (by omega) (by omega)).mp c
    have e : i = Q.length := by omega
    subst e
    exact h R ov t _ ht (OUT_perm (ofJo_all z1) hst.1)
  · have hlt : i < Q.length := by
      rcases Nat.lt_or_ge i Q.length with y | y
      · exact y
      · exact absurd (show q.size ≤ nI i by rw [z2]; exact n_le y (by omega)) c
    have e : ov = false := by
      cases ov
      · rfl
      · have := hst.2.2 rfl; omega
    subst e
    have hQ0 : 0 < Q.length := by omega
    have hj := jo_lt (T := T) (M := M) hQ0 i
    obtain ⟨hV, hps⟩ := ofJo_V (T := T) (M := M) hQ0 hX i
    have e1 : ofJo T M Q (i + 1) = (Q[jo T M Q i]'hj) :: ofJo T M Q i := by show (dite _ _ _) :: _ = _; rw [dif_pos hj]
    have e2 : (joN T M Q (i + 1)).2.1 = (joN T M Q i).2.1 ||| vbits (Q[jo T M Q i]'hj) := by
      show (joN T M Q i).2.1 ||| dite _ _ _ = _
      rw [dif_pos (show (bestN T M Q (joN T M Q i).1 (joN T M Q i).2.1 Q.length).getD 0 < Q.length from hj)]
      rfl
    have hpj := z3 _ hj
    have hnj := (z4 _ hj).1
    refine S_inJoinOrder hMl hq hlt ?_
    have nx : ∀ p, patOK (Q[jo T M Q i]'hj) p → numOK T (Q[jo T M Q i]'hj) p → P_X2_variableBits p (fun (a : Int32) => P_X1_gather (t, sd) p s (0 : Int32) (0 : Int32) (fun (u : JoiS) => P_X6_sort 60 u.side (nI (joN T M Q i).2.1 &&& a) (fun (u2 : TabS) => P_X6_sort 3600 u.made (nI (joN T M Q i).2.1 &&& a) (fun (u3 : TabS) => P_X7_rowMask (nI (joN T M Q i).2.1 &&& a) (fun (m : Int32) => P_X1_mergeSide (u3, u2) m (fun (u4 : JoiS) => P_X2_variableBits p (fun (b : Int32) => K ((nI (joN T M Q i).2.1 ||| b), (nI i + (1 : Int32)), u4)))))))) := by
      intro p hp hn
      have hok := hp.1
      show P_X1_gather (t, sd) p s (nI 0) (nI 0) _
      have hrows := hst.1.1 rfl
      refine S_gather hT hs hp hn row0 (fun sd1 U hU hsd1 => ?_)
      have hvb := hp.2.2
      have hSl : (joN T M Q i).2.1 &&& vbits (Q[jo T M Q i]'hj) < 16 := Nat.lt_of_le_of_lt Nat.and_le_left hV.1
      show P_X6_sort 60 sd1 (nI (joN T M Q i).2.1 &&& p.variableBits) (fun (u2 : TabS) => P_X6_sort 3600 t (nI (joN T M Q i).2.1 &&& p.variableBits) (fun (u3 : TabS) => P_X7_rowMask (nI (joN T M Q i).2.1 &&& p.variableBits) (fun (m : Int32) => P_X1_mergeSide (u3, u2) m (fun (u4 : JoiS) => K ((nI (joN T M Q i).2.1 ||| p.variableBits), (nI i + (1 : Int32)), u4)))))
      rw [hvb, q_and, q_or, nI_1]
      have hUl : ∀ u ∈ U, u < 16777216 := fun u hu => ((cand_mem hT hs.2.1 hok row0).mp (hU.mem_iff.mp hu)).1
      have hRl : ∀ r ∈ R, r < 16777216 := fun r hr => ((hrows.2 r).mp hr).1
      refine S_sort (by omega) (by omega) hsd1 hUl (fun U' sd2 hU' hUs hsd2 => ?_)
      refine S_sort (by omega) (by omega) ht hRl (fun R' t2 hR' hRs ht2 => ?_)
      refine S_rowMask hSl ?_
      refine S_mergeSide ht2 hsd2 (hRs.imp lexf_res) (hUs.imp lexf_res) (fun r hr => hRl r (hR'.mem_iff.mp hr)) (fun r hr => hUl r (hU'.mem_iff.mp hr)) (fun N ov t3 ht3 hf3 => ?_)
      have hrows' := rows_perm hrows hR'
      have hpf : (R'.flatMap (mrg ((joN T M Q i).2.1 &&& vbits (Q[jo T M Q i]'hj)) U')).Perm (R'.flatMap (cand T M (Q[jo T M Q i]'hj) (joN T M Q i).2.1)) := by
        have : ∀ l : List Nat, (∀ r ∈ l, rowOK (joN T M Q i).2.1 r) → (l.flatMap (mrg ((joN T M Q i).2.1 &&& vbits (Q[jo T M Q i]'hj)) U')).Perm (l.flatMap (cand T M (Q[jo T M Q i]'hj) (joN T M Q i).2.1)) := by
          intro l
          induction l with
          | nil => intro _; exact List.Perm.refl _
          | cons a l ih =>
            intro hl
            rw [List.flatMap_cons, List.flatMap_cons]
            exact (mrg_perm hT hs.2.1 hs.1 hok (hl a List.mem_cons_self) (hU'.trans hU)).append (ih (fun r hr => hl r (List.mem_cons_of_mem _ hr)))
        exact this R' (fun r hr => Ans_row hV ((hrows'.2 r).mp hr))
      have hl := hst.2.1 rfl
      have hstep := stp_step hT hMl hs.2.1 hs.1 hok hps hV hrows' (by rw [hR'.length_eq]; exact hl) (fil_perm hf3 hpf)
      rw [← e2]
      refine hK _ ⟨i + 1, N, ov, t3, sd2, rfl, by omega, ht3, by rw [e1]; exact hstep⟩ ?_
      show 3 - (nI (i + 1)).toNatClampNeg < 3 - (nI i).toNatClampNeg
      rw [n_cl (by omega), n_cl (by omega)]; omega
    have nf := nx _ hpj hnj
    generalize hbe : jo T M Q i = b at *
    refine S_pattern (by omega) ⟨fun d => ?_, fun d => ?_, fun d => ?_⟩
    · subst d; exact nf
    · subst d; exact nf
    · subst d; exact nf
