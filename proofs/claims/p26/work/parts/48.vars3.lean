/-! PURE SIDE 19: going by variables, the end -/
theorem S_hasPWM {T M : List Nat} {Q : List Pt3} {q : QueS} {post : Int32 → Prop} (hM : M.length ≤ 60) (hq : lookOK T M Q q) (h1 : (∃ X ∈ Q, (cand T M X 0 0).length = 0) → post 1) (h0 : (∀ X ∈ Q, (cand T M X 0 0).length ≠ 0) → post 0) : P_X3_hasPatternWithoutMatch q post := by
  obtain ⟨⟨z1, z2, z3⟩, z4⟩ := hq
  refine wl (fun w => ∃ i, w = nI i ∧ i ≤ Q.length ∧ ∀ (m : Nat) (hm : m < Q.length), m < i → (cand T M Q[m] 0 0).length ≠ 0) (fun w => 3 - w.toNatClampNeg) ⟨0, rfl, by omega, fun m _ hm => by omega⟩ ?_
  rintro w ⟨i, rfl, hi, hg⟩ K hK
  refine ⟨fun c => ?_, fun c => ?_⟩
  · have c : q.size ≤ nI i := c
    rw [z2] at c
    have := (nI_leI (by omega) (by omega)).mp c
    refine h0 (fun X hX => ?_)
    obtain ⟨m, hm, rfl⟩ := List.getElem_of_mem hX
    exact hg m hm (by omega)
  · have hil : i < Q.length := by
      rcases Nat.lt_or_ge i Q.length with y | y
      · exact y
      · exact absurd (show q.size ≤ nI i by rw [z2]; exact n_le y (by omega)) c
    have hi3 : i < 3 := by omega
    have nx : ∀ x, x = nI (cand T M Q[i] 0 0).length → (¬ x = 0 → K (nI i + (1 : Int32))) ∧ (x = 0 → post 1) := by
      intro x e
      have hc := cand_len (T := T) (X := Q[i]) (V := 0) (r := 0) hM
      have hz : x = 0 ↔ (cand T M Q[i] 0 0).length = 0 := by
        rw [e]; exact nI_eq (b := 0) (by omega) (by omega)
      refine ⟨fun d => ?_, fun d => h1 ⟨Q[i], List.getElem_mem hil, hz.mp d⟩⟩
      rw [nI_1]
      refine hK _ ⟨i + 1, rfl, by omega, fun m hm hmi => ?_⟩ ?_
      · rcases (show m = i ∨ m < i by omega) with rfl | h2
        · exact fun z => d (hz.mpr z)
        · exact hg m hm h2
      · show 3 - (nI (i + 1)).toNatClampNeg < 3 - (nI i).toNatClampNeg
        rw [n_cl (by omega), n_cl (by omega)]; omega
    have hfd := (z4 i hil).2
    refine S_pattern hi3 ⟨fun e => ?_, fun e => ?_, fun e => ?_⟩
    · subst e; exact nx _ hfd
    · subst e; exact nx _ hfd
    · subst e; exact nx _ hfd
theorem nodup_len : ∀ {A B : List Nat}, A.Nodup → (∀ a ∈ A, a ∈ B) → A.length ≤ B.length
  | [], B, _, _ => Nat.zero_le _
  | a :: A, B, h, hs => by
    obtain ⟨h1, h2⟩ := List.nodup_cons.mp h
    have hb := hs a List.mem_cons_self
    have ih := nodup_len (A := A) (B := B.erase a) h2 (fun x hx => (List.mem_erase_of_ne (fun e => by subst e; exact h1 hx)).mpr (hs x (List.mem_cons_of_mem _ hx)))
    rw [List.length_erase_of_mem hb] at ih
    have := List.length_pos_of_mem hb
    rw [List.length_cons]; omega
theorem pick_list {P : Nat → Prop} {g : Nat → Nat} : ∀ {N : List Nat}, N.Nodup → (∀ w ∈ N, ∃ y, P y ∧ g y = w) → ∃ A : List Nat, A.Nodup ∧ (∀ y ∈ A, P y) ∧ A.length = N.length ∧ ∀ y ∈ A, g y ∈ N
  | [], _, _ => ⟨[], List.Pairwise.nil, fun y h => (List.not_mem_nil h).elim, rfl, fun y h => (List.not_mem_nil h).elim⟩
  | w :: N, h, hp => by
    obtain ⟨h1, h2⟩ := List.nodup_cons.mp h
    obtain ⟨A, a1, a2, a3, a4⟩ := pick_list h2 (fun x hx => hp x (List.mem_cons_of_mem _ hx))
    obtain ⟨y, y1, y2⟩ := hp w List.mem_cons_self
    refine ⟨y :: A, List.nodup_cons.mpr ⟨fun hy => ?_, a1⟩, fun z hz => ?_, by rw [List.length_cons, List.length_cons, a3], fun z hz => ?_⟩
    · have := a4 y hy
      rw [y2] at this; exact h1 this
    · rcases List.mem_cons.mp hz with rfl | hz
      · exact y1
      · exact a2 z hz
    · rcases List.mem_cons.mp hz with rfl | hz
      · rw [y2]; exact List.mem_cons_self
      · exact List.mem_cons_of_mem _ (a4 z hz)
theorem ofJo_rows {T M : List Nat} {Q : List Pt3} (hT : T.length ≤ 40) (hMl : M.length ≤ 60) (hM : ∀ t ∈ M, t < 262144) (hN : M.Nodup) (hQ : 0 < Q.length) (hX : ∀ (i : Nat) (h : i < Q.length), okX Q[i]) : ∀ n, ∃ B, rowsOf T M (ofJo T M Q n) B ∧ B.length ≤ 60 ^ n
  | 0 => ⟨[0], rows_nil T M, by decide⟩
  | n + 1 => by
    obtain ⟨B, h1, h2⟩ := ofJo_rows hT hMl hM hN hQ hX n
    obtain ⟨hV, hps⟩ := ofJo_V (T := T) (M := M) hQ hX n
    have hj := jo_lt (T := T) (M := M) hQ n
    refine ⟨_, by unfold ofJo; exact rows_step hT hM hN (by rw [dif_pos hj]; exact hX _ hj) hps hV h1, ?_⟩
    refine Nat.le_trans (flat_len (c := 60) (fun r => cand_len hMl) B) ?_
    rw [Nat.pow_succ]; exact Nat.mul_le_mul_right 60 h2
/-- a row over some of the variables of the first n + 1 patterns, all of the first n, goes on to an answer of those -/
theorem ext_ans {T M : List Nat} {Q : List Pt3} {V' w n : Nat} (hT : T.length ≤ 40) (hM : ∀ t ∈ M, t < 262144) (hQ3 : Q.length ≤ 3) (hX : ∀ (i : Nat) (h : i < Q.length), okX Q[i]) (hn : n < Q.length) (hlo : ∀ v, v < 4 → (joN T M Q n).2.1.testBit v = true → V'.testBit v = true) (hhi : ∀ v, v < 4 → V'.testBit v = true → (joN T M Q (n + 1)).2.1.testBit v = true) (hw : rowOK V' w) (hc : ∀ X ∈ Q, cmp T M X V' w) : ∃ y, Ans T M (ofJo T M Q (n + 1)) y ∧ res V' y = w := by
  have hQ : 0 < Q.length := by omega
  have hj := jo_lt (T := T) (M := M) hQ n
  have hPQ : Q[jo T M Q n]'hj ∈ Q := List.getElem_mem hj
  have hXP := hX _ hj
  have e1 : ofJo T M Q (n + 1) = (Q[jo T M Q n]'hj) :: ofJo T M Q n := by show (dite _ _ _) :: _ = _; rw [dif_pos hj]
  have hV1 := (ofJo_V (T := T) (M := M) hQ hX n).1
  have hV2 := (ofJo_V (T := T) (M := M) hQ hX (n + 1)).1
  have hmemQ : ∀ Y ∈ ofJo T M Q n, Y ∈ Q := by
    intro Y hY
    obtain ⟨m, -, rfl⟩ := (ofJo_mem hQ n Y).mp hY
    exact List.getElem_mem _
  generalize Q[jo T M Q n]'hj = P at *
  obtain ⟨x, x1, x2, x3⟩ := hc P hPQ
  obtain ⟨y, y1, y2, y3⟩ := cmp_ext hT hM hXP hw x2 x3
  obtain ⟨g1, g2, g3, g4⟩ := (cand_mem hT hM hXP hw).mp y1
  refine ⟨y, ⟨g1, fun Y hY => ?_, fun v hv hno => ?_⟩, ?_⟩
  · rw [e1] at hY
    rcases List.mem_cons.mp hY with rfl | hY
    · exact g2
    · have hYQ := hmemQ Y hY
      obtain ⟨m, hm, em⟩ := List.getElem_of_mem hYQ
      have hXY : okX Y := by rw [← em]; exact hX m hm
      have hb : ∀ v, v < 4 → hasV Y v → V'.testBit v = true := fun v hv hh => hlo v hv ((hV1.2 v hv).mpr ⟨Y, hY, hh⟩)
      obtain ⟨u, u1, u2, u3⟩ := hc Y hYQ
      rw [inst_congr (x := u) hXY (fun v hv hh => by rw [y2 v hv (hb v hv hh), u3 v hv (hb v hv hh) hh])]
      exact u2
  · have hbv : V'.testBit v = false := by
      cases hb : V'.testBit v
      · rfl
      · obtain ⟨Y, hY, hh⟩ := (hV2.2 v hv).mp (hhi v hv hb)
        exact absurd hh (hno Y hY)
    refine g4 v hv hbv (fun i hi e => hno P ?_ ⟨i, hi, e⟩)
    rw [e1]; exact List.mem_cons_self
  · refine row_ext (res_cell V' y (v := 0) (by omega)).1 hw.1 (fun v hv => ?_)
    rw [(res_cell V' y hv).2]
    cases hb : V'.testBit v
    · rw [if_neg (by decide), hw.2.2 v hv hb]
    · rw [if_pos rfl]; exact y2 v hv hb
/-- more than 2000 answers -/
def BIG (T M : List Nat) (Q : List Pt3) : Prop := ∃ A : List Nat, A.Nodup ∧ (∀ w ∈ A, Ans T M Q w) ∧ 2000 < A.length
theorem big_of {T M : List Nat} {Q : List Pt3} {V' n : Nat} {D N : List Nat} (hT : T.length ≤ 40) (hMl : M.length ≤ 60) (hM : ∀ t ∈ M, t < 262144) (hN : M.Nodup) (hQ3 : Q.length ≤ 3) (hX : ∀ (i : Nat) (h : i < Q.length), okX Q[i]) (hn : n < Q.length) (hlo : ∀ v, v < 4 → (joN T M Q n).2.1.testBit v = true → V'.testBit v = true) (hhi : ∀ v, v < 4 → V'.testBit v = true → (joN T M Q (n + 1)).2.1.testBit v = true) (hD : rowsV T M Q V' D) (hf : fil 3600 D N true) : BIG T M Q := by
  obtain ⟨h1, e, E, hp⟩ := hf.2 rfl
  obtain ⟨A, a1, a2, a3, -⟩ := pick_list (N := D) (P := Ans T M (ofJo T M Q (n + 1))) (g := res V') hD.1 (fun w hw => by
    obtain ⟨g1, g2⟩ := (hD.2 w).mp hw
    exact ext_ans hT hM hQ3 hX hn hlo hhi g1 g2)
  have hl := hp.length_eq
  rw [List.length_append, List.length_cons] at hl
  obtain ⟨B, b1, b2⟩ := ofJo_rows (T := T) hT hMl hM hN (show 0 < Q.length by omega) hX (n + 1)
  have hAB := nodup_len a1 (fun y hy => (b1.2 y).mpr (a2 y hy))
  have hbig : 3600 < 60 ^ (n + 1) := by omega
  have hn2 : n = 2 := by
    rcases (show n = 0 ∨ n = 1 ∨ n = 2 by omega) with rfl | rfl | rfl
    · exact absurd hbig (by decide)
    · exact absurd hbig (by decide)
    · rfl
  have hq3 : n + 1 = Q.length := by omega
  refine ⟨A, a1, fun w hw => ?_, by omega⟩
  have := a2 w hw
  rw [hq3] at this
  exact (Ans_perm (ofJo_all hQ3)).mp this
theorem and_no : ∀ a, a < 16 → ∀ b, b < 16 → (nI a &&& (nI b ^^^ (-1 : Int32)) = nI (a &&& (15 - b)) ∧ ∀ v, v < 4 → (a &&& (15 - b)).testBit v = (a.testBit v && !b.testBit v)) := by decide +kernel
theorem bits16 {a b : Nat} (ha : a < 16) (hb : b < 16) (h : ∀ v, v < 4 → (a.testBit v = true ↔ b.testBit v = true)) : a = b := by
  apply Nat.eq_of_testBit_eq
  intro i
  rcases Nat.lt_or_ge i 4 with z | z
  · have := h i z
    cases h1 : a.testBit i <;> cases h2 : b.testBit i <;> simp_all
  · have hp : (16 : Nat) ≤ 2 ^ i := by
      have := Nat.pow_le_pow_right (show 0 < 2 by omega) z
      simpa using this
    rw [Nat.testBit_lt_two_pow (by omega), Nat.testBit_lt_two_pow (by omega)]
theorem cand_rows0 {T M : List Nat} {X : Pt3} (hT : T.length ≤ 40) (hM : ∀ t ∈ M, t < 262144) (hX : okX X) : cmp T M X 0 0 ↔ (cand T M X 0 0).length ≠ 0 := by
  rw [cmp_iff hT hM hX row0]
  constructor
  · rintro ⟨y, hy⟩ e
    rw [List.eq_nil_of_length_eq_zero e] at hy
    exact (List.not_mem_nil hy).elim
  · intro h
    cases hc : cand T M X 0 0 with
    | nil => rw [hc] at h; exact absurd rfl h
    | cons a l => exact ⟨a, List.mem_cons_self⟩
theorem row00 {w : Nat} : rowOK 0 w ↔ w = 0 := by
  constructor
  · intro h
    refine row_ext h.1 (by omega) (fun v hv => ?_)
    rw [h.2.2 v hv (by simp)]
    unfold cell; simp
  · rintro rfl; exact row0
theorem S_goBy {T M : List Nat} {s : StoS} {Q : List Pt3} {q : QueS} {j : JoiS} {post : JoiS → Prop} (hT : T.length ≤ 40) (hs : stoOK M s) (hP : partsOK T M) (hq : lookOK T M Q q) (h : ∀ R ov t sd, tb 3600 R [] ov t → OUT T M Q R ov → post (t, sd)) : P_X1_goByVariables j q s post := by
  have hq' := hq
  obtain ⟨⟨z1, z2, z3⟩, z4⟩ := hq'
  have hX := que_okX hq.1
  have hXQ : ∀ X ∈ Q, okX X := by
    intro X hX2
    obtain ⟨m, hm, rfl⟩ := List.getElem_of_mem hX2
    exact hX m hm
  have hMl := sto_len hs
  have hM := hs.2.1
  have hN := hs.1
  have go : ∀ R t sd, tb 3600 R [] false t → rowsV T M Q 0 R → P_X1_goByVariables_j21 (t, sd) q s post := by
    intro R t sd ht hr
    refine wl (fun w => ∃ i R ov t sd, w = (nI (joN T M Q i).2.1, nI i, (t, sd)) ∧ i ≤ Q.length ∧ tb 3600 R [] ov t ∧ (ov = false → rowsV T M Q (joN T M Q i).2.1 R) ∧ (ov = true → BIG T M Q)) (fun w => 3 - w.2.1.toNatClampNeg) ⟨0, R, false, t, sd, rfl, by omega, ht, fun _ => hr, fun e => (by cases e)⟩ ?_
    rintro w ⟨i, R, ov, t, sd, rfl, hi, ht, hr, hbig⟩ K hK
    refine ⟨fun c => ?_, fun c => ?_⟩
    · have c : q.size ≤ nI i := c
      rw [z2] at c
      have := (nI_leI (by omega) (by omega)).mp c
      have e : i = Q.length := by omega
      subst e
      refine h R ov t sd ht ⟨fun e => ?_, hbig⟩
      have hr := hr e
      refine ⟨hr.1, fun w => (hr.2 w).trans ?_⟩
      have hall : ∀ X ∈ Q, ∀ v, v < 4 → hasV X v → (joN T M Q Q.length).2.1.testBit v = true := by
        intro X hX2 v hv hh
        obtain ⟨m, hm, -⟩ := List.getElem_of_mem hX2
        exact ((ofJo_V (T := T) (M := M) (show 0 < Q.length by omega) hX Q.length).1.2 v hv).mpr ⟨X, (ofJo_all z1 X).mpr hX2, hh⟩
      constructor
      · rintro ⟨g1, g2⟩
        refine ⟨g1.1, fun X hX2 => ?_, fun v hv hno => g1.2.2 v hv ?_⟩
        · obtain ⟨x, x1, x2, x3⟩ := g2 X hX2
          rw [inst_congr (x := x) (hXQ X hX2) (fun v hv hh => (x3 v hv (hall X hX2 v hv hh) hh).symm)]
          exact x2
        · cases hb : (joN T M Q Q.length).2.1.testBit v
          · rfl
          · rcases Nat.eq_zero_or_pos Q.length with z | z
            · rw [z] at hb; simp [joN] at hb
            · obtain ⟨X, hX2, hh⟩ := ((ofJo_V (T := T) (M := M) z hX Q.length).1.2 v hv).mp hb
              exact absurd hh (hno X ((ofJo_all z1 X).mp hX2))
      · intro g
        refine ⟨⟨g.1, ?_, fun v hv hb => g.2.2 v hv (fun X hX2 hh => ?_)⟩, fun X hX2 => ⟨w, g.1, g.2.1 X hX2, fun _ _ _ _ => rfl⟩⟩
        · rcases Nat.eq_zero_or_pos Q.length with z | z
          · rw [z]; exact show 0 < 16 by omega
          · exact (joN_lt z z1 hX _).2.1
        · rw [hall X hX2 v hv hh] at hb; cases hb
    · have hlt : i < Q.length := by
        rcases Nat.lt_or_ge i Q.length with y | y
        · exact y
        · exact absurd (show q.size ≤ nI i by rw [z2]; exact n_le y (by omega)) c
      have hQ0 : 0 < Q.length := by omega
      have hj := jo_lt (T := T) (M := M) hQ0 i
      have hk0 := (joN_lt (T := T) (M := M) hQ0 z1 hX i).2.1
      have hk1 := (joN_lt (T := T) (M := M) hQ0 z1 hX (i + 1)).2.1
      have e2 : (joN T M Q (i + 1)).2.1 = (joN T M Q i).2.1 ||| vbits (Q[jo T M Q i]'hj) := by
        show (joN T M Q i).2.1 ||| dite _ _ _ = _
        rw [dif_pos (show (bestN T M Q (joN T M Q i).1 (joN T M Q i).2.1 Q.length).getD 0 < Q.length from hj)]
        rfl
      have hpj := z3 _ hj
      have hPQ : Q[jo T M Q i]'hj ∈ Q := List.getElem_mem hj
      refine S_inJoinOrder hMl hq hlt ?_
      have nx : ∀ x, x = nI (vbits (Q[jo T M Q i]'hj)) → P_X1_goByVariables_j48 (t, sd) q s (nI (joN T M Q i).2.1) (nI i) x K post := by
        intro x ex
        subst ex
        have hXP := hX _ hj
        have hvb := vb_lt hXP
        have hbit : ∀ v, v < 4 → ((joN T M Q (i + 1)).2.1.testBit v = true ↔ (joN T M Q i).2.1.testBit v = true ∨ hasV (Q[jo T M Q i]'hj) v) := by
          intro v hv
          rw [e2, Nat.testBit_or, Bool.or_eq_true, vbits_tb hXP hv]
        generalize Q[jo T M Q i]'hj = P at *
        refine wl (fun w => ∃ V u R ov t sd, w = (nI V, nI u, (t, sd)) ∧ u ≤ 4 ∧ V < 16 ∧ (∀ v, v < 4 → (V.testBit v = true ↔ (joN T M Q i).2.1.testBit v = true ∨ (v < u ∧ hasV P v))) ∧ tb 3600 R [] ov t ∧ (ov = false → rowsV T M Q V R) ∧ (ov = true → BIG T M Q)) (fun w => 4 - w.2.1.toNatClampNeg) ⟨(joN T M Q i).2.1, 0, R, ov, t, sd, rfl, by omega, hk0, fun v hv => ⟨Or.inl, fun e => e.elim id (fun z => by omega)⟩, ht, hr, hbig⟩ ?_
        rintro w ⟨V, u, R, ov, t, sd, rfl, hu, hV, hVb, ht, hr, hbig⟩ K2 hK2
        refine ⟨fun d => ?_, fun d => ?_⟩
        · have : 4 ≤ u := (nI_leI (a := 4) (by omega) (by omega)).mp d
          have e : u = 4 := by omega
          subst e
          have eV : V = (joN T M Q (i + 1)).2.1 := bits16 hV hk1 (fun v hv => by
            rw [hVb v hv, hbit v hv]
            exact ⟨fun z => z.imp id (fun y => y.2), fun z => z.imp id (fun y => ⟨hv, y⟩)⟩)
          subst eV
          show K (nI (joN T M Q (i + 1)).2.1, nI i + (1 : Int32), (t, sd))
          rw [nI_1]
          refine hK _ ⟨i + 1, R, ov, t, sd, rfl, by omega, ht, hr, hbig⟩ ?_
          show 3 - (nI (i + 1)).toNatClampNeg < 3 - (nI i).toNatClampNeg
          rw [n_cl (by omega), n_cl (by omega)]; omega
        · have hu4 : u < 4 := by
            rcases Nat.lt_or_ge u 4 with z | z
            · exact z
            · exact absurd (n_le z (by omega)) d
          obtain ⟨n1, n2⟩ := and_no (vbits P) hvb V hV
          have go2 : ∀ V2 R2 ov2 t2 sd2, V2 < 16 → (∀ v, v < 4 → (V2.testBit v = true ↔ (joN T M Q i).2.1.testBit v = true ∨ (v < u + 1 ∧ hasV P v))) → tb 3600 R2 [] ov2 t2 → (ov2 = false → rowsV T M Q V2 R2) → (ov2 = true → BIG T M Q) → K2 (nI V2, nI u + (1 : Int32), (t2, sd2)) := by
            intro V2 R2 ov2 t2 sd2 f1 f2 f3 f4 f5
            rw [nI_1]
            refine hK2 _ ⟨V2, u + 1, R2, ov2, t2, sd2, rfl, by omega, f1, f2, f3, f4, f5⟩ ?_
            show 4 - (nI (u + 1)).toNatClampNeg < 4 - (nI u).toNatClampNeg
            rw [n_cl (by omega), n_cl (by omega)]; omega
          show P_X7_hasBit (nI (vbits P) &&& (nI V ^^^ (-1 : Int32))) (nI u) _
          rw [n1]
          refine S_hasBitB (Nat.lt_of_le_of_lt Nat.and_le_left (by omega)) (by omega) (fun e => ⟨fun x => absurd x (by decide), fun _ => ?_⟩) (fun e => ⟨fun _ => go2 V R ov t sd hV ?_ ht hr hbig, fun x => absurd rfl x⟩)
          · rw [n2 u hu4, Bool.and_eq_true, Bool.not_eq_true'] at e
            obtain ⟨eP, eV⟩ := e
            have hh := (vbits_tb hXP hu4).mp eP
            have f2 : ∀ v, v < 4 → ((V ||| 2 ^ u).testBit v = true ↔ (joN T M Q i).2.1.testBit v = true ∨ (v < u + 1 ∧ hasV P v)) := by
              intro v hv
              rw [tb_or, Bool.or_eq_true, decide_eq_true_iff, hVb v hv]
              constructor
              · rintro ((g | ⟨g1, g2⟩) | rfl)
                · exact Or.inl g
                · exact Or.inr ⟨by omega, g2⟩
                · exact Or.inr ⟨by omega, hh⟩
              · rintro (g | ⟨g1, g2⟩)
                · exact Or.inl (Or.inl g)
                · rcases (show u = v ∨ v < u by omega) with rfl | g3
                  · exact Or.inr rfl
                  · exact Or.inl (Or.inr ⟨g3, g2⟩)
            refine S_takeVariable hT hs hq hu4 eV hV ht (fun e2 w hw => (((hr e2).2 w).mp hw).1) (fun e2 N t2 sd2 g1 => ?_) (fun e2 N ov2 t2 sd2 g1 g2 => ?_)
            · show K2 (nI V ||| ((1 : Int32) <<< (nI u &&& 31)), nI u + (1 : Int32), (t2, sd2))
              rw [show (1 : Int32) <<< (nI u &&& 31) = nI (1 * 2 ^ u) from q_shl 1 (by omega), q_or, Nat.one_mul]
              exact go2 _ N true t2 sd2 (or_lt16 hV hu4) f2 g1 (fun e => (by cases e)) (fun _ => hbig e2)
            · show K2 (nI V ||| ((1 : Int32) <<< (nI u &&& 31)), nI u + (1 : Int32), (t2, sd2))
              rw [show (1 : Int32) <<< (nI u &&& 31) = nI (1 * 2 ^ u) from q_shl 1 (by omega), q_or, Nat.one_mul]
              have hD := rowsV_step hT hM hP hXQ hu4 eV ⟨P, hPQ, hh⟩ (hr e2) (al := fun w => mayB T M Q V w u) (fun w _ n _ => mayB_iff)
              refine go2 _ N ov2 t2 sd2 (or_lt16 hV hu4) f2 g1 (fun e => ⟨(g2.1 e).symm.nodup hD.1, fun w => (g2.1 e).mem_iff.trans (hD.2 w)⟩) (fun e => ?_)
              subst e
              refine big_of hT hMl hM hN z1 hX hlt (V' := V ||| 2 ^ u) (fun v hv g => (f2 v hv).mpr (Or.inl g)) (fun v hv g => (hbit v hv).mpr (((f2 v hv).mp g).imp id (fun y => y.2))) hD g2
          · intro v hv
            rw [n2 u hu4] at e
            rw [hVb v hv]
            constructor
            · rintro (g | ⟨g1, g2⟩)
              · exact Or.inl g
              · exact Or.inr ⟨by omega, g2⟩
            · rintro (g | ⟨g1, g2⟩)
              · exact Or.inl g
              · rcases (show v = u ∨ v < u by omega) with rfl | g3
                · rw [(vbits_tb hXP hv).mpr g2] at e
                  have e : V.testBit v = true := by simpa using e
                  rcases (hVb v hv).mp e with y | ⟨y, -⟩
                  · exact Or.inl y
                  · omega
                · exact Or.inr ⟨g3, g2⟩
      have hv2 := hpj.2.2
      generalize hbe : jo T M Q i = b at *
      refine S_pattern (by omega) ⟨fun d => ?_, fun d => ?_, fun d => ?_⟩
      · subst d; exact nx _ hv2
      · subst d; exact nx _ hv2
      · subst d; exact nx _ hv2
  refine S_begin0 (by omega) (by omega) (fun t0 ht0 => ?_)
  refine S_hasPWM hMl hq (fun ⟨X, hX2, e⟩ => ⟨fun x => absurd x (by decide), fun _ => ?_⟩) (fun hall => ⟨fun _ => ?_, fun x => absurd rfl x⟩)
  · refine S_beginEmpty (fun t1 ht1 => go [] t1 j.side ht1 ⟨List.Pairwise.nil, fun w => ⟨fun hw => (List.not_mem_nil hw).elim, fun ⟨g1, g2⟩ => ?_⟩⟩)
    have e0 := row00.mp g1
    subst e0
    exact absurd e ((cand_rows0 hT hM (hXQ X hX2)).mp (g2 X hX2))
  · refine go [0] t0 j.side ht0 ⟨by simp, fun w => ?_⟩
    rw [List.mem_singleton, row00]
    constructor
    · rintro rfl
      exact ⟨rfl, fun X hX2 => (cand_rows0 hT hM (hXQ X hX2)).mpr (hall X hX2)⟩
    · exact fun g => g.1
