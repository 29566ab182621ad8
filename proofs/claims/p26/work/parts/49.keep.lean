/-! PURE SIDE 20: keeping the answers -/
theorem isV_mem {V : Nat} {ps ps' : List Pt3} (h : isV V ps) (hp : ∀ X, X ∈ ps ↔ X ∈ ps') : isV V ps' :=
  ⟨h.1, fun v hv => (h.2 v hv).trans ⟨fun ⟨X, h1, h2⟩ => ⟨X, (hp X).mp h1, h2⟩, fun ⟨X, h1, h2⟩ => ⟨X, (hp X).mpr h1, h2⟩⟩⟩
theorem qv_isV {Q : List Pt3} (hX : ∀ (i : Nat) (h : i < Q.length), okX Q[i]) : isV (qv Q) Q := isV_mem (firsts_V hX (Nat.le_refl _)).1 firsts_all
theorem res_id {V w : Nat} (h : rowOK V w) : res V w = w := by
  refine row_ext (res_cell V w (v := 0) (by omega)).1 h.1 (fun v hv => ?_)
  rw [(res_cell V w hv).2]
  cases hb : V.testBit v
  · rw [if_neg (by decide), h.2.2 v hv hb]
  · rw [if_pos rfl]
theorem lt_len {T M : List Nat} {Q : List Pt3} {R : List Nat} (h : rowsOf T M Q R) (hb : 2000 < R.length) : BIG T M Q := ⟨R, h.1, fun w hw => (h.2 w).mp hw, hb⟩
theorem S_keep {T M : List Nat} {Q : List Pt3} {d : DicS} {s : StoS} {q : QueS} {t sd : TabS} {kf : Nat → Int32} {ks kv : Int32} {R : List Nat} {ov : Bool} {post : Int32 → TriS → Prop} {postX : Nat → TriS → Prop} (hq : queOK Q q) (ht : tb 3600 R [] ov t) (ho : OUT T M Q R ov) (h1 : ∀ A t' kf', rowsOf T M Q A → A.Pairwise (fun a b => a < b) → A.length ≤ 2000 → lst kf' (nI A.length) A → post (nI A.length) (d, s, q, (t', sd), kf', nI A.length, nI (qv Q))) (h2 : BIG T M Q → postX 2 (d, s, q, (t, sd), kf, ks, kv)) : P_X7_keepAnswers (d, s, q, (t, sd), kf, ks, kv) post postX := by
  have hRn : R.length ≤ 3600 := ht.2.1
  have hsz : t.size = nI R.length := ht.1.1
  have hX := que_okX hq
  have hqV := qv_isV hX
  refine (fun _ => S_isOver ht ⟨fun c => ?_, fun c => ?_⟩)
  · have e : ov = true := by cases ov <;> first | rfl | exact absurd rfl c
    exact h2 (ho.2 e)
  · have e : ov = false := by cases ov <;> first | rfl | exact absurd c (by decide)
    subst e
    have hrows := ho.1 rfl
    refine ⟨fun c2 => ?_, fun c2 => ?_⟩
    · have c2 : t.size ≤ (2000 : Int32) := c2
      rw [hsz] at c2
      have hle : R.length ≤ 2000 := (nI_leI (b := 2000) (by omega) (by omega)).mp c2
      refine S_qvars hq ?_
      show P_X6_sort 3600 t (nI (qv Q)) (fun (u : TabS) => wloop (P_X7_keepAnswers_B64 post postX) ((0 : Int32), (d, s, q, (u, sd), kf, t.size, nI (qv Q))))
      rw [hsz]
      have hqv16 := hqV.1
      refine S_sort (by omega) (by omega) ht (fun r hr => ((hrows.2 r).mp hr).1) (fun A u hA hAs hu => ?_)
      have hAr := rows_perm hrows hA
      have hAl := hA.length_eq
      rw [← hAl]
      have hlt : A.Pairwise (fun a b => a < b) := by
        rw [List.pairwise_iff_getElem] at hAs ⊢
        intro i j hi hj hij
        have g := lexf_res (hAs i j hi hj hij)
        rw [res_id (Ans_row hqV ((hAr.2 _).mp (List.getElem_mem hi))), res_id (Ans_row hqV ((hAr.2 _).mp (List.getElem_mem hj)))] at g
        have hne : A[i] ≠ A[j] := fun e => by
          have := (List.pairwise_iff_getElem.mp hAr.1) i j hi hj hij
          exact this e
        omega
      refine wl (fun w => ∃ i kf', w = (nI i, (d, s, q, (u, sd), kf', nI A.length, nI (qv Q))) ∧ i ≤ A.length ∧ ∀ (k : Nat) (hk : k < A.length), k < i → kf' k = nI A[k]) (fun w => 2000 - w.1.toNatClampNeg) ⟨0, kf, rfl, by omega, fun k _ hk => by omega⟩ ?_
      rintro w ⟨i, kf', rfl, hi, hkf⟩ K hK
      refine ⟨fun c3 => ?_, fun c3 => ?_⟩
      · have : A.length ≤ i := (nI_leI (by omega) (by omega)).mp c3
        have e : i = A.length := by omega
        subst e
        exact h1 A u kf' hAr hlt (by omega) ⟨rfl, fun k hk => hkf k hk hk⟩
      · have hil : i < A.length := by
          rcases Nat.lt_or_ge i A.length with z | z
          · exact z
          · exact absurd (n_le z (by omega)) c3
        refine S_row (by omega) hu hil (S_put (by omega) (by omega) ?_)
        show K (nI i + (1 : Int32), (d, s, q, (u, sd), upd kf' i (nI A[i]), nI A.length, nI (qv Q)))
        rw [nI_1]
        refine hK _ ⟨i + 1, _, rfl, by omega, fun k hk hki => ?_⟩ ?_
        · by_cases z : k = i
          · subst z; rw [pk_us]
          · rw [pk_un z]; exact hkf k hk (by omega)
        · show 2000 - (nI (i + 1)).toNatClampNeg < 2000 - (nI i).toNatClampNeg
          rw [n_cl (by omega), n_cl (by omega)]; omega
    · refine h2 (lt_len hrows ?_)
      rcases Nat.lt_or_ge 2000 R.length with z | z
      · exact z
      · exact absurd (show t.size ≤ (2000 : Int32) by rw [hsz]; exact n_le (b := 2000) z (by omega)) c2
/-- the class's state, and what it stands for -/
def cls (T M : List Nat) (Q : List Pt3) (A : List Nat) (kv : Nat) (c : TriS) : Prop := dicOK T c.dictionary ∧ stoOK M c.store ∧ partsOK T M ∧ queOK Q c.query ∧ lst c.kept c.keptSize A ∧ A.length ≤ 2000 ∧ c.keptVariables = nI kv ∧ kv < 16
theorem C_begin {T M : List Nat} {Q : List Pt3} {A : List Nat} {kv : Nat} {c : TriS} {post : TriS → Prop} {postX : Nat → TriS → Prop} (hc : cls T M Q A kv c) (h0 : Q.length = 0 → postX 2 c) (h1 : 0 < Q.length → ∀ q', lookOK T M Q q' → post (c.dictionary, c.store, q', c.joins, c.kept, c.keptSize, c.keptVariables)) : P_X7_beginAnswering c post postX := by
  obtain ⟨a1, a2, a3, a4, a5⟩ := hc
  have hsz : c.query.size = nI Q.length := a4.2.1
  have hz : c.query.size = 0 ↔ Q.length = 0 := by
    rw [hsz]; exact nI_eq (b := 0) (by have := a4.1; omega) (by omega)
  refine ⟨fun c1 => ?_, fun c1 => h0 (hz.mp c1)⟩
  refine S_qlook a1 a2 a4 (fun q' hq' => h1 ?_ q' hq')
  rcases Nat.eq_zero_or_pos Q.length with z | z
  · exact absurd (hz.mpr z) c1
  · exact z
/-- the three ways -/
theorem C_merging {T M : List Nat} {Q : List Pt3} {A : List Nat} {kv : Nat} {c : TriS} {post : Int32 → TriS → Prop} {postX : Nat → TriS → Prop} (hc : cls T M Q A kv c) (h0 : (Q.length = 0 ∨ BIG T M Q) → ∀ c', cls T M Q A kv c' → postX 2 c') (h1 : 0 < Q.length → ∀ B c', rowsOf T M Q B → B.Pairwise (fun a b => a < b) → cls T M Q B (qv Q) c' → post (nI B.length) c') : P_X7_answerByMerging c post postX := by
  refine C_begin hc (fun e => h0 (Or.inl e) c hc) (fun hQ q' hq' => ?_)
  obtain ⟨a1, a2, a3, a4, a5, a6, a7, a8⟩ := hc
  refine S_merge a1.2.1 a2 hq' (fun R ov t sd ht ho => S_keep hq'.1 ht ho (fun B t' kf' g1 g2 g3 g4 => ?_) (fun hb => ?_))
  · exact h1 hQ B _ g1 g2 ⟨a1, a2, a3, hq'.1, g4, g3, rfl, (qv_isV (que_okX hq'.1)).1⟩
  · exact h0 (Or.inr hb) _ ⟨a1, a2, a3, hq'.1, a5, a6, a7, a8⟩
theorem C_byVariables {T M : List Nat} {Q : List Pt3} {A : List Nat} {kv : Nat} {c : TriS} {post : Int32 → TriS → Prop} {postX : Nat → TriS → Prop} (hc : cls T M Q A kv c) (h0 : (Q.length = 0 ∨ BIG T M Q) → ∀ c', cls T M Q A kv c' → postX 2 c') (h1 : 0 < Q.length → ∀ B c', rowsOf T M Q B → B.Pairwise (fun a b => a < b) → cls T M Q B (qv Q) c' → post (nI B.length) c') : P_X7_answerByVariables c post postX := by
  refine C_begin hc (fun e => h0 (Or.inl e) c hc) (fun hQ q' hq' => ?_)
  obtain ⟨a1, a2, a3, a4, a5, a6, a7, a8⟩ := hc
  refine S_goBy a1.2.1 a2 a3 hq' (fun R ov t sd ht ho => S_keep hq'.1 ht ho (fun B t' kf' g1 g2 g3 g4 => ?_) (fun hb => ?_))
  · exact h1 hQ B _ g1 g2 ⟨a1, a2, a3, hq'.1, g4, g3, rfl, (qv_isV (que_okX hq'.1)).1⟩
  · exact h0 (Or.inr hb) _ ⟨a1, a2, a3, hq'.1, a5, a6, a7, a8⟩
theorem C_loops {T M : List Nat} {Q : List Pt3} {A : List Nat} {kv : Nat} {c : TriS} {post : Int32 → TriS → Prop} {postX : Nat → TriS → Prop} (hc : cls T M Q A kv c) (h0 : (Q.length = 0 ∨ BIG T M Q) → ∀ c', cls T M Q A kv c' → postX 2 c') (h1 : 0 < Q.length → ∀ B c', rowsOf T M Q B → B.Pairwise (fun a b => a < b) → cls T M Q B (qv Q) c' → post (nI B.length) c') : P_X7_answerByLoops c post postX := by
  refine C_begin hc (fun e => h0 (Or.inl e) c hc) (fun hQ q' hq' => ?_)
  obtain ⟨a1, a2, a3, a4, a5, a6, a7, a8⟩ := hc
  refine S_loop a1.2.1 a2 hq' (fun R ov t sd ht ho => S_keep hq'.1 ht ho (fun B t' kf' g1 g2 g3 g4 => ?_) (fun hb => ?_))
  · exact h1 hQ B _ g1 g2 ⟨a1, a2, a3, hq'.1, g4, g3, rfl, (qv_isV (que_okX hq'.1)).1⟩
  · exact h0 (Or.inr hb) _ ⟨a1, a2, a3, hq'.1, a5, a6, a7, a8⟩
