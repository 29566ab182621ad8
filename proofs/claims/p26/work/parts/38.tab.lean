/-! PURE SIDE 9: tables of rows; the rows that a pattern's triples make of a row -/
def lst (f : Nat → Int32) (n : Int32) (R : List Nat) : Prop := n = nI R.length ∧ ∀ (i : Nat) (h : i < R.length), f i = nI R[i]
def ob (b : Bool) : Int32 := if b then 1 else 0
def tb (L : Nat) (R N : List Nat) (ov : Bool) (t : TabS) : Prop := lst t.rows t.size R ∧ R.length ≤ L ∧ lst t.next_ t.nextSize N ∧ N.length ≤ L ∧ t.over = ob ov
theorem lst_nil (f : Nat → Int32) : lst f 0 [] := ⟨rfl, fun i h => absurd h (Nat.not_lt_zero i)⟩
theorem lst_push {f : Nat → Int32} {n : Int32} {R : List Nat} {r : Nat} (h : lst f n R) : lst (upd f R.length (nI r)) (n + 1) (R ++ [r]) := by
  obtain ⟨h1, h2⟩ := h
  refine ⟨by rw [h1, nI_1]; simp, fun i hi => ?_⟩
  rw [List.length_append, List.length_singleton] at hi
  rcases Nat.lt_or_ge i R.length with q | q
  · rw [pk_un (by omega), h2 i q, List.getElem_append_left q]
  · have e : i = R.length := by omega
    subst e
    rw [pk_us, List.getElem_append_right (Nat.le_refl _)]
    simp
theorem S_beginEmpty {L : Nat} {t : TabS} {post : TabS → Prop} (h : ∀ t', tb L [] [] false t' → post t') : P_X6_beginEmpty L t post :=
  h _ ⟨lst_nil _, Nat.zero_le _, lst_nil _, Nat.zero_le _, rfl⟩
theorem S_turn {L : Nat} {R N : List Nat} {ov : Bool} {t : TabS} {post : TabS → Prop} (ht : tb L R N ov t) (h : ∀ t', tb L N [] ov t' → post t') : P_X6_turn L t post := by
  obtain ⟨h1, h2, h3, h4, h5⟩ := ht
  exact h _ ⟨h3, h4, lst_nil _, Nat.zero_le _, h5⟩
theorem S_add {L r : Nat} {R N : List Nat} {ov : Bool} {t : TabS} {post : TabS → Prop} (hL : L < 2147483648) (ht : tb L R N ov t) (h1 : N.length < L → ∀ t', tb L R (N ++ [r]) ov t' → post t') (h2 : N.length = L → ∀ t', tb L R N true t' → post t') : P_X6_add L t (nI r) post := by
  obtain ⟨a1, a2, a3, a4, a5⟩ := ht
  have a3' := a3
  obtain ⟨b1, b2⟩ := a3'
  refine ⟨fun c => ?_, fun c => ?_⟩
  · rw [b1] at c
    have : L ≤ N.length := (nI_leI (by omega) (by omega)).mp c
    exact h2 (by omega) _ ⟨a1, a2, a3, a4, rfl⟩
  · have hlt : N.length < L := by
      rcases Nat.lt_or_ge N.length L with q | q
      · exact q
      · rw [b1] at c
        exact absurd (n_le q (by omega)) c
    rw [b1]
    refine S_put hlt hL ?_
    refine h1 hlt _ ⟨a1, a2, ?_, ?_, a5⟩
    · have := lst_push (r := r) a3
      rw [b1] at this
      exact this
    · rw [List.length_append, List.length_singleton]; omega
theorem S_row {L i : Nat} {R N : List Nat} {ov : Bool} {t : TabS} {post : Int32 → Prop} (hL : L < 2147483648) (ht : tb L R N ov t) (hi : i < R.length) (h : post (nI R[i])) : P_X6_row L t (nI i) post := by
  obtain ⟨a1, a2, -⟩ := ht
  refine S_at (by omega) hL ?_
  rw [a1.2 i hi]; exact h
theorem S_isOver {L : Nat} {R N : List Nat} {ov : Bool} {t : TabS} {post : Int32 → Prop} (ht : tb L R N ov t) (h : post (ob ov)) : P_X6_isOver L t post := by
  obtain ⟨-, -, -, -, a5⟩ := ht
  show bo t.over ∧ post t.over
  rw [a5]
  exact ⟨by cases ov <;> first | exact bo0 | exact bo1, h⟩
theorem S_begin0 {L : Nat} {t : TabS} {post : TabS → Prop} (hL : 0 < L) (hL2 : L < 2147483648) (h : ∀ t', tb L [0] [] false t' → post t') : P_X6_beginWithNothingBound L t post := by
  refine S_beginEmpty (fun t1 h1 => ?_)
  refine S_add (r := 0) hL2 h1 (fun _ t2 h2 => S_turn h2 h) (fun e => absurd e (by simp; omega))
-- the rows of a pattern
/-- the triple that a pattern becomes with the values of a row -/
def inst (T : List Nat) (X : Nat → Nat) (w : Nat) : Nat := enc (vv T X w 0) (vv T X w 1) (vv T X w 2)
abbrev matX (T : List Nat) (X : Nat → Nat) (V r t : Nat) : Bool := mat (td X V 0) (td X V 1) (td X V 2) (vv T X r 0) (vv T X r 1) (vv T X r 2) t
def cand (T M : List Nat) (X : Nat → Nat) (V r : Nat) : List Nat := (M.filter (matX T X V r)).filterMap (wid X V r)
theorem inst_lt {T : List Nat} (hT : T.length ≤ 40) (X : Nat → Nat) (w : Nat) : inst T X w < 262144 := enc_lt (vv_lt hT X w 0) (vv_lt hT X w 1) (vv_lt hT X w 2)
theorem part_inst {T : List Nat} (hT : T.length ≤ 40) (X : Nat → Nat) (w : Nat) {i : Nat} (hi : i < 3) : part (inst T X w) i = vv T X w i := by
  obtain ⟨h0, h1, h2⟩ := part_enc (vv_lt hT X w 0) (vv_lt hT X w 1) (vv_lt hT X w 2)
  rcases (show i = 0 ∨ i = 1 ∨ i = 2 by omega) with rfl | rfl | rfl
  · exact h0
  · exact h1
  · exact h2
theorem matX_iff {T : List Nat} {X : Nat → Nat} {V r t : Nat} : matX T X V r t = true ↔ ∀ i, i < 3 → td X V i = true → part t i = vv T X r i := by
  unfold matX
  rw [mat_iff]
  constructor
  · rintro ⟨h0, h1, h2⟩ i hi
    rcases (show i = 0 ∨ i = 1 ∨ i = 2 by omega) with rfl | rfl | rfl
    · exact h0
    · exact h1
    · exact h2
  · intro h
    exact ⟨h 0 (by omega), h 1 (by omega), h 2 (by omega)⟩
/-- a row of the pattern's: its triple is in the store, it goes on the row r, it has nothing else -/
theorem cand_mem {T M : List Nat} {X : Nat → Nat} {V r w : Nat} (hT : T.length ≤ 40) (hM : ∀ t ∈ M, t < 262144) (hX : okX X) (hr : rowOK V r) : w ∈ cand T M X V r ↔ w < 16777216 ∧ inst T X w ∈ M ∧ (∀ v, v < 4 → V.testBit v = true → cell w v = cell r v) ∧ ∀ v, v < 4 → V.testBit v = false → (∀ i, i < 3 → X i ≠ 100 + v) → cell w v = 0 := by
  unfold cand
  rw [List.mem_filterMap]
  constructor
  · rintro ⟨t, ht, hw⟩
    rw [List.mem_filter, matX_iff] at ht
    obtain ⟨h1, h2, h3, h4⟩ := (wid_iff hX hr).mp hw
    refine ⟨h1, ?_, h2, h4⟩
    have e : inst T X w = t := by
      have : ∀ i, i < 3 → vv T X w i = part t i := by
        intro i hi
        unfold vv
        by_cases q : X i < 100
        · rw [if_pos q]
          have := ht.2 i hi (by simp [td, q])
          unfold vv at this
          rw [if_pos q] at this
          exact this.symm
        · rw [if_neg q]; exact h3 i hi (by omega)
      unfold inst
      rw [this 0 (by omega), this 1 (by omega), this 2 (by omega), enc_part (hM t ht.1)]
    rw [e]; exact ht.1
  · rintro ⟨h1, h2, h3, h4⟩
    refine ⟨inst T X w, ?_, ?_⟩
    · rw [List.mem_filter, matX_iff]
      refine ⟨h2, fun i hi htd => ?_⟩
      rw [part_inst hT X w hi]
      unfold vv
      by_cases q : X i < 100
      · rw [if_pos q, if_pos q]
      · rw [if_neg q, if_neg q]
        have hx := hX i hi
        simp [td, q] at htd
        exact h3 _ (by omega) htd
    · rw [wid_iff hX hr]
      refine ⟨h1, h3, fun i hi hge => ?_, h4⟩
      rw [part_inst hT X w hi]
      unfold vv
      rw [if_neg (by omega)]
theorem nodup_filterMap {f : Nat → Option Nat} : ∀ {l : List Nat} (_ : l.Nodup) (_ : ∀ a b c, a ∈ l → b ∈ l → f a = some c → f b = some c → a = b), (l.filterMap f).Nodup
  | [], _, _ => by simp
  | a :: l, h, hf => by
    obtain ⟨h1, h2⟩ := List.nodup_cons.mp h
    have ih := nodup_filterMap h2 (fun x y c hx hy => hf x y c (List.mem_cons_of_mem _ hx) (List.mem_cons_of_mem _ hy))
    cases hc : f a with
    | none => rw [List.filterMap_cons_none hc]; exact ih
    | some b =>
      rw [List.filterMap_cons_some hc]
      refine List.nodup_cons.mpr ⟨fun hm => ?_, ih⟩
      obtain ⟨x, hx, e⟩ := List.mem_filterMap.mp hm
      have := hf a x b List.mem_cons_self (List.mem_cons_of_mem _ hx) hc e
      subst this; exact h1 hx
theorem cand_nodup {T M : List Nat} {X : Nat → Nat} {V r : Nat} (hM : ∀ t ∈ M, t < 262144) (hN : M.Nodup) (hX : okX X) (hr : rowOK V r) : (cand T M X V r).Nodup := by
  unfold cand
  refine nodup_filterMap (hN.sublist List.filter_sublist) (fun a b c ha hb h1 h2 => ?_)
  rw [List.mem_filter, matX_iff] at ha hb
  obtain ⟨-, -, g1, -⟩ := (wid_iff hX hr).mp h1
  obtain ⟨-, -, g2, -⟩ := (wid_iff hX hr).mp h2
  have key : ∀ i, i < 3 → part a i = part b i := by
    intro i hi
    by_cases q : X i < 100
    · rw [ha.2 i hi (by simp [td, q]), hb.2 i hi (by simp [td, q])]
    · rw [← g1 i hi (by omega), ← g2 i hi (by omega)]
  rw [← enc_part (hM a ha.1), ← enc_part (hM b hb.1), key 0 (by omega), key 1 (by omega), key 2 (by omega)]
