/-! PURE SIDE 11: the table's sorting, by one cell, then by several -/
def csF (v : Nat) (R : List Nat) (n : Nat) : List Nat := R.filter (fun r => cell r v == n)
def cs (v : Nat) (R : List Nat) : Nat → List Nat
  | 0 => []
  | n + 1 => cs v R n ++ csF v R n
def csort (v : Nat) (R : List Nat) : List Nat := cs v R 64
theorem cs_len (v : Nat) (R : List Nat) : ∀ n, (cs v R n).length = R.countP (fun r => decide (cell r v < n))
  | 0 => by simp [cs]
  | n + 1 => by
    show (cs v R n ++ csF v R n).length = _
    rw [List.length_append, cs_len v R n]
    unfold csF
    rw [← List.countP_eq_length_filter]
    induction R with
    | nil => rfl
    | cons r R ih =>
      rw [List.countP_cons, List.countP_cons, List.countP_cons]
      by_cases q : cell r v < n
      · have h1 : cell r v < n + 1 := by omega
        have h2 : ¬ cell r v = n := by omega
        simp [q, h1, h2]; omega
      · by_cases q2 : cell r v = n
        · have h1 : cell r v < n + 1 := by omega
          simp [q, h1, q2]; omega
        · have h1 : ¬ cell r v < n + 1 := by omega
          simp [q, h1, q2]; omega
theorem csort_len (v : Nat) (R : List Nat) : (csort v R).length = R.length := by
  unfold csort
  rw [cs_len, List.countP_eq_length]
  intro r _
  exact decide_eq_true (cell_lt r v)
theorem cs_count (v : Nat) (R : List Nat) (a : Nat) : ∀ n, (cs v R n).count a = if cell a v < n then R.count a else 0
  | 0 => by simp [cs]
  | n + 1 => by
    show (cs v R n ++ csF v R n).count a = _
    rw [List.count_append, cs_count v R a n]
    unfold csF
    by_cases q : cell a v = n
    · rw [if_neg (by omega), if_pos (by omega), List.count_filter (by simp [q]), Nat.zero_add]
    · have h0 : (R.filter (fun r => cell r v == n)).count a = 0 := by
        rw [List.count_eq_zero]
        intro hm
        have := (List.mem_filter.mp hm).2
        simp at this; exact q this
      rw [h0, Nat.add_zero]
      by_cases q2 : cell a v < n
      · rw [if_pos q2, if_pos (by omega)]
      · rw [if_neg q2, if_neg (by omega)]
theorem csort_perm (v : Nat) (R : List Nat) : (csort v R).Perm R := by
  rw [List.perm_iff_count]
  intro a
  unfold csort
  rw [cs_count, if_pos (cell_lt a v)]
theorem cs_mem {v : Nat} {R : List Nat} : ∀ {n a : Nat}, a ∈ cs v R n → cell a v < n
  | 0, a, h => by simp [cs] at h
  | n + 1, a, h => by
    rcases List.mem_append.mp h with h | h
    · have := cs_mem h; omega
    · have := (List.mem_filter.mp h).2
      simp at this; omega
/-- a stable sort: what held between the rows holds where the cell is the same -/
theorem cs_pw {v : Nat} {R : List Nat} {Q : Nat → Nat → Prop} (h : R.Pairwise Q) : ∀ n, (cs v R n).Pairwise (fun a b => cell a v < cell b v ∨ (cell a v = cell b v ∧ Q a b))
  | 0 => List.Pairwise.nil
  | n + 1 => by
    refine List.pairwise_append.mpr ⟨cs_pw h n, ?_, ?_⟩
    · have hf : (R.filter (fun r => cell r v == n)).Pairwise Q := h.sublist List.filter_sublist
      refine List.Pairwise.imp_of_mem (fun {a b} ha hb hq => ?_) hf
      have e1 := (List.mem_filter.mp ha).2
      have e2 := (List.mem_filter.mp hb).2
      simp at e1 e2
      exact Or.inr ⟨by omega, hq⟩
    · intro a ha b hb
      have h1 := cs_mem ha
      have e2 := (List.mem_filter.mp hb).2
      simp at e2
      exact Or.inl (by omega)
theorem cs_mono (v : Nat) (R : List Nat) {n : Nat} (hn : n ≤ 64) : (cs v R n).length ≤ R.length := by
  rw [cs_len]; exact List.countP_le_length
theorem cs_room (v : Nat) (R : List Nat) {n : Nat} (hn : n < 64) : (cs v R n).length + (csF v R n).length ≤ R.length := by
  have := cs_mono v R (n := n + 1) (by omega)
  rwa [show cs v R (n + 1) = cs v R n ++ csF v R n from rfl, List.length_append] at this
theorem csF_take_le (v : Nat) (R : List Nat) (i n : Nat) : (csF v (R.take i) n).length ≤ (csF v R n).length := by
  unfold csF
  exact (List.Sublist.filter _ (List.take_sublist i R)).length_le
theorem csF_step {v : Nat} {R : List Nat} {i n : Nat} (hi : i < R.length) : csF v (R.take (i + 1)) n = csF v (R.take i) n ++ (if cell R[i] v = n then [R[i]] else []) := by
  unfold csF
  rw [take_s hi, List.filter_append]
  congr 1
  by_cases q : cell R[i] v = n
  · rw [if_pos q, List.filter_cons_of_pos (by simp [q])]; rfl
  · rw [if_neg q, List.filter_cons_of_neg (by simp [q])]; rfl
theorem cs_read {v : Nat} {R : List Nat} {f : Nat → Int32} : ∀ n, (∀ j, j < n → ∀ (k : Nat) (h : k < (csF v R j).length), f ((cs v R j).length + k) = nI (csF v R j)[k]) → ∀ (i : Nat) (h : i < (cs v R n).length), f i = nI (cs v R n)[i]
  | 0, _, i, h => by simp [cs] at h
  | n + 1, hf, i, h => by
    have ih := cs_read n (fun j hj => hf j (by omega))
    have h' : i < (cs v R n ++ csF v R n).length := h
    show f i = nI (cs v R n ++ csF v R n)[i]
    rw [List.length_append] at h'
    rcases Nat.lt_or_ge i (cs v R n).length with q | q
    · rw [List.getElem_append_left q]; exact ih i q
    · rw [List.getElem_append_right q]
      have := hf n (by omega) (i - (cs v R n).length) (by omega)
      rw [← this]; congr 1; omega
theorem S_sortByOne {L v : Nat} {R N : List Nat} {ov : Bool} {t : TabS} {post : TabS → Prop} (hL : L < 2147483648) (hv : v < 4) (ht : tb L R N ov t) (hR : ∀ r ∈ R, r < 16777216) (h : ∀ t', tb L (csort v R) [] ov t' → post t') : P_X6_sortByOne L t (nI v) post := by
  obtain ⟨a1, a2, a3, a4, a5⟩ := ht
  obtain ⟨b1, b2⟩ := a1
  -- what stays: rows, size, over
  have K2 : ∀ (t2 : TabS), t2.rows = t.rows → t2.size = t.size → t2.over = t.over → (∀ j, j < 64 → t2.starts j = nI 0) → wloop (P_X6_sortByOne_B25 L (nI v) post) ((0 : Int32), t2) := by
    intro t2 e1 e2 e3 e4
    refine wl (fun w => ∃ i u, w = (nI i, u) ∧ i ≤ R.length ∧ u.rows = t.rows ∧ u.size = t.size ∧ u.over = t.over ∧ ∀ j, j < 64 → u.starts j = nI (csF v (R.take i) j).length) (fun w => R.length - w.1.toNatClampNeg) ⟨0, t2, rfl, by omega, e1, e2, e3, fun j hj => by rw [e4 j hj]; simp [csF]⟩ ?_
    rintro w ⟨i, u, rfl, hi, f1, f2, f3, f4⟩ K hK
    refine ⟨fun c => ?_, fun c => ?_⟩
    · have c : u.size ≤ nI i := c
      rw [f2, b1] at c
      have hil : R.length ≤ i := (nI_leI (by omega) (by omega)).mp c
      have e : i = R.length := by omega
      subst e
      rw [List.take_length] at f4
      -- the sums
      refine wl (fun w => ∃ n u, w = (nI (cs v R n).length, nI n, u) ∧ n ≤ 64 ∧ u.rows = t.rows ∧ u.size = t.size ∧ u.over = t.over ∧ ∀ j, j < 64 → u.starts j = if j < n then nI (cs v R j).length else nI (csF v R j).length) (fun w => 64 - w.2.1.toNatClampNeg) ⟨0, u, rfl, by omega, f1, f2, f3, fun j hj => by rw [f4 j hj, if_neg (by omega)]⟩ ?_
      rintro w ⟨n, u, rfl, hn, f1, f2, f3, f4⟩ K hK
      refine ⟨fun c => ?_, fun c => ?_⟩
      · have c : (63 : Int32) < nI n := c
        have hn64 : 63 < n := (nI_ltI (a := 63) (by omega) (by omega)).mp c
        have e : n = 64 := by omega
        subst e
        -- the rows to their places
        refine wl (fun w => ∃ i u, w = (nI i, u) ∧ i ≤ R.length ∧ u.rows = t.rows ∧ u.size = t.size ∧ u.over = t.over ∧ (∀ j, j < 64 → u.starts j = nI ((cs v R j).length + (csF v (R.take i) j).length)) ∧ ∀ j, j < 64 → ∀ (k : Nat) (hk : k < (csF v (R.take i) j).length), u.next_ ((cs v R j).length + k) = nI (csF v (R.take i) j)[k]) (fun w => R.length - w.1.toNatClampNeg) ⟨0, u, rfl, by omega, f1, f2, f3, fun j hj => by rw [f4 j hj, if_pos (by omega)]; simp [csF], fun j hj k hk => by simp [csF] at hk⟩ ?_
        rintro w ⟨i, u, rfl, hi, f1, f2, f3, f4, f5⟩ K hK
        refine ⟨fun c => ?_, fun c => ?_⟩
        · have c : u.size ≤ nI i := c
          rw [f2, b1] at c
          have hil : R.length ≤ i := (nI_leI (by omega) (by omega)).mp c
          have e : i = R.length := by omega
          subst e
          rw [List.take_length] at f5
          show P_X6_turn L (u.rows, u.next_, u.starts, u.size, u.size, u.over) _
          refine S_turn (R := R) (N := csort v R) (ov := ov) ⟨⟨by show u.size = _; rw [f2, b1], fun i hi => by show u.rows i = _; rw [f1]; exact b2 i hi⟩, a2, ⟨?_, ?_⟩, by rw [csort_len]; exact a2, by show u.over = _; rw [f3]; exact a5⟩ h
          · show u.size = _
            rw [f2, b1, csort_len]
          · exact cs_read 64 f5
        · have hlt : i < R.length := by
            rcases Nat.lt_or_ge i R.length with z | z
            · exact z
            · exact absurd (show u.size ≤ nI i by rw [f2, b1]; exact n_le z (by omega)) c
          have hr := hR _ (List.getElem_mem hlt)
          have hc64 := cell_lt R[i] v
          have hroom := cs_room v R hc64
          have hst : (csF v (R.take (i + 1)) (cell R[i] v)).length = (csF v (R.take i) (cell R[i] v)).length + 1 := by
            rw [csF_step hlt, if_pos rfl, List.length_append]; rfl
          have hle := csF_take_le v R (i + 1) (cell R[i] v)
          have er : u.rows i = nI R[i] := by rw [f1]; exact b2 i hlt
          refine S_at (by omega) hL ?_
          show P_X7_cellOf (u.rows i) _ _
          rw [er]
          refine S_cellOf (by omega) (by omega) (S_at hc64 (by omega) ?_)
          show P_X7_at L u.rows (nI i) (fun r => P_X7_put L u.next_ (u.starts (cell R[i] v)) r _)
          rw [f4 _ hc64]
          refine S_at (by omega) hL ?_
          rw [er]
          refine S_put (by omega) hL (S_at hc64 (by omega) ?_)
          show P_X7_put 64 u.starts (nI (cell R[i] v)) (u.starts (cell R[i] v) + (1 : Int32)) _
          rw [f4 _ hc64, nI_1]
          refine S_put hc64 (by omega) ?_
          show K (nI i + (1 : Int32), (u.rows, upd u.next_ _ (nI R[i]), upd u.starts (cell R[i] v) _, u.size, u.nextSize, u.over))
          rw [nI_1]
          refine hK _ ⟨i + 1, _, rfl, by omega, f1, f2, f3, ?_, ?_⟩ ?_
          · intro j hj
            show upd u.starts (cell R[i] v) _ j = _
            by_cases z : j = cell R[i] v
            · subst z
              rw [pk_us, hst]; congr 1
            · rw [pk_un z, f4 j hj, csF_step hlt, if_neg (fun e => z e.symm), List.append_nil]
          · intro j hj k hk
            show upd u.next_ _ (nI R[i]) ((cs v R j).length + k) = _
            by_cases z : j = cell R[i] v
            · subst z
              by_cases z2 : k = (csF v (R.take i) (cell R[i] v)).length
              · subst z2
                rw [pk_us]
                simp only [csF_step hlt, if_true]
                rw [List.getElem_append_right (Nat.le_refl _)]
                simp
              · have hk2 : k < (csF v (R.take i) (cell R[i] v)).length := by omega
                rw [pk_un (by omega), f5 _ hj k hk2]
                simp only [csF_step hlt, if_true]
                rw [List.getElem_append_left hk2]
            · have e2 : csF v (R.take (i + 1)) j = csF v (R.take i) j := by rw [csF_step hlt, if_neg (fun e => z e.symm), List.append_nil]
              simp only [e2] at hk ⊢
              have hne : (cs v R j).length + k ≠ (cs v R (cell R[i] v)).length + (csF v (R.take i) (cell R[i] v)).length := by
                have r1 := csF_take_le v R i j
                have mono : ∀ a b, a < b → b ≤ 64 → (cs v R a).length + (csF v R a).length ≤ (cs v R b).length := by
                  intro a b hab hb
                  have s1 : (cs v R (a + 1)).length ≤ (cs v R b).length := by
                    rw [cs_len, cs_len]
                    refine List.countP_mono_left (fun x _ hx => ?_)
                    have := of_decide_eq_true hx
                    exact decide_eq_true (by omega)
                  rwa [show cs v R (a + 1) = cs v R a ++ csF v R a from rfl, List.length_append] at s1
                rcases Nat.lt_or_ge j (cell R[i] v) with y | y
                · have := mono j _ y (by omega); omega
                · have := mono (cell R[i] v) j (by omega) (by omega); omega
              rw [pk_un hne]
              exact f5 j hj k hk
          · show R.length - (nI (i + 1)).toNatClampNeg < R.length - (nI i).toNatClampNeg
            rw [n_cl (by omega), n_cl (by omega)]; omega
      · have hlt : n < 64 := by
          rcases Nat.lt_or_ge n 64 with z | z
          · exact z
          · exact absurd (show (63 : Int32) < nI n from n_lt (a := 63) (by omega) (by omega)) c
        have hroom := cs_room v R hlt
        refine S_at hlt (by omega) ?_
        show P_X7_put 64 u.starts (nI n) (nI (cs v R n).length) (fun u' => K (nI (cs v R n).length + u.starts n, _))
        rw [f4 n hlt, if_neg (by omega), n_add]
        refine S_put hlt (by omega) ?_
        show K (nI ((cs v R n).length + (csF v R n).length), nI n + (1 : Int32), (u.rows, u.next_, upd u.starts n _, u.size, u.nextSize, u.over))
        rw [nI_1]
        refine hK _ ⟨n + 1, (u.rows, u.next_, upd u.starts n (nI (cs v R n).length), u.size, u.nextSize, u.over), ?_, by omega, f1, f2, f3, ?_⟩ ?_
        · rw [show cs v R (n + 1) = cs v R n ++ csF v R n from rfl, List.length_append]
        · intro j hj
          show upd u.starts n (nI (cs v R n).length) j = _
          by_cases z : j = n
          · subst z; rw [pk_us, if_pos (by omega)]
          · rw [pk_un z, f4 j hj]
            by_cases y : j < n
            · rw [if_pos y, if_pos (by omega)]
            · rw [if_neg y, if_neg (by omega)]
        · show 64 - (nI (n + 1)).toNatClampNeg < 64 - (nI n).toNatClampNeg
          rw [n_cl (by omega), n_cl (by omega)]; omega
    · have hlt : i < R.length := by
        rcases Nat.lt_or_ge i R.length with z | z
        · exact z
        · exact absurd (show u.size ≤ nI i by rw [f2, b1]; exact n_le z (by omega)) c
      have hr := hR _ (List.getElem_mem hlt)
      have hc64 := cell_lt R[i] v
      have er : u.rows i = nI R[i] := by rw [f1]; exact b2 i hlt
      refine S_at (by omega) hL ?_
      show P_X7_cellOf (u.rows i) _ _
      rw [er]
      refine S_cellOf (by omega) (by omega) (S_at hc64 (by omega) ?_)
      show P_X7_put 64 u.starts (nI (cell R[i] v)) (u.starts (cell R[i] v) + (1 : Int32)) _
      rw [f4 _ hc64, nI_1]
      refine S_put hc64 (by omega) ?_
      show K (nI i + (1 : Int32), (u.rows, u.next_, upd u.starts (cell R[i] v) _, u.size, u.nextSize, u.over))
      rw [nI_1]
      refine hK _ ⟨i + 1, _, rfl, by omega, f1, f2, f3, ?_⟩ ?_
      · intro j hj
        show upd u.starts (cell R[i] v) _ j = _
        by_cases z : j = cell R[i] v
        · subst z
          rw [pk_us, csF_step hlt, if_pos rfl, List.length_append]; rfl
        · rw [pk_un z, f4 j hj, csF_step hlt, if_neg (fun e => z e.symm), List.append_nil]
      · show R.length - (nI (i + 1)).toNatClampNeg < R.length - (nI i).toNatClampNeg
        rw [n_cl (by omega), n_cl (by omega)]; omega
  refine wl (fun w => ∃ n u, w = (nI n, u) ∧ n ≤ 64 ∧ u.rows = t.rows ∧ u.size = t.size ∧ u.over = t.over ∧ ∀ j, j < n → u.starts j = nI 0) (fun w => 64 - w.1.toNatClampNeg) ⟨0, t, rfl, by omega, rfl, rfl, rfl, fun j hj => by omega⟩ ?_
  rintro w ⟨n, u, rfl, hn, f1, f2, f3, f4⟩ K hK
  refine ⟨fun c => ?_, fun c => ?_⟩
  · have c : (63 : Int32) < nI n := c
    have hn64 : 63 < n := (nI_ltI (a := 63) (by omega) (by omega)).mp c
    exact K2 u f1 f2 f3 (fun j hj => f4 j (by omega))
  · have hlt : n < 64 := by
      rcases Nat.lt_or_ge n 64 with z | z
      · exact z
      · exact absurd (show (63 : Int32) < nI n from n_lt (a := 63) (by omega) (by omega)) c
    refine S_put hlt (by omega) ?_
    show K (nI n + (1 : Int32), (u.rows, u.next_, upd u.starts n (0 : Int32), u.size, u.nextSize, u.over))
    rw [nI_1]
    refine hK _ ⟨n + 1, _, rfl, by omega, f1, f2, f3, ?_⟩ ?_
    · intro j hj
      show upd u.starts n (0 : Int32) j = _
      by_cases z : j = n
      · subst z; rw [pk_us]; rfl
      · rw [pk_un z]; exact f4 j (by omega)
    · show 64 - (nI (n + 1)).toNatClampNeg < 64 - (nI n).toNatClampNeg
      rw [n_cl (by omega), n_cl (by omega)]; omega
theorem am1 (x : Int32) : x + (-1 : Int32) = x - 1 := (Int32.sub_eq_add_neg x 1).symm
/-- by the cells of S, the lowest first -/
def lexf (S : Nat) : Nat → Nat → Nat → Nat → Prop
  | 0, _, _, _ => True
  | k + 1, v, a, b => if S.testBit v then (cell a v < cell b v ∨ (cell a v = cell b v ∧ lexf S k (v + 1) a b)) else lexf S k (v + 1) a b
theorem S_sort {L S : Nat} {R : List Nat} {ov : Bool} {t : TabS} {post : TabS → Prop} (hL : L < 2147483648) (hS : S < 2147483648) (ht : tb L R [] ov t) (hR : ∀ r ∈ R, r < 16777216) (h : ∀ R' t', R'.Perm R → R'.Pairwise (lexf S 4 0) → tb L R' [] ov t' → post t') : P_X6_sort L t (nI S) post := by
  refine wl (fun w => ∃ k R' u, w = (nI k - 1, u) ∧ k ≤ 4 ∧ R'.Perm R ∧ R'.Pairwise (lexf S (4 - k) k) ∧ tb L R' [] ov u) (fun w => (w.1 + 1).toNatClampNeg) ⟨4, R, t, congrArg (fun z => (z, t)) (by decide : (3 : Int32) = nI 4 - 1), by omega, List.Perm.refl _, ?_, ht⟩ ?_
  · exact List.Pairwise.imp (fun _ => trivial) (List.pairwise_of_forall (R := fun _ _ => True) (fun _ _ => trivial))
  rintro w ⟨k, R', u, rfl, hk, hp, hpw, hu⟩ K hK
  refine ⟨fun c => ?_, fun c => ?_⟩
  · have e : k = 0 := by
      rcases Nat.eq_zero_or_pos k with z | z
      · exact z
      · rw [show (1 : Int32) = nI 1 from rfl, n_sub z] at c
        exact absurd c (nI_pos (by omega))
    subst e
    exact h R' u hp hpw hu
  · have hk0 : 0 < k := by
      rcases Nat.eq_zero_or_pos k with z | z
      · subst z; exact absurd (show nI 0 - 1 < 0 by decide) c
      · exact z
    have e1 : nI k - (1 : Int32) = nI (k - 1) := by rw [show (1 : Int32) = nI 1 from rfl, n_sub hk0]
    have e3 : (nI k - (1 : Int32) + 1).toNatClampNeg = k := by rw [e1, nI_1, n_cl (by omega)]; omega
    have e4 : (nI (k - 1) - (1 : Int32) + 1).toNatClampNeg = k - 1 := by
      rcases Nat.eq_zero_or_pos (k - 1) with z | z
      · rw [z]; decide
      · rw [show (1 : Int32) = nI 1 from rfl, n_sub z, n_add, n_cl (by omega)]; omega
    have hlx : lexf S (4 - (k - 1)) (k - 1) = fun a b => if S.testBit (k - 1) then (cell a (k - 1) < cell b (k - 1) ∨ (cell a (k - 1) = cell b (k - 1) ∧ lexf S (4 - k) k a b)) else lexf S (4 - k) k a b := by
      have : 4 - (k - 1) = (4 - k) + 1 := by omega
      rw [this]
      funext a b
      show (if S.testBit (k - 1) then _ else _) = _
      rw [show k - 1 + 1 = k by omega]
    show P_X7_hasBit (nI S) (nI k - (1 : Int32)) _
    rw [e1]
    refine S_hasBitB hS (by omega) (fun hb => ⟨fun d => absurd d (by decide), fun _ => ?_⟩) (fun hb => ⟨fun _ => ?_, fun d => absurd rfl d⟩)
    · refine S_sortByOne hL (by omega) hu (fun r hr => hR r (hp.mem_iff.mp hr)) (fun t' ht' => ?_)
      show K (nI (k - 1) + (-1 : Int32), t')
      rw [am1]
      refine hK _ ⟨k - 1, csort (k - 1) R', t', rfl, by omega, (csort_perm _ _).trans hp, ?_, ht'⟩ ?_
      · rw [hlx]
        simp only [hb, if_true]
        exact cs_pw hpw 64
      · show (nI (k - 1) - (1 : Int32) + 1).toNatClampNeg < (nI k - (1 : Int32) + 1).toNatClampNeg
        rw [e3, e4]; omega
    · show K (nI (k - 1) + (-1 : Int32), u)
      rw [am1]
      refine hK _ ⟨k - 1, R', u, rfl, by omega, hp, ?_, hu⟩ ?_
      · rw [hlx]
        simp only [hb, Bool.false_eq_true, if_false]
        exact hpw
      · show (nI (k - 1) - (1 : Int32) + 1).toNatClampNeg < (nI k - (1 : Int32) + 1).toNatClampNeg
        rw [e3, e4]; omega
