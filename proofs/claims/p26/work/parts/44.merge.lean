/-! PURE SIDE 15: merging -/
def rmA (S : Nat) : Nat → Nat
  | 0 => 0
  | i + 1 => rmA S i * 64 + (if S.testBit i then 63 else 0)
theorem rmA4 (S : Nat) : rmA S 4 = 2 ^ 6 * (2 ^ 6 * (2 ^ 6 * (if S.testBit 0 then 63 else 0) + (if S.testBit 1 then 63 else 0)) + (if S.testBit 2 then 63 else 0)) + (if S.testBit 3 then 63 else 0) := by
  show (((0 * 64 + (if S.testBit 0 then 63 else 0)) * 64 + (if S.testBit 1 then 63 else 0)) * 64 + (if S.testBit 2 then 63 else 0)) * 64 + (if S.testBit 3 then 63 else 0) = _
  omega
theorem S_rowMask {S : Nat} {post : Int32 → Prop} (hS : S < 16) (h : post (nI (rmA S 4))) : P_X7_rowMask (nI S) post := by
  refine wl (fun w => ∃ i, w = (nI (rmA S i * 2 ^ (6 * (4 - i))), nI i) ∧ i ≤ 4) (fun w => 4 - w.2.toNatClampNeg) ⟨0, by simp [rmA]; rfl, by omega⟩ ?_
  rintro w ⟨i, rfl, hi⟩ K hK
  refine ⟨fun c => ?_, fun c => ?_⟩
  · have : 4 ≤ i := (nI_leI (a := 4) (by omega) (by omega)).mp c
    have e : i = 4 := by omega
    subst e
    show post (nI (rmA S 4 * 1))
    rw [Nat.mul_one]; exact h
  · have hi4 : i < 4 := by
      rcases Nat.lt_or_ge i 4 with z | z
      · exact z
      · exact absurd (n_le z (by omega)) c
    have nx : ∀ x, x = nI (rmA S (i + 1) * 2 ^ (6 * (4 - (i + 1)))) → K (x, nI i + (1 : Int32)) := by
      intro x e
      rw [e, nI_1]
      refine hK _ ⟨i + 1, rfl, by omega⟩ ?_
      show 4 - (nI (i + 1)).toNatClampNeg < 4 - (nI i).toNatClampNeg
      rw [n_cl (by omega), n_cl (by omega)]; omega
    refine S_hasBitB (by omega) (by omega) (fun hb => ⟨fun d => absurd d (by decide), fun _ => ?_⟩) (fun hb => ⟨fun _ => nx _ ?_, fun d => absurd rfl d⟩)
    · refine S_cellShift (by omega) (nx _ ?_)
      rw [show (63 : Int32) <<< (nI (6 * (3 - i)) &&& 31) = nI (63 * 2 ^ (6 * (3 - i))) from q_shl 63 (by omega)]
      rw [q_ord (by rcases (show i = 0 ∨ i = 1 ∨ i = 2 ∨ i = 3 by omega) with rfl | rfl | rfl | rfl <;> decide)]
      congr 1
      show _ = (rmA S i * 64 + (if S.testBit i then 63 else 0)) * _
      rw [if_pos hb]
      rcases (show i = 0 ∨ i = 1 ∨ i = 2 ∨ i = 3 by omega) with rfl | rfl | rfl | rfl <;> simp only [Nat.reduceSub, Nat.reduceMul, Nat.reducePow, Nat.reduceAdd] <;> omega
    · show nI (rmA S i * 2 ^ (6 * (4 - i))) = nI (rmA S (i + 1) * 2 ^ (6 * (4 - (i + 1))))
      refine congrArg nI ?_
      show _ = (rmA S i * 64 + (if S.testBit i then 63 else 0)) * _
      rw [if_neg (by rw [hb]; decide)]
      rcases (show i = 0 ∨ i = 1 ∨ i = 2 ∨ i = 3 by omega) with rfl | rfl | rfl | rfl <;> simp only [Nat.reduceSub, Nat.reduceMul, Nat.reducePow, Nat.reduceAdd] <;> omega
theorem quad {w : Nat} (hw : w < 16777216) : w = 2 ^ 6 * (2 ^ 6 * (2 ^ 6 * cell w 0 + cell w 1) + cell w 2) + cell w 3 := by
  obtain ⟨a0, a1, a2, a3⟩ := cell_v hw
  rw [a0, a1, a2, a3]; omega
theorem quad_cell {a b c d : Nat} (ha : a < 64) (hb : b < 64) (hc : c < 64) (hd : d < 64) : 2 ^ 6 * (2 ^ 6 * (2 ^ 6 * a + b) + c) + d < 16777216 ∧ cell (2 ^ 6 * (2 ^ 6 * (2 ^ 6 * a + b) + c) + d) 0 = a ∧ cell (2 ^ 6 * (2 ^ 6 * (2 ^ 6 * a + b) + c) + d) 1 = b ∧ cell (2 ^ 6 * (2 ^ 6 * (2 ^ 6 * a + b) + c) + d) 2 = c ∧ cell (2 ^ 6 * (2 ^ 6 * (2 ^ 6 * a + b) + c) + d) 3 = d := by
  have hw : 2 ^ 6 * (2 ^ 6 * (2 ^ 6 * a + b) + c) + d < 16777216 := by omega
  obtain ⟨a0, a1, a2, a3⟩ := cell_v hw
  refine ⟨hw, ?_, ?_, ?_, ?_⟩
  · rw [a0]; omega
  · rw [a1]; omega
  · rw [a2]; omega
  · rw [a3]; omega
theorem and_if {x : Nat} {b : Bool} (h : x < 64) : x &&& (if b then 63 else 0) = if b then x else 0 := by
  cases b
  · simp
  · exact and63 h
theorem if63_lt (b : Bool) : (if b then 63 else 0) < 2 ^ 6 := by cases b <;> decide
theorem and_rmask {w : Nat} (S : Nat) (hw : w < 16777216) : w &&& rmA S 4 = res S w := by
  have h1 := cell_lt w 1
  have h2 := cell_lt w 2
  have h3 := cell_lt w 3
  have h0 := cell_lt w 0
  have e : w &&& rmA S 4 = 2 ^ 6 * (2 ^ 6 * (2 ^ 6 * (if S.testBit 0 then cell w 0 else 0) + (if S.testBit 1 then cell w 1 else 0)) + (if S.testBit 2 then cell w 2 else 0)) + (if S.testBit 3 then cell w 3 else 0) := by
    rw [rmA4]
    conv => lhs; lhs; rw [quad hw]
    rw [band_lo h3 (if63_lt _), band_lo h2 (if63_lt _), band_lo h1 (if63_lt _), and_if h0, and_if h1, and_if h2, and_if h3]
  rw [e]
  unfold res
  cases S.testBit 0 <;> cases S.testBit 1 <;> cases S.testBit 2 <;> cases S.testBit 3 <;> simp only [if_true, Bool.false_eq_true, if_false] <;> omega
theorem cell_or {r x : Nat} (hr : r < 16777216) (hx : x < 16777216) : r ||| x < 16777216 ∧ ∀ v, v < 4 → cell (r ||| x) v = cell r v ||| cell x v := by
  have h : ∀ v, cell r v ||| cell x v < 64 := fun v => Nat.or_lt_two_pow (n := 6) (cell_lt r v) (cell_lt x v)
  have e : r ||| x = 2 ^ 6 * (2 ^ 6 * (2 ^ 6 * (cell r 0 ||| cell x 0) + (cell r 1 ||| cell x 1)) + (cell r 2 ||| cell x 2)) + (cell r 3 ||| cell x 3) := by
    conv => lhs; rw [quad hr, quad hx]
    rw [bor_lo (cell_lt r 3) (cell_lt x 3), bor_lo (cell_lt r 2) (cell_lt x 2), bor_lo (cell_lt r 1) (cell_lt x 1)]
  obtain ⟨g, g0, g1, g2, g3⟩ := quad_cell (h 0) (h 1) (h 2) (h 3)
  rw [← e] at g g0 g1 g2 g3
  refine ⟨g, fun v hv => ?_⟩
  rcases (show v = 0 ∨ v = 1 ∨ v = 2 ∨ v = 3 by omega) with rfl | rfl | rfl | rfl
  · exact g0
  · exact g1
  · exact g2
  · exact g3
theorem lexf_res {S a b : Nat} (h : lexf S 4 0 a b) : res S a ≤ res S b := by
  have a0 := cell_lt a 0
  have a1 := cell_lt a 1
  have a2 := cell_lt a 2
  have a3 := cell_lt a 3
  have b0 := cell_lt b 0
  have b1 := cell_lt b 1
  have b2 := cell_lt b 2
  have b3 := cell_lt b 3
  unfold res
  simp only [lexf, Nat.zero_add, Nat.reduceAdd] at h
  revert h
  cases S.testBit 0 <;> cases S.testBit 1 <;> cases S.testBit 2 <;> cases S.testBit 3 <;> simp only [if_true, Bool.false_eq_true, if_false] <;> intro h <;> omega
theorem res_eq {S x r : Nat} (h : res S x = res S r) {v : Nat} (hv : v < 4) (hb : S.testBit v = true) : cell x v = cell r v := by
  have h1 := (res_cell S x hv).2
  have h2 := (res_cell S r hv).2
  rw [if_pos hb] at h1 h2
  rw [← h1, ← h2, h]
/-- what a row becomes with the rows at the side that are alike under S -/
def mrg (S : Nat) (U : List Nat) (r : Nat) : List Nat := (U.filter (fun x => res S x == res S r)).map (fun x => r ||| x)
theorem mrg_perm {T M U : List Nat} {X : Pt3} {V r : Nat} (hT : T.length ≤ 40) (hM : ∀ t ∈ M, t < 262144) (hN : M.Nodup) (hX : okX X) (hr : rowOK V r) (hU : U.Perm (cand T M X 0 0)) : (mrg (V &&& vbits X) U r).Perm (cand T M X V r) := by
  have hS : ∀ v, v < 4 → ((V &&& vbits X).testBit v = true ↔ V.testBit v = true ∧ hasV X v) := by
    intro v hv
    rw [Nat.testBit_and, Bool.and_eq_true, vbits_tb hX hv]
  have hu : ∀ x, x ∈ U ↔ x < 16777216 ∧ inst T X x ∈ M ∧ ∀ v, v < 4 → ¬ hasV X v → cell x v = 0 := by
    intro x
    rw [hU.mem_iff, cand_mem hT hM hX row0]
    constructor
    · rintro ⟨h1, h2, -, h4⟩
      exact ⟨h1, h2, fun v hv hn => h4 v hv (by simp) (fun i hi e => hn ⟨i, hi, e⟩)⟩
    · rintro ⟨h1, h2, h4⟩
      exact ⟨h1, h2, fun v _ hb => by simp at hb, fun v hv _ hn => h4 v hv (fun ⟨i, hi, e⟩ => hn i hi e)⟩
  have hc : ∀ x, x ∈ U → res (V &&& vbits X) x = res (V &&& vbits X) r → ∀ v, v < 4 → cell (r ||| x) v = if V.testBit v then cell r v else cell x v := by
    intro x hx he v hv
    obtain ⟨h1, h2, h3⟩ := (hu x).mp hx
    rw [(cell_or hr.1 h1).2 v hv]
    cases hb : V.testBit v
    · rw [hr.2.2 v hv hb]; simp
    · rw [if_pos rfl]
      rcases Classical.em (hasV X v) with hh | hh
      · rw [res_eq he hv ((hS v hv).mpr ⟨hb, hh⟩), Nat.or_self]
      · rw [h3 v hv hh, Nat.or_zero]
  refine (List.perm_ext_iff_of_nodup ?_ (cand_nodup hM hN hX hr)).mpr (fun w => ?_)
  · unfold mrg
    refine List.pairwise_map.mpr (List.Pairwise.imp_of_mem (fun {a b} ha hb hne e => hne ?_) ((hU.symm.nodup (cand_nodup hM hN hX row0)).sublist List.filter_sublist))
    obtain ⟨a1, a2⟩ := List.mem_filter.mp ha
    obtain ⟨b1, b2⟩ := List.mem_filter.mp hb
    have a2 := eq_of_beq a2
    have b2 := eq_of_beq b2
    obtain ⟨x1, x2, x3⟩ := (hu a).mp a1
    obtain ⟨y1, y2, y3⟩ := (hu b).mp b1
    refine row_ext x1 y1 (fun v hv => ?_)
    have ea := hc a a1 a2 v hv
    have eb := hc b b1 b2 v hv
    rw [e] at ea
    cases hz : V.testBit v
    · rw [hz] at ea eb
      simp only [Bool.false_eq_true, if_false] at ea eb
      rw [← ea, ← eb]
    · rcases Classical.em (hasV X v) with hh | hh
      · rw [res_eq a2 hv ((hS v hv).mpr ⟨hz, hh⟩), res_eq b2 hv ((hS v hv).mpr ⟨hz, hh⟩)]
      · rw [x3 v hv hh, y3 v hv hh]
  · unfold mrg
    rw [List.mem_map, cand_mem hT hM hX hr]
    constructor
    · rintro ⟨x, hx, rfl⟩
      obtain ⟨x1, x2⟩ := List.mem_filter.mp hx
      have x2 := eq_of_beq x2
      obtain ⟨h1, h2, h3⟩ := (hu x).mp x1
      have hcx := hc x x1 x2
      refine ⟨(cell_or hr.1 h1).1, ?_, fun v hv hb => by rw [hcx v hv, if_pos hb], fun v hv hb hn => ?_⟩
      · rw [inst_congr (x := x) hX (fun v hv hh => ?_)]
        · exact h2
        · rw [hcx v hv]
          cases hb : V.testBit v
          · rfl
          · rw [if_pos rfl, res_eq x2 hv ((hS v hv).mpr ⟨hb, hh⟩)]
      · rw [hcx v hv, hb]
        exact h3 v hv (fun ⟨i, hi, e⟩ => hn i hi e)
    · rintro ⟨h1, h2, h3, h4⟩
      have hxc : ∀ v, v < 4 → cell (res (vbits X) w) v = if (vbits X).testBit v then cell w v else 0 := fun v hv => (res_cell _ w hv).2
      have hxl := (res_cell (vbits X) w (v := 0) (by omega)).1
      have hxU : res (vbits X) w ∈ U := by
        refine (hu _).mpr ⟨hxl, ?_, fun v hv hn => ?_⟩
        · rw [inst_congr (x := w) hX (fun v hv hh => by rw [hxc v hv, if_pos ((vbits_tb hX hv).mpr hh)])]
          exact h2
        · rw [hxc v hv, if_neg (fun z => hn ((vbits_tb hX hv).mp z))]
      refine ⟨res (vbits X) w, List.mem_filter.mpr ⟨hxU, ?_⟩, ?_⟩
      · rw [beq_iff_eq]
        refine row_ext (res_cell _ _ (v := 0) (by omega)).1 (res_cell _ _ (v := 0) (by omega)).1 (fun v hv => ?_)
        rw [(res_cell (V &&& vbits X) (res (vbits X) w) hv).2, (res_cell (V &&& vbits X) r hv).2]
        cases hb : (V &&& vbits X).testBit v
        · rfl
        · obtain ⟨b1, b2⟩ := (hS v hv).mp hb
          rw [if_pos rfl, if_pos rfl, hxc v hv, if_pos ((vbits_tb hX hv).mpr b2)]
          exact h3 v hv b1
      · refine row_ext (cell_or hr.1 hxl).1 h1 (fun v hv => ?_)
        rw [(cell_or hr.1 hxl).2 v hv, hxc v hv]
        cases hb : V.testBit v
        · rw [hr.2.2 v hv hb, Nat.zero_or]
          rcases Classical.em ((vbits X).testBit v = true) with hh | hh
          · rw [if_pos hh]
          · rw [if_neg hh]
            exact (h4 v hv hb (fun i hi e => hh ((vbits_tb hX hv).mpr ⟨i, hi, e⟩))).symm
        · have e := h3 v hv hb
          rcases Classical.em ((vbits X).testBit v = true) with hh | hh
          · rw [if_pos hh, e, Nat.or_self]
          · rw [if_neg hh, Nat.or_zero, e]
