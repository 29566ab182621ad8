/-! PURE SIDE 7: a pattern: X i is the code of its part i: a term (below 100), or 100 more than a variable -/
def toldI (x : Nat) : Int32 := if x < 100 then nI x else (-1 : Int32) - nI (x - 100)
def tg (X : Nat → Nat) (i : Nat) : Bool := decide (X i < 100)
theorem told_neg {x : Nat} (h : 100 ≤ x) (h2 : x < 104) : toldI x < 0 := by
  unfold toldI; rw [if_neg (by omega)]
  rcases (show x - 100 = 0 ∨ x - 100 = 1 ∨ x - 100 = 2 ∨ x - 100 = 3 by omega) with e | e | e | e <;> rw [e] <;> decide
theorem told_pos {x : Nat} (h : x < 100) : toldI x = nI x := by unfold toldI; rw [if_pos h]
theorem told_var {x : Nat} (h : 100 ≤ x) (h2 : x < 104) : (-1 : Int32) - toldI x = nI (x - 100) := by
  unfold toldI; rw [if_neg (by omega)]
  rcases (show x - 100 = 0 ∨ x - 100 = 1 ∨ x - 100 = 2 ∨ x - 100 = 3 by omega) with e | e | e | e <;> rw [e] <;> decide
theorem told_term_neg {x : Nat} (h : x < 100) : (-1 : Int32) - toldI x < 0 := by
  rw [told_pos h]
  exact (by decide +kernel : ∀ x, x < 100 → (-1 : Int32) - nI x < 0) x h
def vbit (x : Nat) : Nat := if x < 100 then 0 else 2 ^ (x - 100)
def vbits (X : Nat → Nat) : Nat := vbit (X 0) ||| vbit (X 1) ||| vbit (X 2)
def okX (X : Nat → Nat) : Prop := ∀ i, i < 3 → X i < 104
def patOK (X : Nat → Nat) (p : PatS) : Prop := okX X ∧ (∀ i, i < 3 → p.told i = toldI (X i)) ∧ p.variableBits = nI (vbits X)
/-- the numbers of its terms have been looked up -/
def numOK (T : List Nat) (X : Nat → Nat) (p : PatS) : Prop := ∀ i, i < 3 → p.numbers i = nI (if X i < 100 then num T (X i) else 0)
-- what is told of a pattern when the variables V have their values in the row r
def td (X : Nat → Nat) (V i : Nat) : Bool := decide (X i < 100) || V.testBit (X i - 100)
def vv (T : List Nat) (X : Nat → Nat) (r i : Nat) : Nat := if X i < 100 then num T (X i) else cell r (X i - 100)
theorem cell_lt (r v : Nat) : cell r v < 64 := Nat.mod_lt _ (by omega)
theorem vv_lt {T : List Nat} (hT : T.length ≤ 40) (X : Nat → Nat) (r i : Nat) : vv T X r i < 64 := by
  unfold vv; split
  · exact num_lt hT _
  · exact cell_lt _ _
theorem vb_lt {X : Nat → Nat} (h : okX X) : vbits X < 16 := by
  have h1 : ∀ x, x < 104 → vbit x < 2 ^ 4 := by
    intro x hx
    unfold vbit
    split
    · decide
    · rcases (show x - 100 = 0 ∨ x - 100 = 1 ∨ x - 100 = 2 ∨ x - 100 = 3 by omega) with e | e | e | e <;> rw [e] <;> decide
  exact Nat.or_lt_two_pow (Nat.or_lt_two_pow (h1 _ (h 0 (by omega))) (h1 _ (h 1 (by omega)))) (h1 _ (h 2 (by omega)))
/-- a field laid at its place -/
def fld (i x : Nat) : Nat := if i = 0 then enc x 0 0 else if i = 1 then enc 0 x 0 else enc 0 0 x
theorem q_fld {i x : Nat} (hi : i < 3) : nI x <<< (nI (6 * (2 - i)) &&& 31) = nI (fld i x) := by
  rw [q_shl x (by omega)]
  congr 1
  unfold fld enc
  rcases (show i = 0 ∨ i = 1 ∨ i = 2 by omega) with rfl | rfl | rfl <;> simp <;> omega
/-- the first i fields of three -/
def upto (i a b c : Nat) : Nat := enc (if 0 < i then a else 0) (if 1 < i then b else 0) (if 2 < i then c else 0)
def pick3 (i a b c : Nat) : Nat := if i = 0 then a else if i = 1 then b else c
theorem upto_or {i a b c : Nat} (hi : i < 3) (hb : b < 64) (hc : c < 64) : nI (upto i a b c) ||| nI (fld i (pick3 i a b c)) = nI (upto (i + 1) a b c) := by
  rw [q_or]
  congr 1
  unfold upto fld pick3
  rcases (show i = 0 ∨ i = 1 ∨ i = 2 by omega) with rfl | rfl | rfl
  · simp [enc]
  · simp only [Nat.lt_irrefl, if_false, Nat.zero_lt_one, if_true, Nat.one_ne_zero, Nat.reduceLT, Nat.reduceAdd]
    rw [enc_or (by omega) (by omega) (by omega) (by omega)]; simp
  · simp only [Nat.lt_irrefl, if_false, if_true, Nat.reduceLT, Nat.reduceAdd, Nat.reduceEqDiff]
    rw [enc_or (by omega) (by omega) (by omega) (by omega)]; simp
theorem upto_skip {i a b c : Nat} (hi : i < 3) (h : pick3 i a b c = 0) : upto i a b c = upto (i + 1) a b c := by
  unfold upto
  unfold pick3 at h
  rcases (show i = 0 ∨ i = 1 ∨ i = 2 by omega) with rfl | rfl | rfl <;> simp at h <;> simp [h]
theorem S_hasBitB {b p : Nat} {post : Int32 → Prop} (hb : b < 2147483648) (hp : p < 32) (h1 : b.testBit p = true → post 1) (h0 : b.testBit p = false → post 0) : P_X7_hasBit (nI b) (nI p) post := by
  refine S_hasBit hb hp ?_
  cases q : b.testBit p
  · exact h0 q
  · exact h1 q
theorem S_maskWith {X : Nat → Nat} {p : PatS} {V : Nat} {post : Int32 → Prop} (hp : patOK X p) (hV : V < 16) (h : post (nI (mk3 (td X V 0) (td X V 1) (td X V 2)))) : P_X2_maskWith p (nI V) post := by
  obtain ⟨hX, ht, -⟩ := hp
  have e3 : mk3 (td X V 0) (td X V 1) (td X V 2) = upto 3 (f63 (td X V 0)) (f63 (td X V 1)) (f63 (td X V 2)) := by simp [upto]
  have pk : ∀ i, i < 3 → pick3 i (f63 (td X V 0)) (f63 (td X V 1)) (f63 (td X V 2)) = f63 (td X V i) := by
    intro i hi
    rcases (show i = 0 ∨ i = 1 ∨ i = 2 by omega) with rfl | rfl | rfl <;> rfl
  rw [e3] at h
  refine wl (fun w => ∃ i, w = (nI (upto i (f63 (td X V 0)) (f63 (td X V 1)) (f63 (td X V 2))), nI i) ∧ i ≤ 3) (fun w => 3 - w.2.toNatClampNeg) ⟨0, by simp [upto, enc]; rfl, by omega⟩ ?_
  rintro v ⟨i, rfl, hi⟩ K hK
  refine ⟨fun c => ?_, fun c => ?_⟩
  · have : 3 ≤ i := (nI_leI (a := 3) (by omega) (by omega)).mp c
    have : i = 3 := by omega
    subst this; exact h
  · have hi3 : i < 3 := by
      rcases Nat.lt_or_ge i 3 with q | q
      · exact q
      · exact absurd (n_le q (by omega)) c
    have nx : f63 (td X V i) = 63 → P_X2_maskWith_j35 p (nI V) (nI (upto i (f63 (td X V 0)) (f63 (td X V 1)) (f63 (td X V 2)))) (nI i) K post := by
      intro e
      refine S_partShift (by omega) ?_
      show K (nI (upto i _ _ _) ||| ((63 : Int32) <<< (nI (6 * (2 - i)) &&& 31)), nI i + (1 : Int32))
      have hf := upto_or (i := i) (a := f63 (td X V 0)) hi3 (f63_lt (td X V 1)) (f63_lt (td X V 2))
      rw [pk i hi3, e] at hf
      rw [show (63 : Int32) = nI 63 from rfl, q_fld hi3, hf, nI_1]
      refine hK _ ⟨i + 1, rfl, by omega⟩ ?_
      show 3 - (nI (i + 1)).toNatClampNeg < 3 - (nI i).toNatClampNeg
      rw [n_cl (by omega), n_cl (by omega)]; omega
    refine S_at hi3 (by omega) ?_
    rw [ht i hi3]
    have hx := hX i hi3
    refine ⟨fun c2 => nx ?_, fun c2 => ?_⟩
    · have hlt : X i < 100 := by
        rcases Nat.lt_or_ge (X i) 100 with q | q
        · exact q
        · have h9 := told_neg q hx
          exact (Int32.lt_irrefl (Int32.lt_of_lt_of_le h9 c2)).elim
      simp [td, hlt, f63]
    · have hge : 100 ≤ X i := by
        rcases Nat.lt_or_ge (X i) 100 with q | q
        · rw [told_pos q] at c2
          exact absurd (nI_pos' (by omega)) c2
        · exact q
      rw [told_var hge hx]
      refine S_hasBitB (by omega) (by omega) (fun hb => ⟨fun d => absurd d (by decide), fun _ => nx ?_⟩) (fun hb => ⟨fun _ => ?_, fun d => absurd rfl d⟩)
      · simp [td, hb, f63]
      · have e : f63 (td X V i) = 0 := by
          have : ¬ X i < 100 := by omega
          simp [td, hb, f63, this]
        rw [nI_1, upto_skip hi3 (by rw [pk i hi3]; exact e)]
        refine hK _ ⟨i + 1, rfl, by omega⟩ ?_
        show 3 - (nI (i + 1)).toNatClampNeg < 3 - (nI i).toNatClampNeg
        rw [n_cl (by omega), n_cl (by omega)]; omega
theorem S_valueWith {T : List Nat} {X : Nat → Nat} {p : PatS} {V r : Nat} {post : Int32 → Prop} (hT : T.length ≤ 40) (hp : patOK X p) (hn : numOK T X p) (hV : V < 16) (hr : r < 2147483648) (h : post (nI (vl3 (td X V 0) (td X V 1) (td X V 2) (vv T X r 0) (vv T X r 1) (vv T X r 2)))) : P_X2_valueWith p (nI V) (nI r) post := by
  obtain ⟨hX, ht, -⟩ := hp
  have e3 : vl3 (td X V 0) (td X V 1) (td X V 2) (vv T X r 0) (vv T X r 1) (vv T X r 2) = upto 3 (fv (td X V 0) (vv T X r 0)) (fv (td X V 1) (vv T X r 1)) (fv (td X V 2) (vv T X r 2)) := by simp [upto]
  have pk : ∀ i, i < 3 → pick3 i (fv (td X V 0) (vv T X r 0)) (fv (td X V 1) (vv T X r 1)) (fv (td X V 2) (vv T X r 2)) = fv (td X V i) (vv T X r i) := by
    intro i hi
    rcases (show i = 0 ∨ i = 1 ∨ i = 2 by omega) with rfl | rfl | rfl <;> rfl
  rw [e3] at h
  refine wl (fun w => ∃ i, w = (nI (upto i (fv (td X V 0) (vv T X r 0)) (fv (td X V 1) (vv T X r 1)) (fv (td X V 2) (vv T X r 2))), nI i) ∧ i ≤ 3) (fun w => 3 - w.2.toNatClampNeg) ⟨0, by simp [upto, enc]; rfl, by omega⟩ ?_
  rintro v ⟨i, rfl, hi⟩ K hK
  refine ⟨fun c => ?_, fun c => ?_⟩
  · have : 3 ≤ i := (nI_leI (a := 3) (by omega) (by omega)).mp c
    have : i = 3 := by omega
    subst this; exact h
  · have hi3 : i < 3 := by
      rcases Nat.lt_or_ge i 3 with q | q
      · exact q
      · exact absurd (n_le q (by omega)) c
    have nx : ∀ x, fv (td X V i) (vv T X r i) = x → K (nI (upto i (fv (td X V 0) (vv T X r 0)) (fv (td X V 1) (vv T X r 1)) (fv (td X V 2) (vv T X r 2))) ||| (nI x <<< (nI (6 * (2 - i)) &&& 31)), nI i + (1 : Int32)) := by
      intro x e
      have hf := upto_or (i := i) (a := fv (td X V 0) (vv T X r 0)) hi3 (fv_lt (td X V 1) (vv_lt hT X r 1)) (fv_lt (td X V 2) (vv_lt hT X r 2))
      rw [pk i hi3, e] at hf
      rw [q_fld hi3, hf, nI_1]
      refine hK _ ⟨i + 1, rfl, by omega⟩ ?_
      show 3 - (nI (i + 1)).toNatClampNeg < 3 - (nI i).toNatClampNeg
      rw [n_cl (by omega), n_cl (by omega)]; omega
    refine S_at hi3 (by omega) ?_
    rw [ht i hi3]
    have hx := hX i hi3
    refine ⟨fun c2 => ?_, fun c2 => ?_⟩
    · have hge : 100 ≤ X i := by
        rcases Nat.lt_or_ge (X i) 100 with q | q
        · rw [told_pos q] at c2
          exact absurd c2 (nI_pos (by omega))
        · exact q
      rw [told_var hge hx]
      have hnl : ¬ X i < 100 := by omega
      refine S_hasBitB (by omega) (by omega) (fun hb => ⟨fun d => absurd d (by decide), fun _ => S_cellOf hr (by omega) (S_partShift (by omega) ?_)⟩) (fun hb => ⟨fun _ => ?_, fun d => absurd rfl d⟩)
      · exact nx _ (by simp [td, hb, fv, vv, hnl])
      · have e : fv (td X V i) (vv T X r i) = 0 := by simp [td, hb, fv, hnl]
        rw [nI_1, upto_skip hi3 (by rw [pk i hi3]; exact e)]
        refine hK _ ⟨i + 1, rfl, by omega⟩ ?_
        show 3 - (nI (i + 1)).toNatClampNeg < 3 - (nI i).toNatClampNeg
        rw [n_cl (by omega), n_cl (by omega)]; omega
    · have hlt : X i < 100 := by
        rcases Nat.lt_or_ge (X i) 100 with q | q
        · exact q
        · exact absurd (told_neg q hx) c2
      refine S_at hi3 (by omega) ?_
      rw [hn i hi3, if_pos hlt]
      refine S_partShift (by omega) ?_
      exact nx _ (by simp [td, hlt, fv, vv])
