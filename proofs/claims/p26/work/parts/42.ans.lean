/-! PURE SIDE 13: answers -/
/-- v is a variable of X -/
def hasV (X : Pt3) (v : Nat) : Prop := ∃ i, i < 3 ∧ X i = 100 + v
def Ans (T M : List Nat) (ps : List Pt3) (w : Nat) : Prop := w < 16777216 ∧ (∀ X ∈ ps, inst T X w ∈ M) ∧ ∀ v, v < 4 → (∀ X ∈ ps, ¬ hasV X v) → cell w v = 0
/-- V is the set of the variables of ps -/
def isV (V : Nat) (ps : List Pt3) : Prop := V < 16 ∧ ∀ v, v < 4 → (V.testBit v = true ↔ ∃ X ∈ ps, hasV X v)
theorem vbit_tb {x v : Nat} (hx : x < 104) (hv : v < 4) : (vbit x).testBit v = true ↔ x = 100 + v := by
  unfold vbit
  split
  · simp; omega
  · rw [Nat.testBit_two_pow]
    simp; omega
theorem vbits_tb {X : Pt3} (hX : okX X) {v : Nat} (hv : v < 4) : (vbits X).testBit v = true ↔ hasV X v := by
  unfold vbits hasV
  rw [Nat.testBit_or, Nat.testBit_or, Bool.or_eq_true, Bool.or_eq_true, vbit_tb (hX 0 (by omega)) hv, vbit_tb (hX 1 (by omega)) hv, vbit_tb (hX 2 (by omega)) hv]
  constructor
  · rintro ((h | h) | h)
    · exact ⟨0, by omega, h⟩
    · exact ⟨1, by omega, h⟩
    · exact ⟨2, by omega, h⟩
  · rintro ⟨i, hi, h⟩
    rcases (show i = 0 ∨ i = 1 ∨ i = 2 by omega) with rfl | rfl | rfl
    · exact Or.inl (Or.inl h)
    · exact Or.inl (Or.inr h)
    · exact Or.inr h
theorem isV_nil : isV 0 [] := ⟨by omega, fun v _ => ⟨fun h => by simp at h, fun ⟨X, hX, _⟩ => by cases hX⟩⟩
theorem isV_cons {V : Nat} {ps : List Pt3} {X : Pt3} (h : isV V ps) (hX : okX X) : isV (V ||| vbits X) (X :: ps) := by
  refine ⟨Nat.or_lt_two_pow (n := 4) h.1 (vb_lt hX), fun v hv => ?_⟩
  rw [Nat.testBit_or, Bool.or_eq_true, h.2 v hv, vbits_tb hX hv]
  constructor
  · rintro (⟨Y, hY, h1⟩ | h1)
    · exact ⟨Y, List.mem_cons_of_mem _ hY, h1⟩
    · exact ⟨X, List.mem_cons_self, h1⟩
  · rintro ⟨Y, hY, h1⟩
    rcases List.mem_cons.mp hY with rfl | hY
    · exact Or.inr h1
    · exact Or.inl ⟨Y, hY, h1⟩
theorem Ans_row {T M : List Nat} {ps : List Pt3} {V w : Nat} (hV : isV V ps) (h : Ans T M ps w) : rowOK V w := by
  refine ⟨h.1, hV.1, fun v hv hb => h.2.2 v hv (fun X hX hx => ?_)⟩
  have := (hV.2 v hv).mpr ⟨X, hX, hx⟩
  rw [hb] at this; cases this
/-- a row cut down to the variables V -/
def res (V w : Nat) : Nat := (if V.testBit 0 then cell w 0 * 262144 else 0) + (if V.testBit 1 then cell w 1 * 4096 else 0) + (if V.testBit 2 then cell w 2 * 64 else 0) + (if V.testBit 3 then cell w 3 else 0)
theorem res_cell (V w : Nat) {v : Nat} (hv : v < 4) : res V w < 16777216 ∧ cell (res V w) v = if V.testBit v then cell w v else 0 := by
  have h0 := cell_lt w 0
  have h1 := cell_lt w 1
  have h2 := cell_lt w 2
  have h3 := cell_lt w 3
  have hb : res V w < 16777216 := by
    unfold res
    split <;> split <;> split <;> split <;> omega
  refine ⟨hb, ?_⟩
  obtain ⟨a0, a1, a2, a3⟩ := cell_v hb
  have hr : res V w = (if V.testBit 0 then cell w 0 else 0) * 262144 + (if V.testBit 1 then cell w 1 else 0) * 4096 + (if V.testBit 2 then cell w 2 else 0) * 64 + (if V.testBit 3 then cell w 3 else 0) := by
    unfold res
    split <;> split <;> split <;> split <;> omega
  have g0 : (if V.testBit 0 then cell w 0 else 0) < 64 := by split <;> omega
  have g1 : (if V.testBit 1 then cell w 1 else 0) < 64 := by split <;> omega
  have g2 : (if V.testBit 2 then cell w 2 else 0) < 64 := by split <;> omega
  have g3 : (if V.testBit 3 then cell w 3 else 0) < 64 := by split <;> omega
  rcases (show v = 0 ∨ v = 1 ∨ v = 2 ∨ v = 3 by omega) with rfl | rfl | rfl | rfl
  · rw [a0, hr]; omega
  · rw [a1, hr]; omega
  · rw [a2, hr]; omega
  · rw [a3, hr]; omega
/-- a pattern's triple depends on the cells of its variables alone -/
theorem inst_congr {T : List Nat} {X : Pt3} (hX : okX X) {w x : Nat} (h : ∀ v, v < 4 → hasV X v → cell w v = cell x v) : inst T X w = inst T X x := by
  have g : ∀ i, i < 3 → vv T X w i = vv T X x i := by
    intro i hi
    unfold vv
    by_cases q : X i < 100
    · rw [if_pos q, if_pos q]
    · rw [if_neg q, if_neg q]
      have := hX i hi
      exact h _ (by omega) ⟨i, hi, by omega⟩
  unfold inst
  rw [g 0 (by omega), g 1 (by omega), g 2 (by omega)]
theorem nodup_flatMap {f : Nat → List Nat} : ∀ {l : List Nat} (_ : l.Nodup) (_ : ∀ a ∈ l, (f a).Nodup) (_ : ∀ a b c, a ∈ l → b ∈ l → c ∈ f a → c ∈ f b → a = b), (l.flatMap f).Nodup
  | [], _, _, _ => by simp
  | a :: l, h, h1, h2 => by
    obtain ⟨g1, g2⟩ := List.nodup_cons.mp h
    rw [List.flatMap_cons, List.nodup_append]
    refine ⟨h1 a List.mem_cons_self, nodup_flatMap g2 (fun x hx => h1 x (List.mem_cons_of_mem _ hx)) (fun x y c hx hy => h2 x y c (List.mem_cons_of_mem _ hx) (List.mem_cons_of_mem _ hy)), ?_⟩
    intro c hc d hd e
    subst e
    obtain ⟨x, hx, hx2⟩ := List.mem_flatMap.mp hd
    have := h2 a x c List.mem_cons_self (List.mem_cons_of_mem _ hx) hc hx2
    subst this; exact g1 hx
/-- rows that are just the answers of ps -/
def rowsOf (T M : List Nat) (ps : List Pt3) (R : List Nat) : Prop := R.Nodup ∧ ∀ w, w ∈ R ↔ Ans T M ps w
theorem rows_nil (T M : List Nat) : rowsOf T M [] [0] := by
  refine ⟨by simp, fun w => ?_⟩
  rw [List.mem_singleton]
  constructor
  · rintro rfl
    exact ⟨by omega, fun X hX => (by cases hX), fun v _ _ => by unfold cell; simp⟩
  · intro h
    refine row_ext h.1 (by omega) (fun v hv => ?_)
    rw [h.2.2 v hv (fun X hX => by cases hX)]
    unfold cell; simp
theorem rows_perm {T M : List Nat} {ps : List Pt3} {R R' : List Nat} (h : rowsOf T M ps R) (hp : R'.Perm R) : rowsOf T M ps R' :=
  ⟨hp.symm.nodup h.1, fun w => hp.mem_iff.trans (h.2 w)⟩
/-- one more pattern -/
theorem rows_step {T M : List Nat} {ps : List Pt3} {R : List Nat} {X : Pt3} {V : Nat} (hT : T.length ≤ 40) (hM : ∀ t ∈ M, t < 262144) (hN : M.Nodup) (hX : okX X) (hps : ∀ Y ∈ ps, okX Y) (hV : isV V ps) (h : rowsOf T M ps R) : rowsOf T M (X :: ps) (R.flatMap (cand T M X V)) := by
  have row : ∀ r ∈ R, rowOK V r := fun r hr => Ans_row hV ((h.2 r).mp hr)
  constructor
  · refine nodup_flatMap h.1 (fun r hr => cand_nodup hM hN hX (row r hr)) (fun a b c ha hb h1 h2 => ?_)
    obtain ⟨-, -, g1, -⟩ := (cand_mem hT hM hX (row a ha)).mp h1
    obtain ⟨-, -, g2, -⟩ := (cand_mem hT hM hX (row b hb)).mp h2
    refine row_ext (row a ha).1 (row b hb).1 (fun v hv => ?_)
    cases hz : V.testBit v
    · rw [(row a ha).2.2 v hv hz, (row b hb).2.2 v hv hz]
    · rw [← g1 v hv hz, ← g2 v hv hz]
  · intro w
    rw [List.mem_flatMap]
    constructor
    · rintro ⟨r, hr, hw⟩
      obtain ⟨g1, g2, g3, g4⟩ := (cand_mem hT hM hX (row r hr)).mp hw
      have har := (h.2 r).mp hr
      refine ⟨g1, fun Y hY => ?_, fun v hv hno => ?_⟩
      · rcases List.mem_cons.mp hY with rfl | hY
        · exact g2
        · rw [inst_congr (hps Y hY) (fun v hv hx => g3 v hv ((hV.2 v hv).mpr ⟨Y, hY, hx⟩))]
          exact har.2.1 Y hY
      · have hz : V.testBit v = false := by
          cases hz : V.testBit v
          · rfl
          · obtain ⟨Y, hY, hx⟩ := (hV.2 v hv).mp hz
            exact absurd hx (hno Y (List.mem_cons_of_mem _ hY))
        exact g4 v hv hz (fun i hi e => hno X List.mem_cons_self ⟨i, hi, e⟩)
    · rintro ⟨g1, g2, g3⟩
      have hres : ∀ v, v < 4 → cell (res V w) v = if V.testBit v then cell w v else 0 := fun v hv => (res_cell V w hv).2
      have har : Ans T M ps (res V w) := by
        refine ⟨(res_cell V w (v := 0) (by omega)).1, fun Y hY => ?_, fun v hv hno => ?_⟩
        · rw [inst_congr (x := w) (hps Y hY) (fun v hv hx => by rw [hres v hv, if_pos ((hV.2 v hv).mpr ⟨Y, hY, hx⟩)])]
          exact g2 Y (List.mem_cons_of_mem _ hY)
        · rw [hres v hv]
          have hz : ¬ V.testBit v = true := by
            intro hz
            obtain ⟨Y, hY, hx⟩ := (hV.2 v hv).mp hz
            exact hno Y hY hx
          rw [if_neg hz]
      refine ⟨res V w, (h.2 _).mpr har, (cand_mem hT hM hX (Ans_row hV har)).mpr ⟨g1, g2 X List.mem_cons_self, fun v hv hz => by rw [hres v hv, if_pos hz], fun v hv hz hno => g3 v hv (fun Y hY hx => ?_)⟩⟩
      rcases List.mem_cons.mp hY with rfl | hY
      · obtain ⟨i, hi, e⟩ := hx
        exact hno i hi e
      · have := (hV.2 v hv).mpr ⟨Y, hY, hx⟩
        rw [hz] at this; cases this
theorem Ans_perm {T M : List Nat} {ps ps' : List Pt3} (hp : ∀ X, X ∈ ps ↔ X ∈ ps') {w : Nat} : Ans T M ps w ↔ Ans T M ps' w := by
  unfold Ans
  constructor
  · rintro ⟨h1, h2, h3⟩
    exact ⟨h1, fun X hX => h2 X ((hp X).mpr hX), fun v hv h => h3 v hv (fun X hX => h X ((hp X).mp hX))⟩
  · rintro ⟨h1, h2, h3⟩
    exact ⟨h1, fun X hX => h2 X ((hp X).mp hX), fun v hv h => h3 v hv (fun X hX => h X ((hp X).mpr hX))⟩
theorem cand_len {T M : List Nat} {X : Pt3} {V r : Nat} (hM : M.length ≤ 60) : (cand T M X V r).length ≤ 60 := by
  unfold cand
  have a1 := List.length_filterMap_le (wid X V r) (M.filter (matX T X V r))
  have a2 := List.length_filter_le (matX T X V r) M
  omega
theorem flat_len {f : Nat → List Nat} {c : Nat} (h : ∀ r, (f r).length ≤ c) : ∀ l : List Nat, (l.flatMap f).length ≤ l.length * c
  | [] => by simp
  | a :: l => by
    rw [List.flatMap_cons, List.length_append, List.length_cons, Nat.succ_mul]
    have := flat_len h l
    have := h a
    omega
/-- what a way of answering leaves: all answers, or (over) more than 2000 of them -/
def OUT (T M : List Nat) (ps : List Pt3) (R : List Nat) (ov : Bool) : Prop := (ov = false → rowsOf T M ps R) ∧ (ov = true → ∃ A : List Nat, A.Nodup ∧ (∀ w ∈ A, Ans T M ps w) ∧ 2000 < A.length)
