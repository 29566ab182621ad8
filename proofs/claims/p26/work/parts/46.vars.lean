/-! PURE SIDE 17: going by variables: bits of a long, what is compatible -/
def bt (a : Int64) (n : Nat) : Bool := a.toBitVec.getLsbD n
theorem q_sl64 : ∀ n, n < 64 → (((nI n).toInt64 &&& 63).toBitVec.smod 64).toNat = n := by decide +kernel
theorem bt_and (a b : Int64) (n : Nat) : bt (a &&& b) n = (bt a n && bt b n) := by
  unfold bt
  rw [Int64.toBitVec_and, BitVec.getLsbD_and]
theorem bt_or (a b : Int64) (n : Nat) : bt (a ||| b) n = (bt a n || bt b n) := by
  unfold bt
  rw [Int64.toBitVec_or, BitVec.getLsbD_or]
theorem bt_all : ∀ n, n < 64 → bt (-1 : Int64) n = true := by decide +kernel
theorem bt_0 (n : Nat) : bt (0 : Int64) n = false := by
  unfold bt
  rw [show (0 : Int64).toBitVec = 0#64 from rfl, BitVec.getLsbD_zero]
theorem bt_one {c n : Nat} (hc : c < 64) (hn : n < 64) : bt ((1 : Int64) <<< ((nI c).toInt64 &&& 63)) n = decide (n = c) := by
  unfold bt
  rw [Int64.toBitVec_shiftLeft]
  show ((1 : Int64).toBitVec <<< (((nI c).toInt64 &&& 63).toBitVec.smod 64).toNat).getLsbD n = _
  rw [q_sl64 c hc, BitVec.getLsbD_shiftLeft, show (1 : Int64).toBitVec = 1#64 from rfl, BitVec.getLsbD_one]
  rcases (show n < c ∨ n = c ∨ c < n by omega) with h | h | h
  · simp [h, show n ≠ c by omega]
  · subst h; simp [hn]
  · have : ¬ n - c = 0 := by omega
    simp [this, show n ≠ c by omega]
theorem bt_get {a : Int64} {n : Nat} (hn : n < 64) : (lg_cmp ((a >>> ((nI n).toInt64 &&& 63)) &&& (1 : Int64)) (0 : Int64) = 0) ↔ bt a n = false := by
  have e : ((a >>> ((nI n).toInt64 &&& 63)) &&& (1 : Int64)) = if bt a n then 1 else 0 := by
    apply Int64.toBitVec_inj.1
    rw [Int64.toBitVec_and, Int64.toBitVec_shiftRight]
    show (a.toBitVec.sshiftRight (((nI n).toInt64 &&& 63).toBitVec.smod 64).toNat) &&& 1#64 = _
    rw [q_sl64 n hn]
    apply BitVec.eq_of_getLsbD_eq
    intro i hi
    rw [BitVec.getLsbD_and, BitVec.getLsbD_one, BitVec.getLsbD_sshiftRight]
    rcases Nat.eq_zero_or_pos i with z | z
    · subst z
      have h1 : ¬ 64 ≤ 0 := by omega
      unfold bt
      cases hb : a.toBitVec.getLsbD n <;> simp [hn, hb]
    · have h0 : ¬ i = 0 := by omega
      unfold bt
      cases hb : a.toBitVec.getLsbD n
      · simp [h0]
      · simp only [h0, decide_false, Bool.and_false, if_true]
        show false = (1#64).getLsbD i
        rw [BitVec.getLsbD_one]; simp [h0]
  rw [e]
  cases bt a n
  · exact ⟨fun _ => rfl, fun _ => by decide +kernel⟩
  · exact ⟨fun h => absurd h (by decide +kernel), fun h => by cases h⟩
/-- a row over V is compatible with a triple of the pattern -/
def cmp (T M : List Nat) (X : Pt3) (V w : Nat) : Prop := ∃ x, x < 16777216 ∧ inst T X x ∈ M ∧ ∀ v, v < 4 → V.testBit v = true → hasV X v → cell x v = cell w v
/-- a row by its cells -/
theorem row_of (f : Nat → Nat) (h : ∀ v, v < 4 → f v < 64) : ∃ w, w < 16777216 ∧ ∀ v, v < 4 → cell w v = f v := by
  obtain ⟨g, g0, g1, g2, g3⟩ := quad_cell (h 0 (by omega)) (h 1 (by omega)) (h 2 (by omega)) (h 3 (by omega))
  refine ⟨_, g, fun v hv => ?_⟩
  rcases (show v = 0 ∨ v = 1 ∨ v = 2 ∨ v = 3 by omega) with rfl | rfl | rfl | rfl
  · exact g0
  · exact g1
  · exact g2
  · exact g3
/-- the compatible triple, as a row of the pattern on w -/
theorem cmp_ext {T M : List Nat} {X : Pt3} {V w x : Nat} (hT : T.length ≤ 40) (hM : ∀ t ∈ M, t < 262144) (hX : okX X) (hw : rowOK V w) (hx2 : inst T X x ∈ M) (hx3 : ∀ v, v < 4 → V.testBit v = true → hasV X v → cell x v = cell w v) : ∃ y, y ∈ cand T M X V w ∧ (∀ v, v < 4 → V.testBit v = true → cell y v = cell w v) ∧ ∀ v, v < 4 → hasV X v → cell y v = cell x v := by
  have key : ∀ v, v < 4 → (if V.testBit v then cell w v else if (vbits X).testBit v then cell x v else 0) < 64 := by
    intro v _
    split
    · exact cell_lt w v
    · split
      · exact cell_lt x v
      · omega
  obtain ⟨y, hy, hyc⟩ := row_of _ key
  have h1 : ∀ v, v < 4 → V.testBit v = true → cell y v = cell w v := fun v hv hb => by rw [hyc v hv, if_pos hb]
  have h2 : ∀ v, v < 4 → hasV X v → cell y v = cell x v := by
    intro v hv hh
    rw [hyc v hv]
    cases hb : V.testBit v
    · rw [if_neg (by decide), if_pos ((vbits_tb hX hv).mpr hh)]
    · rw [if_pos rfl]; exact (hx3 v hv hb hh).symm
  refine ⟨y, (cand_mem hT hM hX hw).mpr ⟨hy, ?_, h1, fun v hv hb hn => ?_⟩, h1, h2⟩
  · rw [inst_congr (x := x) hX h2]; exact hx2
  · rw [hyc v hv, if_neg (by rw [hb]; decide), if_neg (fun z => ?_)]
    obtain ⟨i, hi, e⟩ := (vbits_tb hX hv).mp z
    exact hn i hi e
theorem cmp_iff {T M : List Nat} {X : Pt3} {V w : Nat} (hT : T.length ≤ 40) (hM : ∀ t ∈ M, t < 262144) (hX : okX X) (hw : rowOK V w) : cmp T M X V w ↔ ∃ y, y ∈ cand T M X V w := by
  constructor
  · rintro ⟨x, h1, h2, h3⟩
    obtain ⟨y, hy, -⟩ := cmp_ext hT hM hX hw h2 h3
    exact ⟨y, hy⟩
  · rintro ⟨y, hy⟩
    obtain ⟨h1, h2, h3, -⟩ := (cand_mem hT hM hX hw).mp hy
    exact ⟨y, h1, h2, fun v hv hb _ => h3 v hv hb⟩
/-- the row w with n for v -/
def wth (w v n : Nat) : Nat := w + n * 64 ^ (3 - v)
theorem wth_cell {V w v n : Nat} (hw : rowOK V w) (hv : v < 4) (hb : V.testBit v = false) (hn : n < 64) : wth w v n < 16777216 ∧ ∀ u, u < 4 → cell (wth w v n) u = if u = v then n else cell w u := by
  have h0 := hw.2.2 v hv hb
  exact ⟨(cell_add hw.1 hv hv hn h0).1, fun u hu => (cell_add hw.1 hv hu hn h0).2⟩
theorem wth_row {V w v n : Nat} (hw : rowOK V w) (hv : v < 4) (hb : V.testBit v = false) (hn : n < 64) : rowOK (V ||| 2 ^ v) (wth w v n) := by
  obtain ⟨h1, h2⟩ := wth_cell hw hv hb hn
  refine ⟨h1, or_lt16 hw.2.1 hv, fun u hu hb2 => ?_⟩
  rw [tb_or, Bool.or_eq_false_iff, decide_eq_false_iff_not] at hb2
  rw [h2 u hu, if_neg (fun e => hb2.2 e.symm)]
  exact hw.2.2 u hu hb2.1
/-- one more variable: a pattern that has it, one that hasn't -/
theorem cmp_has {T M : List Nat} {X : Pt3} {V w v n : Nat} (hT : T.length ≤ 40) (hM : ∀ t ∈ M, t < 262144) (hX : okX X) (hw : rowOK V w) (hv : v < 4) (hb : V.testBit v = false) (hn : n < 64) (hh : hasV X v) : cmp T M X (V ||| 2 ^ v) (wth w v n) ↔ ∃ y, y ∈ cand T M X V w ∧ cell y v = n := by
  obtain ⟨h1, h2⟩ := wth_cell hw hv hb hn
  constructor
  · rintro ⟨x, x1, x2, x3⟩
    have g : ∀ u, u < 4 → V.testBit u = true → hasV X u → cell x u = cell w u := by
      intro u hu hub huh
      rw [x3 u hu (by rw [tb_or, hub]; rfl) huh, h2 u hu, if_neg (fun e => by subst e; rw [hb] at hub; cases hub)]
    obtain ⟨y, hy, -, hy3⟩ := cmp_ext hT hM hX hw x2 g
    refine ⟨y, hy, ?_⟩
    rw [hy3 v hv hh, x3 v hv (by rw [tb_or]; simp) hh, h2 v hv, if_pos rfl]
  · rintro ⟨y, hy, e⟩
    obtain ⟨y1, y2, y3, -⟩ := (cand_mem hT hM hX hw).mp hy
    refine ⟨y, y1, y2, fun u hu hub _ => ?_⟩
    rw [h2 u hu]
    by_cases q : u = v
    · subst q; rw [if_pos rfl]; exact e
    · rw [if_neg q]
      rw [tb_or, Bool.or_eq_true, decide_eq_true_iff] at hub
      exact y3 u hu (hub.resolve_right (fun z => q z.symm))
theorem cmp_hasnt {T M : List Nat} {X : Pt3} {V w v n : Nat} (hw : rowOK V w) (hv : v < 4) (hb : V.testBit v = false) (hn : n < 64) (hh : ¬ hasV X v) : cmp T M X (V ||| 2 ^ v) (wth w v n) ↔ cmp T M X V w := by
  obtain ⟨h1, h2⟩ := wth_cell hw hv hb hn
  constructor
  · rintro ⟨x, x1, x2, x3⟩
    refine ⟨x, x1, x2, fun u hu hub huh => ?_⟩
    rw [x3 u hu (by rw [tb_or, hub]; rfl) huh, h2 u hu, if_neg (fun e => by subst e; exact hh huh)]
  · rintro ⟨x, x1, x2, x3⟩
    refine ⟨x, x1, x2, fun u hu hub huh => ?_⟩
    have q : u ≠ v := fun e => by subst e; exact hh huh
    rw [tb_or, Bool.or_eq_true, decide_eq_true_iff] at hub
    rw [h2 u hu, if_neg q]
    exact x3 u hu (hub.resolve_right (fun z => q z.symm)) huh
/-- the rows over V that each pattern has a triple for -/
def rowsV (T M : List Nat) (Q : List Pt3) (V : Nat) (R : List Nat) : Prop := R.Nodup ∧ ∀ w, w ∈ R ↔ rowOK V w ∧ ∀ X ∈ Q, cmp T M X V w
/-- the numbers that the variable v may have in the row w -/
def may (T M : List Nat) (Q : List Pt3) (V w v n : Nat) : Prop := ∀ X ∈ Q, hasV X v → ∃ y, y ∈ cand T M X V w ∧ cell y v = n
def exts (al : Nat → Bool) (w v : Nat) (n : Nat) : List Nat := ((List.range n).filter al).map (wth w v)
theorem exts_mem {al : Nat → Bool} {w v n x : Nat} : x ∈ exts al w v n ↔ ∃ k, k < n ∧ al k = true ∧ x = wth w v k := by
  unfold exts
  rw [List.mem_map]
  constructor
  · rintro ⟨k, hk, rfl⟩
    obtain ⟨h1, h2⟩ := List.mem_filter.mp hk
    exact ⟨k, List.mem_range.mp h1, h2, rfl⟩
  · rintro ⟨k, h1, h2, rfl⟩
    exact ⟨k, List.mem_filter.mpr ⟨List.mem_range.mpr h1, h2⟩, rfl⟩
/-- the parts of all triples are numbers of terms -/
def partsOK (T M : List Nat) : Prop := ∀ t ∈ M, ∀ p, p < 3 → part t p < T.length
theorem cell_40 {T M : List Nat} {X : Pt3} {V w y v : Nat} (hT : T.length ≤ 40) (hM : ∀ t ∈ M, t < 262144) (hP : partsOK T M) (hX : okX X) (hw : rowOK V w) (hh : hasV X v) (hy : y ∈ cand T M X V w) : cell y v < T.length := by
  obtain ⟨i, hi, e⟩ := hh
  obtain ⟨-, y2, -⟩ := (cand_mem hT hM hX hw).mp hy
  have h := hP _ y2 i hi
  rw [part_inst hT X y hi] at h
  unfold vv at h
  rw [if_neg (by omega), show X i - 100 = v by omega] at h
  exact h
/-- one more variable -/
theorem rowsV_step {T M : List Nat} {Q : List Pt3} {V v : Nat} {R : List Nat} (hT : T.length ≤ 40) (hM : ∀ t ∈ M, t < 262144) (hP : partsOK T M) (hQ : ∀ X ∈ Q, okX X) (hv : v < 4) (hb : V.testBit v = false) (hin : ∃ X ∈ Q, hasV X v) (h : rowsV T M Q V R) {al : Nat → Nat → Bool} (hal : ∀ w ∈ R, ∀ n, n < 64 → (al w n = true ↔ may T M Q V w v n)) : rowsV T M Q (V ||| 2 ^ v) (R.flatMap (fun w => exts (al w) w v 40)) := by
  constructor
  · refine nodup_flatMap h.1 (fun w hw => ?_) (fun a b c ha hb2 h1 h2 => ?_)
    · have hr := ((h.2 w).mp hw).1
      unfold exts
      refine List.pairwise_map.mpr (List.Pairwise.imp_of_mem (fun {x y} hx hy hne e => hne ?_) (List.nodup_range.sublist List.filter_sublist))
      have hx := List.mem_range.mp (List.mem_filter.mp hx).1
      have hy := List.mem_range.mp (List.mem_filter.mp hy).1
      have e1 := (wth_cell hr hv hb (n := x) (by omega)).2 v hv
      have e2 := (wth_cell hr hv hb (n := y) (by omega)).2 v hv
      rw [if_pos rfl] at e1 e2
      rw [← e1, ← e2, e]
    · obtain ⟨k, hk, -, e1⟩ := exts_mem.mp h1
      obtain ⟨l, hl, -, e2⟩ := exts_mem.mp h2
      have ra := ((h.2 a).mp ha).1
      have rb := ((h.2 b).mp hb2).1
      have ea := wth_cell ra hv hb (n := k) (by omega)
      have eb := wth_cell rb hv hb (n := l) (by omega)
      refine row_ext ra.1 rb.1 (fun u hu => ?_)
      by_cases q : u = v
      · subst q; rw [ra.2.2 u hv hb, rb.2.2 u hv hb]
      · have f1 := ea.2 u hu
        have f2 := eb.2 u hu
        rw [if_neg q] at f1 f2
        rw [← f1, ← f2, ← e1, ← e2]
  · intro w
    rw [List.mem_flatMap]
    constructor
    · rintro ⟨r, hr, hw⟩
      obtain ⟨k, hk, hbk, rfl⟩ := exts_mem.mp hw
      obtain ⟨g1, g2⟩ := (h.2 r).mp hr
      have hm := (hal r hr k (by omega)).mp hbk
      refine ⟨wth_row g1 hv hb (by omega), fun X hX => ?_⟩
      rcases Classical.em (hasV X v) with hh | hh
      · exact (cmp_has hT hM (hQ X hX) g1 hv hb (by omega) hh).mpr (hm X hX hh)
      · exact (cmp_hasnt g1 hv hb (by omega) hh).mpr (g2 X hX)
    · rintro ⟨g1, g2⟩
      have hc : ∀ u, u < 4 → (if u = v then 0 else cell w u) < 64 := by
        intro u _
        split
        · omega
        · exact cell_lt w u
      obtain ⟨r, hr, hrc⟩ := row_of _ hc
      have hrow : rowOK V r := by
        refine ⟨hr, ?_, fun u hu hub => ?_⟩
        · have := g1.2.1
          exact Nat.lt_of_le_of_lt Nat.left_le_or this
        · rw [hrc u hu]
          by_cases q : u = v
          · rw [if_pos q]
          · rw [if_neg q]
            exact g1.2.2 u hu (by rw [tb_or, hub]; simp; omega)
      have hcw := cell_lt w v
      have hwe : w = wth r v (cell w v) := by
        obtain ⟨k1, k2⟩ := wth_cell hrow hv hb hcw
        refine row_ext g1.1 k1 (fun u hu => ?_)
        rw [k2 u hu]
        by_cases q : u = v
        · rw [if_pos q, q]
        · rw [if_neg q, hrc u hu, if_neg q]
      have hmay : may T M Q V r v (cell w v) := by
        intro X hX hh
        refine (cmp_has hT hM (hQ X hX) hrow hv hb hcw hh).mp ?_
        rw [← hwe]; exact g2 X hX
      have hrR : r ∈ R := by
        refine (h.2 r).mpr ⟨hrow, fun X hX => ?_⟩
        rcases Classical.em (hasV X v) with hh | hh
        · obtain ⟨y, hy, -⟩ := hmay X hX hh
          exact (cmp_iff hT hM (hQ X hX) hrow).mpr ⟨y, hy⟩
        · have := g2 X hX
          rw [hwe] at this
          exact (cmp_hasnt hrow hv hb hcw hh).mp this
      refine ⟨r, hrR, exts_mem.mpr ⟨cell w v, ?_, (hal r hrR _ (by omega)).mpr hmay, hwe⟩⟩
      obtain ⟨X, hX, hh⟩ := hin
      obtain ⟨y, hy, e⟩ := hmay X hX hh
      have := cell_40 hT hM hP (hQ X hX) hrow hh hy
      omega
