/-! PURE SIDE 8: a row widened by a triple -/
theorem cell_v {w : Nat} (hw : w < 16777216) : cell w 0 = w / 262144 ∧ cell w 1 = w / 4096 % 64 ∧ cell w 2 = w / 64 % 64 ∧ cell w 3 = w % 64 := by
  unfold cell
  simp only [Nat.reduceSub, Nat.reducePow, Nat.div_one, and_true, true_and]
  omega
theorem cell_add {w n v u : Nat} (hw : w < 16777216) (hv : v < 4) (hu : u < 4) (hn : n < 64) (h0 : cell w v = 0) : w + n * 64 ^ (3 - v) < 16777216 ∧ cell (w + n * 64 ^ (3 - v)) u = if u = v then n else cell w u := by
  obtain ⟨a0, a1, a2, a3⟩ := cell_v hw
  have hb : w + n * 64 ^ (3 - v) < 16777216 := by
    rcases (show v = 0 ∨ v = 1 ∨ v = 2 ∨ v = 3 by omega) with rfl | rfl | rfl | rfl <;> simp only [Nat.reduceSub, Nat.reducePow] <;> omega
  refine ⟨hb, ?_⟩
  obtain ⟨b0, b1, b2, b3⟩ := cell_v hb
  rcases (show v = 0 ∨ v = 1 ∨ v = 2 ∨ v = 3 by omega) with rfl | rfl | rfl | rfl <;> rcases (show u = 0 ∨ u = 1 ∨ u = 2 ∨ u = 3 by omega) with rfl | rfl | rfl | rfl <;> simp only [Nat.reduceSub, Nat.reducePow, Nat.reduceEqDiff, if_true, if_false] at b0 b1 b2 b3 ⊢ <;> omega
theorem row_ext {w x : Nat} (hw : w < 16777216) (hx : x < 16777216) (h : ∀ v, v < 4 → cell w v = cell x v) : w = x := by
  obtain ⟨a0, a1, a2, a3⟩ := cell_v hw
  obtain ⟨b0, b1, b2, b3⟩ := cell_v hx
  have h0 := h 0 (by omega)
  have h1 := h 1 (by omega)
  have h2 := h 2 (by omega)
  have h3 := h 3 (by omega)
  omega
theorem q_row {w n v : Nat} (hv : v < 4) (hn : n < 64) (h0 : cell w v = 0) : nI w ||| (nI n <<< (nI (6 * (3 - v)) &&& 31)) = nI (w + n * 64 ^ (3 - v)) := by
  rw [q_shl n (by omega), q_or, q_pw]
  congr 1
  have h1 : w = 2 ^ (6 * (3 - v)) * (2 ^ 6 * (w / 2 ^ (6 * (3 - v)) / 64)) + w % 2 ^ (6 * (3 - v)) := by
    have a := Nat.div_add_mod w (2 ^ (6 * (3 - v)))
    have b := Nat.div_add_mod (w / 2 ^ (6 * (3 - v))) 64
    unfold cell at h0
    rw [q_pw] at h0
    rw [h0, Nat.add_zero] at b
    rw [show (2 : Nat) ^ 6 = 64 from rfl, b, a]
  have hlt : w % 2 ^ (6 * (3 - v)) < 2 ^ (6 * (3 - v)) := Nat.mod_lt _ (Nat.two_pow_pos _)
  generalize w % 2 ^ (6 * (3 - v)) = lo at *
  generalize w / 2 ^ (6 * (3 - v)) / 64 = hi at *
  have h2 : n * 2 ^ (6 * (3 - v)) = 2 ^ (6 * (3 - v)) * n + 0 := by rw [Nat.mul_comm]; rfl
  rw [h1, h2, bor_lo hlt (Nat.two_pow_pos _), Nat.or_zero, ← Nat.two_pow_add_eq_or_of_lt (show n < 2 ^ 6 by omega), Nat.mul_add]
  omega
/-- one part: none when the triple doesn't fit -/
def wst (X : Nat → Nat) (t i : Nat) : Option (Nat × Nat) → Option (Nat × Nat)
  | none => none
  | some (w, h) => if X i < 100 then some (w, h) else if h.testBit (X i - 100) then (if cell w (X i - 100) = part t i then some (w, h) else none) else some (w + part t i * 64 ^ (3 - (X i - 100)), h ||| 2 ^ (X i - 100))
def widN (X : Nat → Nat) (V r t : Nat) : Nat → Option (Nat × Nat)
  | 0 => some (r, V)
  | i + 1 => wst X t i (widN X V r t i)
def wid (X : Nat → Nat) (V r t : Nat) : Option Nat := (widN X V r t 3).map (·.1)
/-- a row with values for the variables h alone -/
def rowOK (h w : Nat) : Prop := w < 16777216 ∧ h < 16 ∧ ∀ v, v < 4 → h.testBit v = false → cell w v = 0
theorem tb_or (h x v : Nat) : (h ||| 2 ^ x).testBit v = (h.testBit v || decide (x = v)) := by
  rw [Nat.testBit_or, Nat.testBit_two_pow]
theorem or_lt16 {h x : Nat} (hh : h < 16) (hx : x < 4) : h ||| 2 ^ x < 16 := by
  have : (2 : Nat) ^ x < 2 ^ 4 := Nat.pow_lt_pow_right (by omega) hx
  exact Nat.or_lt_two_pow (n := 4) hh this
theorem wst_ok {X : Nat → Nat} (hX : okX X) {t i w h : Nat} (hi : i < 3) (hr : rowOK h w) {w' h' : Nat} (he : wst X t i (some (w, h)) = some (w', h')) : rowOK h' w' := by
  unfold wst at he
  dsimp only at he
  by_cases q : X i < 100
  · rw [if_pos q] at he; cases he; exact hr
  · rw [if_neg q] at he
    have hx := hX i hi
    cases hb : h.testBit (X i - 100)
    · rw [hb] at he
      simp only [Bool.false_eq_true, if_false] at he
      cases he
      obtain ⟨h1, h2, h3⟩ := hr
      have hv : X i - 100 < 4 := by omega
      refine ⟨(cell_add (u := 0) h1 hv (by omega) (part_lt t i) (h3 _ hv hb)).1, or_lt16 h2 hv, ?_⟩
      intro v hv4 hvb
      rw [tb_or] at hvb
      have hne : ¬ v = X i - 100 := by
        intro e; subst e; simp at hvb
      rw [(cell_add h1 hv hv4 (part_lt t i) (h3 _ hv hb)).2, if_neg hne]
      refine h3 v hv4 ?_
      cases hz : h.testBit v
      · rfl
      · rw [hz] at hvb; simp at hvb
    · rw [hb, if_pos rfl] at he
      split at he
      · cases he; exact hr
      · cases he
theorem S_widen {X : Nat → Nat} {p : PatS} {V r t : Nat} {post : Int32 → Prop} (hp : patOK X p) (hr : rowOK V r) (ht : t < 262144) (h1 : ∀ w, wid X V r t = some w → w < 16777216 → post (nI w)) (h0 : wid X V r t = none → post (-1 : Int32)) : P_X2_widen p (nI V) (nI r) (nI t) post := by
  obtain ⟨hX, htl, -⟩ := hp
  have back : ∀ i, i + 1 ≤ 3 → widN X V r t (i + 1) = none → widN X V r t 3 = none := by
    intro i hi hn
    rcases (show i = 0 ∨ i = 1 ∨ i = 2 by omega) with rfl | rfl | rfl
    · show wst X t 2 (wst X t 1 (widN X V r t 1)) = none
      rw [hn]; rfl
    · show wst X t 2 (widN X V r t 2) = none
      rw [hn]; rfl
    · exact hn
  refine wl (fun z => ∃ i w h, z = (nI w, nI h, nI i) ∧ i ≤ 3 ∧ widN X V r t i = some (w, h) ∧ rowOK h w) (fun z => 3 - z.2.2.toNatClampNeg) ⟨0, r, V, rfl, by omega, rfl, hr⟩ ?_
  rintro z ⟨i, w, h, rfl, hi, hw, hro⟩ K hK
  have hro' := hro
  obtain ⟨b1, b2, b3⟩ := hro'
  refine ⟨fun c => ?_, fun c => ?_⟩
  · have : 3 ≤ i := (nI_leI (a := 3) (by omega) (by omega)).mp c
    have e : i = 3 := by omega
    subst e
    exact h1 w (by unfold wid; rw [hw]; rfl) b1
  · have hi3 : i < 3 := by
      rcases Nat.lt_or_ge i 3 with q | q
      · exact q
      · exact absurd (n_le q (by omega)) c
    have nx : ∀ w' h', wst X t i (some (w, h)) = some (w', h') → K (nI w', nI h', nI i + (1 : Int32)) := by
      intro w' h' e
      rw [nI_1]
      refine hK _ ⟨i + 1, w', h', rfl, by omega, ?_, wst_ok hX hi3 hro e⟩ ?_
      · show wst X t i (widN X V r t i) = _
        rw [hw]; exact e
      · show 3 - (nI (i + 1)).toNatClampNeg < 3 - (nI i).toNatClampNeg
        rw [n_cl (by omega), n_cl (by omega)]; omega
    have hx := hX i hi3
    refine S_at hi3 (by omega) ?_
    rw [htl i hi3]
    refine ⟨fun c2 => ?_, fun c2 => ?_⟩
    · have hlt : X i < 100 := by
        rcases Nat.lt_or_ge (X i) 100 with q | q
        · exact q
        · rw [told_var q hx] at c2
          exact absurd c2 (nI_pos (by omega))
      exact nx w h (by unfold wst; dsimp only; rw [if_pos hlt])
    · have hge : 100 ≤ X i := by
        rcases Nat.lt_or_ge (X i) 100 with q | q
        · exact absurd (told_term_neg q) c2
        · exact q
      have hnl : ¬ X i < 100 := by omega
      rw [told_var hge hx]
      refine S_partOf (by omega) (by omega) (S_hasBitB (by omega) (by omega) (fun hb => ⟨fun _ => S_cellOf (by omega) (by omega) ⟨fun e => ?_, fun e => ?_⟩, fun d => absurd d (by decide)⟩) (fun hb => ⟨fun d => absurd rfl d, fun _ => S_cellShift (by omega) ?_⟩))
      · have e2 := (nI_eq (by have := cell_lt w (X i - 100); omega) (by have := part_lt t i; omega)).mp e
        exact nx w h (by unfold wst; dsimp only; rw [if_neg hnl, hb, if_pos rfl, if_pos e2])
      · have e2 : ¬ cell w (X i - 100) = part t i := fun z => e (by rw [z])
        refine h0 ?_
        have hn : widN X V r t (i + 1) = none := by
          show wst X t i (widN X V r t i) = none
          rw [hw]; unfold wst; dsimp only; rw [if_neg hnl, hb, if_pos rfl, if_neg e2]
        unfold wid; rw [back i (by omega) hn]; rfl
      · have hv : X i - 100 < 4 := by omega
        rw [q_row hv (part_lt t i) (b3 _ hv hb)]
        have e3 : nI h ||| ((1 : Int32) <<< (nI (X i - 100) &&& 31)) = nI (h ||| 2 ^ (X i - 100)) := by
          rw [show (1 : Int32) = nI 1 from rfl, q_shl 1 (by omega), q_or, Nat.one_mul]
        rw [e3]
        exact nx _ _ (by unfold wst; dsimp only; rw [if_neg hnl, hb]; simp)
/-- what a triple and a widened row have to do with one another -/
def ext (X : Nat → Nat) (V r t w : Nat) : Prop := w < 16777216 ∧ (∀ v, v < 4 → V.testBit v = true → cell w v = cell r v) ∧ (∀ i, i < 3 → 100 ≤ X i → cell w (X i - 100) = part t i) ∧ ∀ v, v < 4 → V.testBit v = false → (∀ i, i < 3 → X i ≠ 100 + v) → cell w v = 0
def extN (X : Nat → Nat) (V r t n w h : Nat) : Prop := rowOK h w ∧ (∀ v, v < 4 → V.testBit v = true → cell w v = cell r v) ∧ (∀ i, i < n → 100 ≤ X i → cell w (X i - 100) = part t i) ∧ (∀ v, v < 4 → (h.testBit v = true ↔ V.testBit v = true ∨ ∃ i, i < n ∧ X i = 100 + v))
theorem wid_sound {X : Nat → Nat} (hX : okX X) {V r t : Nat} (hr : rowOK V r) : ∀ n, n ≤ 3 → ∀ w h, widN X V r t n = some (w, h) → extN X V r t n w h
  | 0, _, w, h, e => by
    cases e
    exact ⟨hr, fun _ _ _ => rfl, fun i hi => absurd hi (Nat.not_lt_zero i), fun v _ => ⟨Or.inl, fun z => z.elim id (fun ⟨i, hi, _⟩ => absurd hi (Nat.not_lt_zero i))⟩⟩
  | n + 1, hn, w, h, e => by
    have e : wst X t n (widN X V r t n) = some (w, h) := e
    cases hc : widN X V r t n with
    | none => rw [hc] at e; cases e
    | some q =>
      obtain ⟨w0, h0⟩ := q
      obtain ⟨g1, g2, g3, g4⟩ := wid_sound hX hr n (by omega) w0 h0 hc
      rw [hc] at e
      have hro := wst_ok hX (show n < 3 by omega) g1 e
      have hx := hX n (by omega)
      unfold wst at e
      dsimp only at e
      by_cases q : X n < 100
      · rw [if_pos q] at e; cases e
        refine ⟨hro, g2, ?_, ?_⟩
        · intro i hi hi2
          rcases Nat.lt_or_ge i n with z | z
          · exact g3 i z hi2
          · have : i = n := by omega
            subst this; omega
        · intro v hv
          rw [g4 v hv]
          refine or_congr_right ⟨fun ⟨i, hi, hi2⟩ => ⟨i, by omega, hi2⟩, fun ⟨i, hi, hi2⟩ => ⟨i, ?_, hi2⟩⟩
          rcases Nat.lt_or_ge i n with z | z
          · exact z
          · have : i = n := by omega
            subst this; omega
      · rw [if_neg q] at e
        have hv4 : X n - 100 < 4 := by omega
        cases hb : h0.testBit (X n - 100)
        · rw [hb] at e
          simp only [Bool.false_eq_true, if_false] at e
          cases e
          have hc0 := g1.2.2 _ hv4 hb
          have ca : ∀ u, u < 4 → cell (w0 + part t n * 64 ^ (3 - (X n - 100))) u = if u = X n - 100 then part t n else cell w0 u := fun u hu => (cell_add g1.1 hv4 hu (part_lt t n) hc0).2
          refine ⟨hro, ?_, ?_, ?_⟩
          · intro v hv hvb
            rw [ca v hv]
            have hne : ¬ v = X n - 100 := by
              intro e; subst e
              have := (g4 _ hv).mpr (Or.inl hvb)
              rw [hb] at this; cases this
            rw [if_neg hne]; exact g2 v hv hvb
          · intro i hi hi2
            rw [ca _ (by have := hX i (by omega); omega)]
            by_cases e2 : X i - 100 = X n - 100
            · rw [if_pos e2]
              rcases Nat.lt_or_ge i n with z | z
              · exfalso
                have := (g4 _ hv4).mpr (Or.inr ⟨i, z, by omega⟩)
                rw [hb] at this; cases this
              · have : i = n := by omega
                rw [this]
            · rw [if_neg e2]
              rcases Nat.lt_or_ge i n with z | z
              · exact g3 i z hi2
              · exfalso
                have : i = n := by omega
                subst this; exact e2 rfl
          · intro v hv
            rw [tb_or, Bool.or_eq_true, g4 v hv, decide_eq_true_eq]
            constructor
            · rintro ((z | ⟨i, hi, hi2⟩) | z)
              · exact Or.inl z
              · exact Or.inr ⟨i, by omega, hi2⟩
              · exact Or.inr ⟨n, by omega, by omega⟩
            · rintro (z | ⟨i, hi, hi2⟩)
              · exact Or.inl (Or.inl z)
              · rcases Nat.lt_or_ge i n with y | y
                · exact Or.inl (Or.inr ⟨i, y, hi2⟩)
                · have : i = n := by omega
                  subst this; right; omega
        · rw [hb, if_pos rfl] at e
          split at e
          · next hce =>
            cases e
            refine ⟨hro, g2, ?_, ?_⟩
            · intro i hi hi2
              rcases Nat.lt_or_ge i n with z | z
              · exact g3 i z hi2
              · have : i = n := by omega
                subst this; exact hce
            · intro v hv
              rw [g4 v hv]
              constructor
              · rintro (z | ⟨i, hi, hi2⟩)
                · exact Or.inl z
                · exact Or.inr ⟨i, by omega, hi2⟩
              · rintro (z | ⟨i, hi, hi2⟩)
                · exact Or.inl z
                · rcases Nat.lt_or_ge i n with y | y
                  · exact Or.inr ⟨i, y, hi2⟩
                  · have : i = n := by omega
                    subst this
                    have e2 : X i - 100 = v := by omega
                    rw [e2] at hb
                    exact (g4 v hv).mp hb
          · cases e
theorem wid_complete {X : Nat → Nat} (hX : okX X) {V r t w : Nat} (hr : rowOK V r) (he : ext X V r t w) : ∀ n, n ≤ 3 → ∃ w' h', widN X V r t n = some (w', h')
  | 0, _ => ⟨r, V, rfl⟩
  | n + 1, hn => by
    obtain ⟨w0, h0, hc⟩ := wid_complete hX hr he n (by omega)
    obtain ⟨g1, g2, g3, g4⟩ := wid_sound hX hr n (by omega) w0 h0 hc
    show ∃ w' h', wst X t n (widN X V r t n) = some (w', h')
    rw [hc]
    unfold wst
    dsimp only
    have hx := hX n (by omega)
    by_cases q : X n < 100
    · rw [if_pos q]; exact ⟨_, _, rfl⟩
    · rw [if_neg q]
      have hv4 : X n - 100 < 4 := by omega
      cases hb : h0.testBit (X n - 100)
      · simp
      · rw [if_pos rfl]
        have hce : cell w0 (X n - 100) = part t n := by
          have h1 := he.2.2.1 n (by omega) (by omega)
          rcases (g4 _ hv4).mp hb with z | ⟨i, hi, hi2⟩
          · rw [g2 _ hv4 z, ← he.2.1 _ hv4 z]; exact h1
          · have h2 := g3 i hi (by omega)
            have e2 : X i - 100 = X n - 100 := by omega
            rw [e2] at h2
            have h3 := he.2.2.1 i (by omega) (by omega)
            rw [e2] at h3
            rw [h2, ← h3, h1]
        rw [if_pos hce]; exact ⟨_, _, rfl⟩
theorem wid_iff {X : Nat → Nat} (hX : okX X) {V r t w : Nat} (hr : rowOK V r) : wid X V r t = some w ↔ ext X V r t w := by
  have key : ∀ w' h', widN X V r t 3 = some (w', h') → ext X V r t w' := by
    intro w' h' e
    obtain ⟨g1, g2, g3, g4⟩ := wid_sound hX hr 3 (by omega) w' h' e
    refine ⟨g1.1, g2, fun i hi => g3 i hi, fun v hv hvb hne => g1.2.2 v hv ?_⟩
    cases hb : h'.testBit v
    · rfl
    · rcases (g4 v hv).mp hb with z | ⟨i, hi, hi2⟩
      · rw [hvb] at z; cases z
      · exact absurd hi2 (hne i hi)
  have uniq : ∀ a b, ext X V r t a → ext X V r t b → a = b := by
    intro a b ha hb
    refine row_ext ha.1 hb.1 (fun v hv => ?_)
    cases hz : V.testBit v
    · by_cases q : ∃ i, i < 3 ∧ X i = 100 + v
      · obtain ⟨i, hi, e⟩ := q
        have h1 := ha.2.2.1 i hi (by omega)
        have h2 := hb.2.2.1 i hi (by omega)
        rw [show X i - 100 = v by omega] at h1 h2
        rw [h1, h2]
      · have hn : ∀ i, i < 3 → X i ≠ 100 + v := fun i hi e => q ⟨i, hi, e⟩
        rw [ha.2.2.2 v hv hz hn, hb.2.2.2 v hv hz hn]
    · rw [ha.2.1 v hv hz, hb.2.1 v hv hz]
  unfold wid
  constructor
  · intro h
    cases hc : widN X V r t 3 with
    | none => rw [hc] at h; cases h
    | some q =>
      obtain ⟨w', h'⟩ := q
      rw [hc] at h; cases h
      exact key w' h' hc
  · intro he
    obtain ⟨w', h', hc⟩ := wid_complete hX hr he 3 (by omega)
    rw [hc, uniq w w' he (key w' h' hc)]; rfl
