/-! PURE SIDE 34: the model: the join order -/
/-- some pattern of the first n, which has not come, shares a variable -/
def shN (Q : List Pt3) (ca kn : Nat) : Nat → Bool
  | 0 => false
  | n + 1 => shN Q ca kn n || (!ca.testBit n && shr Q kn n)
/-- the model's best of the first n -/
def mbN (T M : List Nat) (Q : List Pt3) (sh : Bool) (ca kn : Nat) : Nat → Option Nat
  | 0 => none
  | n + 1 => if !ca.testBit n && (!sh || shr Q kn n) then (match mbN T M Q sh ca kn n with
    | none => some n
    | some b => if fnd T M Q n < fnd T M Q b then some n else some b) else mbN T M Q sh ca kn n
theorem shN_false {Q : List Pt3} {ca kn : Nat} : ∀ {n : Nat}, shN Q ca kn n = false → ∀ p, p < n → ca.testBit p = false → shr Q kn p = false
  | 0, _, p, hp, _ => absurd hp (Nat.not_lt_zero p)
  | n + 1, h, p, hp, hc => by
    unfold shN at h
    rw [Bool.or_eq_false_iff] at h
    rcases (show p = n ∨ p < n by omega) with rfl | hp2
    · have := h.2
      rw [hc] at this
      simpa using this
    · exact shN_false h.1 p hp2 hc
theorem shN_true {Q : List Pt3} {ca kn : Nat} : ∀ {n : Nat}, shN Q ca kn n = true → ∃ p, p < n ∧ ca.testBit p = false ∧ shr Q kn p = true
  | 0, h => by cases h
  | n + 1, h => by
    unfold shN at h
    rw [Bool.or_eq_true] at h
    rcases h with h | h
    · obtain ⟨p, h1, h2⟩ := shN_true h
      exact ⟨p, by omega, h2⟩
    · rw [Bool.and_eq_true] at h
      exact ⟨n, by omega, by simpa using h.1, h.2⟩
theorem best_shr {T M : List Nat} {Q : List Pt3} {ca kn : Nat} : ∀ {n p : Nat}, p < n → ca.testBit p = false → shr Q kn p = true → ∃ b, bestN T M Q ca kn n = some b ∧ shr Q kn b = true
  | 0, p, hp, _, _ => absurd hp (Nat.not_lt_zero p)
  | n + 1, p, hp, hc, hs => by
    unfold bestN
    by_cases z : p = n
    · subst z
      rw [if_neg (by rw [hc]; decide)]
      cases hb : bestN T M Q ca kn p with
      | none => exact ⟨p, rfl, hs⟩
      | some b =>
        show ∃ b', (if ahead T M Q kn p b then some p else some b) = some b' ∧ _
        by_cases y : ahead T M Q kn p b = true
        · rw [if_pos y]; exact ⟨p, rfl, hs⟩
        · rw [if_neg y]
          refine ⟨b, rfl, ?_⟩
          cases hsb : shr Q kn b
          · refine absurd ?_ y
            unfold ahead
            rw [hs, hsb]; rfl
          · rfl
    · obtain ⟨b, hb, hsb⟩ := best_shr (T := T) (M := M) (n := n) (show p < n by omega) hc hs
      by_cases y : ca.testBit n = true
      · rw [if_pos y]; exact ⟨b, hb, hsb⟩
      · rw [if_neg y, hb]
        show ∃ b', (if ahead T M Q kn n b then some n else some b) = some b' ∧ _
        by_cases x : ahead T M Q kn n b = true
        · rw [if_pos x]
          refine ⟨n, rfl, ?_⟩
          unfold ahead at x
          rw [hsb] at x
          cases hsn : shr Q kn n
          · rw [hsn] at x; simp at x
          · rfl
        · rw [if_neg x]; exact ⟨b, rfl, hsb⟩
theorem mb_best {T M : List Nat} {Q : List Pt3} {ca kn N : Nat} : ∀ n, n ≤ N → mbN T M Q (shN Q ca kn N) ca kn n = (match bestN T M Q ca kn n with
    | none => none
    | some b => if shN Q ca kn N && !shr Q kn b then none else some b)
  | 0, _ => rfl
  | n + 1, hn => by
    have ih := mb_best (T := T) (M := M) (Q := Q) (ca := ca) (kn := kn) (N := N) n (by omega)
    unfold mbN bestN
    cases hc : ca.testBit n
    · rw [if_neg (show ¬ false = true by decide)]
      cases hb : bestN T M Q ca kn n with
      | none =>
        rw [hb] at ih
        rw [ih]
        show (if !false && (!shN Q ca kn N || shr Q kn n) then some n else none) = (if shN Q ca kn N && !shr Q kn n then none else some n)
        cases shN Q ca kn N <;> cases shr Q kn n <;> rfl
      | some b =>
        rw [hb] at ih
        have hlt := bestN_lt hb
        have hnew := best_new hb
        have hf := fun h => shN_false (Q := Q) (ca := ca) (kn := kn) (n := N) h
        have e1 : ahead T M Q kn n b = (if shr Q kn n == shr Q kn b then decide (fnd T M Q n < fnd T M Q b) else shr Q kn n) := rfl
        show (if !false && (!shN Q ca kn N || shr Q kn n) then (match mbN T M Q (shN Q ca kn N) ca kn n with | none => some n | some b => if fnd T M Q n < fnd T M Q b then some n else some b) else mbN T M Q (shN Q ca kn N) ca kn n) = (match (if ahead T M Q kn n b then some n else some b) with | none => none | some b => if shN Q ca kn N && !shr Q kn b then none else some b)
        rw [ih, e1]
        by_cases hd : fnd T M Q n < fnd T M Q b
        · rw [decide_eq_true hd]
          cases hS : shN Q ca kn N
          · have g1 := hf hS n (by omega) hc
            have g2 := hf hS b (by omega) hnew
            simp [g1, g2, hd]
          · cases hn1 : shr Q kn n <;> cases hb1 : shr Q kn b <;> simp [hn1, hb1, hd]
        · rw [decide_eq_false hd]
          cases hS : shN Q ca kn N
          · have g1 := hf hS n (by omega) hc
            have g2 := hf hS b (by omega) hnew
            simp [g1, g2, hd]
          · cases hn1 : shr Q kn n <;> cases hb1 : shr Q kn b <;> simp [hn1, hb1, hd]
    · rw [if_pos rfl]
      exact ih
theorem mb_all {T M : List Nat} {Q : List Pt3} {ca kn N : Nat} : mbN T M Q (shN Q ca kn N) ca kn N = bestN T M Q ca kn N := by
  rw [mb_best N (Nat.le_refl _)]
  cases hb : bestN T M Q ca kn N with
  | none => rfl
  | some b =>
    show (if shN Q ca kn N && !shr Q kn b then none else some b) = some b
    cases hS : shN Q ca kn N
    · rfl
    · obtain ⟨p, h1, h2, h3⟩ := shN_true hS
      obtain ⟨b', h4, h5⟩ := best_shr (T := T) (M := M) h1 h2 h3
      rw [hb] at h4
      cases h4
      rw [h5]; rfl
theorem best_some {T M : List Nat} {Q : List Pt3} (hQ3 : Q.length ≤ 3) {n : Nat} (hn : n < Q.length) : ∃ b, bestN T M Q (joN T M Q n).1 (joN T M Q n).2.1 Q.length = some b := by
  cases hbn : bestN T M Q (joN T M Q n).1 (joN T M Q n).2.1 Q.length with
  | some b => exact ⟨b, rfl⟩
  | none =>
    have h1 := best_none hbn
    have g : ∀ i, i < Q.length → ∃ m, m < n ∧ jo T M Q m = i := fun i hi => (came n i).mp (h1 i hi)
    exfalso
    rcases (show n = 0 ∨ n = 1 ∨ n = 2 by omega) with rfl | rfl | rfl
    · obtain ⟨a, ha, ea⟩ := g 0 (by omega)
      omega
    · obtain ⟨a, ha, ea⟩ := g 0 (by omega)
      obtain ⟨b, hb, eb⟩ := g 1 (by omega)
      have : a = b := by omega
      subst this; omega
    · obtain ⟨a, ha, ea⟩ := g 0 (by omega)
      obtain ⟨b, hb, eb⟩ := g 1 (by omega)
      obtain ⟨c, hc, ec⟩ := g 2 (by omega)
      rcases (show a = b ∨ a = c ∨ b = c by omega) with z | z | z <;> subst z <;> omega
theorem q_bit {b p : Nat} (hb : b < 2147483648) (hp : p < 32) : ((nI b >>> (nI p &&& 31)) &&& (1 : Int32)) = if b.testBit p then 1 else 0 := by
  have e : (nI b >>> (nI p &&& 31)) &&& (1 : Int32) = nI (b / 2 ^ p % 2) := by rw [q_shr hb hp, q_1]
  have e2 : b.testBit p = decide (b / 2 ^ p % 2 = 1) := Nat.testBit_eq_decide_div_mod_eq
  rw [e, e2]
  rcases Nat.mod_two_eq_zero_or_one (b / 2 ^ p) with q | q <;> rw [q] <;> rfl
/-- how the model tells a choice -/
def opI (o : Option Nat) : Int32 := match o with | none => (-1 : Int32) | some b => nI b
theorem N_joined0 {Q : List Pt3} {m : ModS} {x : Int32} {post : Int32 → ModS → Prop} (hm : mdlQ Q m) (hQ : Q.length ≤ 3) (hn : ¬ isN Q.length x) (h : post 0 (setX m 1)) : P_X8_joined m x post := by
  show P_X8_isIn x (0 : Int32) (m.patterns - (1 : Int32)) _
  rw [hm.1]
  refine N_isN (by omega) (fun g => absurd g hn) (fun _ => ⟨fun _ => ?_, fun c => absurd rfl c⟩)
  have j206 : P_X8_joined_j206 (setX m 1) 0 post := ⟨fun c => absurd c (by decide : ¬ (1 : Int32) ≤ 0), fun _ => h⟩
  refine wl (fun w => w = ((0 : Int32), (0 : Int32), (0 : Int32), (0 : Int32), setX m 1)) (fun _ => 0) rfl ?_
  rintro w rfl K hK
  exact ⟨fun _ => j206, fun _ => ⟨fun _ => j206, fun c => absurd c (by decide : ¬ (1 : Int32) = 0)⟩⟩
theorem N_joined1 {T M : List Nat} {Q : List Pt3} {A : List Nat} {kv : Nat} {m : ModS} {i : Nat} {post : Int32 → ModS → Prop} (hi : inv T M Q A kv) (hm : mdl T M Q A kv m) (hiQ : i < Q.length) (h : ∀ m', mdl T M Q A kv m' → m'.thrown = 0 → post (nI (jo T M Q i)) m') : P_X8_joined m (nI i) post := by
  have hQ := hi.2.2.2.2.2.2.2.1
  have hX := hi.2.2.2.2.2.2.2.2.1
  have hM60 := hi.2.2.2.2.2.1
  show P_X8_isIn (nI i) (0 : Int32) (m.patterns - (1 : Int32)) _
  rw [hm.2.2.1.1]
  refine N_isN (by omega) (fun _ => ⟨fun c => absurd c (by decide), fun _ => ?_⟩) (fun n => absurd ⟨i, hiQ, rfl⟩ n)
  show wloop (P_X8_joined_B33 (nI i) post) ((0 : Int32), (0 : Int32), (0 : Int32), (0 : Int32), setX m 0)
  have hm0 : mdl T M Q A kv (setX m 0) := hm
  have ht0 : (setX m 0).thrown = 0 := rfl
  generalize setX m 0 = m0 at hm0 ht0 ⊢
  clear hm
  have hlt := joN_lt (T := T) (M := M) (show 0 < Q.length by omega) hQ hX
  refine wl (fun w => ∃ k m', w = (nI (joN T M Q k).1, nI (joN T M Q k).2.1, nI (joN T M Q k).2.2, nI k, m') ∧ k ≤ i + 1 ∧ sameB 0 m0 m') (fun w => 9 - w.2.2.2.1.toNatClampNeg) ⟨0, m0, rfl, by omega, sameB_rf⟩ ?_
  rintro w ⟨k, m', rfl, hk, hs⟩ K hK
  obtain ⟨b1, b2, b3⟩ := hlt k
  have hm' := sameB_mdl hs hm0
  have ht' : m'.thrown = 0 := hs.2.2.2.2.2.2.2.2.2.2.2.2.1.trans ht0
  refine ⟨fun c => ?_, fun c => ⟨fun d => absurd ht' d, fun _ => ?_⟩⟩
  · have c := (nI_ltI (by omega) (by omega)).mp c
    have e : k = i + 1 := by omega
    subst e
    refine ⟨fun _ => h m' hm' ht', fun d => absurd ?_ d⟩
    show m'.thrown ≤ 0
    rw [ht']; decide
  · have hki : k ≤ i := by
      rcases Nat.lt_or_ge i k with y | y
      · exact absurd (n_lt y (by omega)) c
      · exact y
    have hkQ : k < Q.length := by omega
    have hjs : joN T M Q (k + 1) = ((joN T M Q k).1 ||| 2 ^ (bestN T M Q (joN T M Q k).1 (joN T M Q k).2.1 Q.length).getD 0, (joN T M Q k).2.1 ||| (if h : (bestN T M Q (joN T M Q k).1 (joN T M Q k).2.1 Q.length).getD 0 < Q.length then vbits Q[(bestN T M Q (joN T M Q k).1 (joN T M Q k).2.1 Q.length).getD 0] else 0), (bestN T M Q (joN T M Q k).1 (joN T M Q k).2.1 Q.length).getD 0) := rfl
    obtain ⟨b, hbs⟩ := best_some (T := T) (M := M) hQ hkQ
    have hbl := bestN_lt hbs
    rw [hbs] at hjs
    have hjs : joN T M Q (k + 1) = ((joN T M Q k).1 ||| 2 ^ b, (joN T M Q k).2.1 ||| (if h : b < Q.length then vbits Q[b] else 0), b) := hjs
    rw [dif_pos hbl] at hjs
    generalize (joN T M Q k).1 = ca at *
    generalize (joN T M Q k).2.1 = kn at *
    have vand : ∀ {p : Nat} (hp : p < Q.length), (nI (vbits Q[p]) &&& nI kn = 0) ↔ shr Q kn p = false := by
      intro p hp
      have hlt2 : vbits Q[p] &&& kn < 2147483648 := Nat.lt_of_le_of_lt Nat.and_le_left (Nat.lt_trans (vb_lt (hX p hp)) (by decide))
      unfold shr
      rw [dif_pos hp, q_and]
      constructor
      · intro e
        have e : vbits Q[p] &&& kn = 0 := (nI_eq (b := 0) hlt2 (by omega)).mp e
        simp [e]
      · intro e
        have e : vbits Q[p] &&& kn = 0 := by simpa using e
        rw [e]; rfl
    have or_ob : ∀ x y : Bool, ob x ||| ob y = ob (x || y) := by intro x y; cases x <;> cases y <;> decide
    show wloop (P_X8_joined_B52 m' (nI i) (nI ca) (nI kn) (nI k) K post) ((0 : Int32), (0 : Int32))
    refine wl (fun w => ∃ p, w = (ob (shN Q ca kn p), nI p) ∧ p ≤ Q.length) (fun w => 3 - w.2.toNatClampNeg) ⟨0, rfl, by omega⟩ ?_
    rintro w ⟨p, rfl, hp⟩ K1 hK1
    refine ⟨fun c1 => ?_, fun c1 => ?_⟩
    · have c1 : m'.patterns ≤ nI p := c1
      rw [hm'.2.2.1.1] at c1
      have := (nI_leI (by omega) (by omega)).mp c1
      have e : p = Q.length := by omega
      subst e
      clear hK1 K1 c1 this hp
      have hbest : mbN T M Q (shN Q ca kn Q.length) ca kn Q.length = some b := by rw [mb_all]; exact hbs
      show wloop (P_X8_joined_B103 (nI i) (nI ca) (nI kn) (nI k) (ob (shN Q ca kn Q.length)) K post) ((-1 : Int32), (0 : Int32), m')
      generalize shN Q ca kn Q.length = sh at hbest ⊢
      have mb_lt : ∀ {n b : Nat}, mbN T M Q sh ca kn n = some b → b < n := by
        intro n
        induction n with
        | zero => intro b h; cases h
        | succ n ih =>
          intro b h
          unfold mbN at h
          split at h
          · split at h
            · cases h; omega
            · next b' hb' =>
              have := ih hb'
              split at h <;> cases h <;> omega
          · have := ih h; omega
      refine wl (fun w => ∃ p m2, w = (opI (mbN T M Q sh ca kn p), nI p, m2) ∧ p ≤ Q.length ∧ sameB 0 m0 m2) (fun w => 3 - w.2.1.toNatClampNeg) ⟨0, m', rfl, by omega, hs⟩ ?_
      rintro w ⟨p, m2, rfl, hp, hs2⟩ K2 hK2
      have hm2 := sameB_mdl hs2 hm0
      refine ⟨fun c1 => ?_, fun c1 => ?_⟩
      · have c1 : m2.patterns ≤ nI p := c1
        rw [hm2.2.2.1.1] at c1
        have := (nI_leI (by omega) (by omega)).mp c1
        have e : p = Q.length := by omega
        subst e
        show P_X8_variablesOf m2 (opI (mbN T M Q sh ca kn Q.length)) (fun r => K (nI ca ||| ((1 : Int32) <<< (opI (mbN T M Q sh ca kn Q.length) &&& 31)), nI kn ||| r, opI (mbN T M Q sh ca kn Q.length), nI k + (1 : Int32), m2))
        rw [hbest]
        show P_X8_variablesOf m2 (nI b) (fun r => K (nI ca ||| ((1 : Int32) <<< (nI b &&& 31)), nI kn ||| r, nI b, nI k + (1 : Int32), m2))
        refine N_variablesOf hm2.2.2.1 hQ hX hbl ?_
        rw [show (1 : Int32) <<< (nI b &&& 31) = nI (1 * 2 ^ b) from q_shl 1 (by omega), Nat.one_mul, q_or, q_or, nI_1]
        refine hK _ ⟨k + 1, m2, ?_, by omega, hs2⟩ ?_
        · rw [hjs]
        · show 9 - (nI (k + 1)).toNatClampNeg < 9 - (nI k).toNatClampNeg
          rw [n_cl (by omega), n_cl (by omega)]; omega
      · have hpl : p < Q.length := by
          rcases Nat.lt_or_ge p Q.length with y | y
          · exact y
          · exact absurd (show m2.patterns ≤ nI p by rw [hm2.2.2.1.1]; exact n_le y (by omega)) c1
        have dec : 3 - (nI (p + 1)).toNatClampNeg < 3 - (nI p).toNatClampNeg := by
          rw [n_cl (by omega), n_cl (by omega)]; omega
        have nx : ∀ o m3, o = mbN T M Q sh ca kn (p + 1) → sameB 0 m0 m3 → K2 (opI o, nI p + (1 : Int32), m3) := by
          intro o m3 e s3
          rw [e, nI_1]
          exact hK2 _ ⟨p + 1, m3, rfl, by omega, s3⟩ dec
        have mbs : mbN T M Q sh ca kn (p + 1) = if !ca.testBit p && (!sh || shr Q kn p) then (match mbN T M Q sh ca kn p with | none => some p | some b => if fnd T M Q p < fnd T M Q b then some p else some b) else mbN T M Q sh ca kn p := rfl
        have j141 : (!ca.testBit p && (!sh || shr Q kn p)) = false → P_X8_joined_j141 m2 (nI i) (nI ca) (nI kn) (opI (mbN T M Q sh ca kn p)) (nI k) (ob sh) (nI p) K K2 post := by
          intro e
          refine ⟨fun _ => nx _ m2 ?_ hs2, fun d => absurd rfl d⟩
          rw [mbs, e]; rfl
        have j137 : (!ca.testBit p && (!sh || shr Q kn p)) = true → P_X8_joined_j137 m2 (nI i) (nI ca) (nI kn) (opI (mbN T M Q sh ca kn p)) (nI k) (ob sh) (nI p) K K2 post := by
          intro e
          rw [e, if_pos rfl] at mbs
          refine ⟨fun d => absurd d (by decide), fun _ => ?_⟩
          cases hmb : mbN T M Q sh ca kn p with
          | none =>
            rw [hmb] at mbs
            exact ⟨fun _ => nx (some p) m2 mbs.symm hs2, fun d => absurd (by decide : (-1 : Int32) < 0) d⟩
          | some b' =>
            rw [hmb] at mbs
            have mbs : mbN T M Q sh ca kn (p + 1) = if fnd T M Q p < fnd T M Q b' then some p else some b' := mbs
            have hb' := mb_lt hmb
            have hf1 : fnd T M Q p = (cand T M Q[p] 0 0).length := by unfold fnd; rw [dif_pos hpl]
            have hf2 : fnd T M Q b' = (cand T M (Q[b']'(by omega)) 0 0).length := by unfold fnd; rw [dif_pos (by omega)]
            have l1 := fnd_le (T := T) (Q := Q) (i := p) hM60
            have l2 := fnd_le (T := T) (Q := Q) (i := b') hM60
            refine ⟨fun d => absurd d (nI_pos (n := b') (by omega)), fun _ => ?_⟩
            refine N_matching hi hm2 hpl (fun m3 s3 => N_matching hi (sameB_mdl s3 hm2) (show b' < Q.length by omega) (fun m4 s4 => ?_))
            have s5 := sameB_tr hs2 (sameB_tr s3 s4)
            rw [← hf1, ← hf2]
            refine ⟨fun d => ?_, fun d => ?_⟩
            · have d := (nI_leI (by omega) (by omega)).mp d
              exact nx (some b') m4 (by rw [mbs, if_neg (by omega)]) s5
            · have d2 : fnd T M Q p < fnd T M Q b' := by
                rcases Nat.lt_or_ge (fnd T M Q p) (fnd T M Q b') with y | y
                · exact y
                · exact absurd (n_le y (by omega)) d
              exact nx (some p) m4 (by rw [mbs, if_pos d2]) s5
        show (¬ ((nI ca >>> (nI p &&& 31)) &&& (1 : Int32)) = 0 → P_X8_joined_j141 m2 (nI i) (nI ca) (nI kn) (opI (mbN T M Q sh ca kn p)) (nI k) (ob sh) (nI p) K K2 post) ∧ (((nI ca >>> (nI p &&& 31)) &&& (1 : Int32)) = 0 → (ob sh = 0 → P_X8_joined_j137 m2 (nI i) (nI ca) (nI kn) (opI (mbN T M Q sh ca kn p)) (nI k) (ob sh) (nI p) K K2 post) ∧ (¬ ob sh = 0 → P_X8_variablesOf m2 (nI p) (fun r => ((r &&& nI kn) = 0 → P_X8_joined_j141 m2 (nI i) (nI ca) (nI kn) (opI (mbN T M Q sh ca kn p)) (nI k) (ob sh) (nI p) K K2 post) ∧ (¬ (r &&& nI kn) = 0 → P_X8_joined_j137 m2 (nI i) (nI ca) (nI kn) (opI (mbN T M Q sh ca kn p)) (nI k) (ob sh) (nI p) K K2 post))))
        rw [q_bit (by omega) (by omega)]
        cases hc : ca.testBit p
        · rw [hc] at j141 j137
          refine ⟨fun d => absurd rfl d, fun _ => ⟨fun d => j137 ?_, fun d => N_variablesOf hm2.2.2.1 hQ hX hpl ⟨fun e => j141 ?_, fun e => j137 ?_⟩⟩⟩
          · rw [(obz _).mp d]; rfl
          · have hsh : sh = true := by
              cases hz : sh
              · rw [hz] at d; exact absurd rfl d
              · rfl
            rw [hsh, (vand hpl).mp e]; rfl
          · have : shr Q kn p = true := by
              cases hz : shr Q kn p
              · exact absurd ((vand hpl).mpr hz) e
              · rfl
            rw [this]; simp
        · rw [hc] at j141
          exact ⟨fun _ => j141 rfl, fun d => absurd d (by decide)⟩
    · have hpl : p < Q.length := by
        rcases Nat.lt_or_ge p Q.length with y | y
        · exact y
        · exact absurd (show m'.patterns ≤ nI p by rw [hm'.2.2.1.1]; exact n_le y (by omega)) c1
      have nx : ∀ x : Bool, x = (!ca.testBit p && shr Q kn p) → K1 (ob (shN Q ca kn p) ||| ob x, nI p + (1 : Int32)) := by
        intro x e
        rw [or_ob, e, nI_1]
        refine hK1 _ ⟨p + 1, rfl, by omega⟩ ?_
        show 3 - (nI (p + 1)).toNatClampNeg < 3 - (nI p).toNatClampNeg
        rw [n_cl (by omega), n_cl (by omega)]; omega
      show (¬ ((nI ca >>> (nI p &&& 31)) &&& (1 : Int32)) = 0 → K1 (ob (shN Q ca kn p) ||| ob false, nI p + (1 : Int32))) ∧ (((nI ca >>> (nI p &&& 31)) &&& (1 : Int32)) = 0 → P_X8_variablesOf m' (nI p) (fun r => ((r &&& nI kn) = 0 → K1 (ob (shN Q ca kn p) ||| ob false, nI p + (1 : Int32))) ∧ (¬ (r &&& nI kn) = 0 → K1 (ob (shN Q ca kn p) ||| ob true, nI p + (1 : Int32)))))
      rw [q_bit (by omega) (by omega)]
      cases hc : ca.testBit p
      · rw [hc] at nx
        refine ⟨fun d => absurd rfl d, fun _ => N_variablesOf hm'.2.2.1 hQ hX hpl ⟨fun e => nx false ?_, fun e => nx true ?_⟩⟩
        · rw [(vand hpl).mp e]; rfl
        · cases hz : shr Q kn p
          · exact absurd ((vand hpl).mpr hz) e
          · rfl
      · rw [hc] at nx
        exact ⟨fun _ => nx false rfl, fun d => absurd d (by decide)⟩
