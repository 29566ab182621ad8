/-! PURE SIDE 6: fields under masks; the stretch of an order that a mask and a value cut out -/
theorem bor_lo {k p q r s : Nat} (hr : r < 2 ^ k) (hs : s < 2 ^ k) : (2 ^ k * p + r) ||| (2 ^ k * q + s) = 2 ^ k * (p ||| q) + (r ||| s) := by
  apply Nat.eq_of_testBit_eq
  intro i
  have hrs : r ||| s < 2 ^ k := Nat.or_lt_two_pow hr hs
  rw [Nat.testBit_or, Nat.testBit_two_pow_mul_add _ hr, Nat.testBit_two_pow_mul_add _ hs, Nat.testBit_two_pow_mul_add _ hrs]
  by_cases h : i < k
  · rw [if_pos h, if_pos h, if_pos h, Nat.testBit_or]
  · rw [if_neg h, if_neg h, if_neg h, Nat.testBit_or]
theorem band_lo {k p q r s : Nat} (hr : r < 2 ^ k) (hs : s < 2 ^ k) : (2 ^ k * p + r) &&& (2 ^ k * q + s) = 2 ^ k * (p &&& q) + (r &&& s) := by
  apply Nat.eq_of_testBit_eq
  intro i
  have hrs : r &&& s < 2 ^ k := Nat.and_lt_two_pow r hs
  rw [Nat.testBit_and, Nat.testBit_two_pow_mul_add _ hr, Nat.testBit_two_pow_mul_add _ hs, Nat.testBit_two_pow_mul_add _ hrs]
  by_cases h : i < k
  · rw [if_pos h, if_pos h, if_pos h, Nat.testBit_and]
  · rw [if_neg h, if_neg h, if_neg h, Nat.testBit_and]
theorem enc_pw (a b c : Nat) : enc a b c = 2 ^ 6 * (2 ^ 6 * a + b) + c := by unfold enc; omega
theorem enc_or {a b c x y z : Nat} (hb : b < 64) (hc : c < 64) (hy : y < 64) (hz : z < 64) : enc a b c ||| enc x y z = enc (a ||| x) (b ||| y) (c ||| z) := by
  rw [enc_pw, enc_pw, enc_pw, bor_lo (k := 6) hc hz, bor_lo (k := 6) hb hy]
theorem enc_and {a b c x y z : Nat} (hb : b < 64) (hc : c < 64) (hy : y < 64) (hz : z < 64) : enc a b c &&& enc x y z = enc (a &&& x) (b &&& y) (c &&& z) := by
  rw [enc_pw, enc_pw, enc_pw, band_lo (k := 6) hc hz, band_lo (k := 6) hb hy]
theorem enc_inj {a b c x y z : Nat} (hb : b < 64) (hc : c < 64) (hy : y < 64) (hz : z < 64) : enc a b c = enc x y z ↔ a = x ∧ b = y ∧ c = z := by
  unfold enc; omega
theorem part_0 {t : Nat} (ht : t < 262144) : part t 0 = t / 4096 := by unfold part; simp only [Nat.reduceSub, Nat.reducePow]; omega
theorem part_1 (t : Nat) : part t 1 = t / 64 % 64 := by unfold part; simp only [Nat.reduceSub, Nat.reducePow]
theorem part_2 (t : Nat) : part t 2 = t % 64 := by unfold part; simp only [Nat.reduceSub, Nat.reducePow]; omega
theorem enc_part {t : Nat} (ht : t < 262144) : enc (part t 0) (part t 1) (part t 2) = t := by
  rw [part_0 ht, part_1, part_2]; unfold enc; omega
theorem part_lt (t p : Nat) : part t p < 64 := Nat.mod_lt _ (by omega)
theorem part_enc {a b c : Nat} (ha : a < 64) (hb : b < 64) (hc : c < 64) : part (enc a b c) 0 = a ∧ part (enc a b c) 1 = b ∧ part (enc a b c) 2 = c := by
  rw [part_0 (enc_lt ha hb hc), part_1, part_2]; unfold enc; omega
theorem and63 {x : Nat} (h : x < 64) : x &&& 63 = x := by
  have := Nat.and_two_pow_sub_one_eq_mod x 6
  rw [show (2 : Nat) ^ 6 - 1 = 63 from rfl] at this
  rw [this, show (2 : Nat) ^ 6 = 64 from rfl]; omega
-- which parts are told: a, b, c
def f63 (a : Bool) : Nat := if a then 63 else 0
def fv (a : Bool) (x : Nat) : Nat := if a then x else 0
def fh (a : Bool) (x : Nat) : Nat := if a then x else 63
theorem f63_lt (a : Bool) : f63 a < 64 := by cases a <;> decide
theorem fv_lt (a : Bool) {x : Nat} (h : x < 64) : fv a x < 64 := by cases a <;> simp [fv, h]
theorem fh_lt (a : Bool) {x : Nat} (h : x < 64) : fh a x < 64 := by cases a <;> simp [fh, h]
abbrev mk3 (a b c : Bool) : Nat := enc (f63 a) (f63 b) (f63 c)
abbrev vl3 (a b c : Bool) (x y z : Nat) : Nat := enc (fv a x) (fv b y) (fv c z)
abbrev hi3 (a b c : Bool) (x y z : Nat) : Nat := enc (fh a x) (fh b y) (fh c z)
def mat (a b c : Bool) (x y z t : Nat) : Bool := (!a || part t 0 == x) && (!b || part t 1 == y) && (!c || part t 2 == z)
theorem mat_iff {a b c : Bool} {x y z t : Nat} : mat a b c x y z t = true ↔ (a = true → part t 0 = x) ∧ (b = true → part t 1 = y) ∧ (c = true → part t 2 = z) := by
  unfold mat
  cases a <;> cases b <;> cases c <;> simp [and_assoc]
/-- a triple under the mask is the value, if it matches -/
theorem mat_and {a b c : Bool} {x y z t : Nat} (ht : t < 262144) (hx : x < 64) (hy : y < 64) (hz : z < 64) : t &&& mk3 a b c = vl3 a b c x y z ↔ mat a b c x y z t = true := by
  have e : t &&& mk3 a b c = enc (part t 0 &&& f63 a) (part t 1 &&& f63 b) (part t 2 &&& f63 c) := by
    have h0 := enc_and (a := part t 0) (x := f63 a) (part_lt t 1) (part_lt t 2) (f63_lt b) (f63_lt c)
    rw [enc_part ht] at h0
    exact h0
  have g : ∀ (p : Nat) (u : Bool), part t p &&& f63 u = fv u (part t p) := by
    intro p u
    cases u
    · simp [f63, fv]
    · simp only [f63, fv, if_true]; exact and63 (part_lt t p)
  rw [e, g, g, g, enc_inj (fv_lt b (part_lt t 1)) (fv_lt c (part_lt t 2)) (fv_lt b hy) (fv_lt c hz), mat_iff]
  cases a <;> cases b <;> cases c <;> simp [fv]
/-- the order for a mask -/
def ord3 (a b c : Bool) : Nat := if c && !b then 2 else if b && !a then 1 else 0
theorem ord3_lt (a b c : Bool) : ord3 a b c < 3 := by cases a <;> cases b <;> cases c <;> decide
def bi (a : Bool) : Int32 := if a then 1 else 0
theorem S_j52 {a b : Bool} {post : Int32 → Prop} (h : post (nI (if b && !a then 1 else 0))) : P_X7_orderOf_j52 (bi a) (bi b) post := by
  cases b
  · exact ⟨fun _ => h, fun d => absurd rfl d⟩
  · cases a
    · exact ⟨fun d => absurd d (by decide), fun _ => ⟨fun d => absurd rfl d, fun _ => h⟩⟩
    · exact ⟨fun d => absurd d (by decide), fun _ => ⟨fun _ => h, fun d => absurd d (by decide)⟩⟩
theorem S_j41 {a b c : Bool} {post : Int32 → Prop} (h : post (nI (ord3 a b c))) : P_X7_orderOf_j41 (bi a) (bi b) (bi c) post := by
  cases c
  · refine ⟨fun _ => S_j52 ?_, fun d => absurd rfl d⟩
    cases a <;> cases b <;> exact h
  · refine ⟨fun d => absurd d (by decide), fun _ => ?_⟩
    cases b
    · exact ⟨fun d => absurd rfl d, fun _ => by cases a <;> exact h⟩
    · refine ⟨fun _ => S_j52 ?_, fun d => absurd d (by decide)⟩
      cases a <;> exact h
theorem S_orderOf {a b c : Bool} {post : Int32 → Prop} (h : post (nI (ord3 a b c))) : P_X7_orderOf (nI (mk3 a b c)) post := by
  obtain ⟨e0, e1, e2⟩ := part_enc (f63_lt a) (f63_lt b) (f63_lt c)
  have hlt : mk3 a b c < 2147483648 := Nat.lt_trans (enc_lt (f63_lt a) (f63_lt b) (f63_lt c)) (by decide)
  have k : ∀ (u : Bool) (F : Int32 → Prop), F (bi u) → (nI (f63 u) = 0 → F (0 : Int32)) ∧ (¬ (nI (f63 u) = 0) → F (1 : Int32)) := by
    intro u F hF
    cases u
    · exact ⟨fun _ => hF, fun d => absurd rfl d⟩
    · exact ⟨fun d => absurd d (by decide), fun _ => hF⟩
  refine S_partOf (p := 0) hlt (by omega) ?_
  rw [show part (mk3 a b c) 0 = f63 a from e0]
  refine k a (fun z => P_X7_orderOf_j13 (nI (mk3 a b c)) z post) ?_
  refine S_partOf (p := 1) hlt (by omega) ?_
  rw [show part (mk3 a b c) 1 = f63 b from e1]
  refine k b (fun z => P_X7_orderOf_j27 (nI (mk3 a b c)) (bi a) z post) ?_
  refine S_partOf (p := 2) hlt (by omega) ?_
  rw [show part (mk3 a b c) 2 = f63 c from e2]
  exact k c (fun z => P_X7_orderOf_j41 (bi a) (bi b) z post) (S_j41 h)
theorem rol_enc {a b c : Nat} (ha : a < 64) (hb : b < 64) (hc : c < 64) : rol (enc a b c) 0 = enc a b c ∧ rol (enc a b c) 1 = enc b c a ∧ rol (enc a b c) 2 = enc c a b := by
  refine ⟨rfl, ?_, ?_⟩
  · show enc a b c % 4096 * 64 + enc a b c / 4096 = enc b c a
    unfold enc; omega
  · show enc a b c % 64 * 4096 + enc a b c / 64 = enc c a b
    unfold enc; omega
/-- keys between the ends of the stretch are those that match -/
theorem range3e (a b c : Bool) {p q r x y z : Nat} (hp : p < 64) (hq : q < 64) (hr : r < 64) (hx : x < 64) (hy : y < 64) (hz : z < 64) : (rol (vl3 a b c x y z) (ord3 a b c) ≤ rol (enc p q r) (ord3 a b c) ∧ rol (enc p q r) (ord3 a b c) < rol (hi3 a b c x y z) (ord3 a b c) + 1) ↔ (a = true → p = x) ∧ (b = true → q = y) ∧ (c = true → r = z) := by
  obtain ⟨a0, a1, a2⟩ := rol_enc hp hq hr
  obtain ⟨b0, b1, b2⟩ := rol_enc (fv_lt a hx) (fv_lt b hy) (fv_lt c hz)
  obtain ⟨c0, c1, c2⟩ := rol_enc (fh_lt a hx) (fh_lt b hy) (fh_lt c hz)
  have k0 : ord3 a b c = 0 ∨ ord3 a b c = 1 ∨ ord3 a b c = 2 := by have := ord3_lt a b c; omega
  unfold vl3 hi3
  cases a <;> cases b <;> cases c
  · rw [show ord3 false false false = 0 from rfl, a0, b0, c0]; simp [fv, fh, enc]; omega
  · rw [show ord3 false false true = 2 from rfl, a2, b2, c2]; simp [fv, fh, enc]; omega
  · rw [show ord3 false true false = 1 from rfl, a1, b1, c1]; simp [fv, fh, enc]; omega
  · rw [show ord3 false true true = 1 from rfl, a1, b1, c1]; simp [fv, fh, enc]; omega
  · rw [show ord3 true false false = 0 from rfl, a0, b0, c0]; simp [fv, fh, enc]; omega
  · rw [show ord3 true false true = 2 from rfl, a2, b2, c2]; simp [fv, fh, enc]; omega
  · rw [show ord3 true true false = 0 from rfl, a0, b0, c0]; simp [fv, fh, enc]; omega
  · rw [show ord3 true true true = 0 from rfl, a0, b0, c0]; simp [fv, fh, enc]; omega
theorem range3 (a b c : Bool) {x y z t : Nat} (ht : t < 262144) (hx : x < 64) (hy : y < 64) (hz : z < 64) : (rol (vl3 a b c x y z) (ord3 a b c) ≤ rol t (ord3 a b c) ∧ rol t (ord3 a b c) < rol (hi3 a b c x y z) (ord3 a b c) + 1) ↔ mat a b c x y z t = true := by
  have h := range3e a b c (part_lt t 0) (part_lt t 1) (part_lt t 2) hx hy hz
  rw [enc_part ht] at h
  rw [h, mat_iff]
theorem q_not {m : Nat} (hm : m < 262144) : (262143 : Int32) &&& (nI m ^^^ (-1 : Int32)) = nI (262143 - m) := by
  rw [show (-1 : Int32) = nI 4294967295 from by decide, q_xor, show (262143 : Int32) = nI 262143 from rfl, q_and]
  congr 1
  apply Nat.eq_of_testBit_eq
  intro i
  rw [Nat.testBit_and, Nat.testBit_xor, show (262143 : Nat) - m = 2 ^ 18 - (m + 1) by omega, Nat.testBit_two_pow_sub_succ (by omega), show (262143 : Nat) = 2 ^ 18 - 1 from rfl, show (4294967295 : Nat) = 2 ^ 32 - 1 from rfl, Nat.testBit_two_pow_sub_one, Nat.testBit_two_pow_sub_one]
  by_cases q : i < 18
  · have q2 : i < 32 := by omega
    simp [q, q2]
  · simp [q]
theorem fh_or (a : Bool) (x : Nat) (h : x < 64) : fv a x ||| (63 - f63 a) = fh a x := by
  cases a
  · simp [fv, f63, fh]
  · simp [fv, f63, fh]
theorem mk3_compl (a b c : Bool) : 262143 - mk3 a b c = enc (63 - f63 a) (63 - f63 b) (63 - f63 c) := by
  cases a <;> cases b <;> cases c <;> decide
theorem S_send {K : List Nat} {s : StoS} {a b c : Bool} {x y z : Nat} {post : Int32 → Prop} (hK : sorOK K (sel s (ord3 a b c))) (hx : x < 64) (hy : y < 64) (hz : z < 64) (h : post (nI (rk K (rol (hi3 a b c x y z) (ord3 a b c) + 1)))) : P_X5_end s (nI (ord3 a b c)) (nI (mk3 a b c)) (nI (vl3 a b c x y z)) post := by
  have ho := ord3_lt a b c
  have hm : mk3 a b c < 262144 := enc_lt (f63_lt a) (f63_lt b) (f63_lt c)
  have hh : hi3 a b c x y z < 262144 := enc_lt (fh_lt a hx) (fh_lt b hy) (fh_lt c hz)
  have hb := rol_lt (o := ord3 a b c) hh
  have e : (nI (vl3 a b c x y z) ||| ((262143 : Int32) &&& (nI (mk3 a b c) ^^^ (-1 : Int32)))) = nI (hi3 a b c x y z) := by
    rw [q_not hm, q_or, mk3_compl]
    unfold vl3 hi3
    rw [enc_or (fv_lt b hy) (fv_lt c hz) (by have := f63_lt b; omega) (by have := f63_lt c; omega), fh_or a x hx, fh_or b y hy, fh_or c z hz]
  generalize ord3 a b c = o at *
  refine S_in ho ⟨fun d => ?_, fun d => ?_, fun d => ?_⟩ <;> (subst d; rw [e]; refine S_rolled hh (by omega) ?_; rw [nI_1]; exact S_placeOf hK (by omega) h)
/-- how many keys lie in the stretch -/
theorem rk_diff {K : List Nat} {lo hi : Nat} (h : lo ≤ hi) : rk K hi = rk K lo + K.countP (fun k => decide (lo ≤ k ∧ k < hi)) := by
  unfold rk
  induction K with
  | nil => rfl
  | cons k K ih =>
    rw [List.countP_cons, List.countP_cons, List.countP_cons, ih]
    by_cases q : k < lo
    · rw [if_pos (show decide (k < hi) = true from decide_eq_true (by omega)), if_pos (show decide (k < lo) = true from decide_eq_true q), if_neg (fun w => by have := of_decide_eq_true w; omega)]; omega
    · rw [if_neg (fun w => q (of_decide_eq_true w) : ¬ decide (k < lo) = true)]
      by_cases q2 : k < hi
      · rw [if_pos (show decide (k < hi) = true from decide_eq_true q2), if_pos (decide_eq_true (show lo ≤ k ∧ k < hi by omega))]; omega
      · rw [if_neg (fun w => q2 (of_decide_eq_true w) : ¬ decide (k < hi) = true), if_neg (fun w => by have := of_decide_eq_true w; omega)]; omega
theorem lo_le_hi (a b c : Bool) {x y z : Nat} (hx : x < 64) (hy : y < 64) (hz : z < 64) : rol (vl3 a b c x y z) (ord3 a b c) ≤ rol (hi3 a b c x y z) (ord3 a b c) + 1 := by
  have h := (range3e a b c hx hy hz hx hy hz).mpr ⟨fun _ => rfl, fun _ => rfl, fun _ => rfl⟩
  omega
/-- the triples of a stretch, by their places in the order -/
theorem stretch {M K : List Nat} (hM : ∀ t ∈ M, t < 262144) (a b c : Bool) {x y z : Nat} (hx : x < 64) (hy : y < 64) (hz : z < 64) (hs : SL K) (hp : K.Perm (keysOf M (ord3 a b c))) :
    rk K (rol (hi3 a b c x y z) (ord3 a b c) + 1) = rk K (rol (vl3 a b c x y z) (ord3 a b c)) + M.countP (mat a b c x y z) ∧
    ((K.take (rk K (rol (hi3 a b c x y z) (ord3 a b c) + 1))).drop (rk K (rol (vl3 a b c x y z) (ord3 a b c)))).Perm (keysOf (M.filter (mat a b c x y z)) (ord3 a b c)) := by
  have ho := ord3_lt a b c
  have hl := lo_le_hi a b c hx hy hz
  have hcm : ∀ (M : List Nat), (∀ t ∈ M, t < 262144) → (keysOf M (ord3 a b c)).filter (fun k => decide (rol (vl3 a b c x y z) (ord3 a b c) ≤ k ∧ k < rol (hi3 a b c x y z) (ord3 a b c) + 1)) = keysOf (M.filter (mat a b c x y z)) (ord3 a b c) := by
    intro M hM
    unfold keysOf
    rw [List.filter_map]
    congr 1
    refine List.filter_congr (fun t ht => ?_)
    have := range3 a b c (hM t ht) hx hy hz
    simp only [Function.comp]
    cases hq : mat a b c x y z t
    · rw [hq] at this; simp only [decide_eq_false_iff_not]; intro w; exact absurd (this.mp w) (by decide)
    · exact decide_eq_true (this.mpr hq)
  constructor
  · rw [rk_diff hl, hp.countP_eq, List.countP_eq_length_filter, hcm M hM]
    unfold keysOf
    rw [List.length_map, List.countP_eq_length_filter]
  · have h1 : ((K.take (rk K (rol (hi3 a b c x y z) (ord3 a b c) + 1))).drop (rk K (rol (vl3 a b c x y z) (ord3 a b c)))) = K.filter (fun k => decide (rol (vl3 a b c x y z) (ord3 a b c) ≤ k ∧ k < rol (hi3 a b c x y z) (ord3 a b c) + 1)) := by
      have hnd : ((K.take (rk K (rol (hi3 a b c x y z) (ord3 a b c) + 1))).drop (rk K (rol (vl3 a b c x y z) (ord3 a b c)))).Pairwise (· < ·) := (hs.sublist (List.take_sublist _ _)).sublist (List.drop_sublist _ _)
      have hnf : (K.filter (fun k => decide (rol (vl3 a b c x y z) (ord3 a b c) ≤ k ∧ k < rol (hi3 a b c x y z) (ord3 a b c) + 1))).Pairwise (· < ·) := hs.sublist List.filter_sublist
      refine List.Perm.eq_of_pairwise (le := (· < ·)) (fun p q _ _ h1 h2 => by omega) hnd hnf ?_
      rw [List.perm_ext_iff_of_nodup (hnd.imp (fun h => by omega)) (hnf.imp (fun h => by omega))]
      intro k
      generalize rol (vl3 a b c x y z) (ord3 a b c) = lo at *
      generalize rol (hi3 a b c x y z) (ord3 a b c) + 1 = hi at *
      have hle := rk_le K hi
      rw [List.mem_filter]
      constructor
      · intro hk
        obtain ⟨i, hi2, e⟩ := List.mem_iff_getElem.mp hk
        rw [List.length_drop, List.length_take] at hi2
        rw [List.getElem_drop, List.getElem_take] at e
        have g1 := (rk_spec hs hi (i := rk K lo + i) (by omega)).mpr (by omega)
        have g2 : ¬ K[rk K lo + i] < lo := fun w => by have := (rk_spec hs lo (i := rk K lo + i) (by omega)).mp w; omega
        rw [← e]
        exact ⟨List.getElem_mem _, decide_eq_true ⟨by omega, g1⟩⟩
      · rintro ⟨hk, hd⟩
        obtain ⟨d1, d2⟩ := of_decide_eq_true hd
        obtain ⟨i, hi2, e⟩ := List.mem_iff_getElem.mp hk
        have g1 := (rk_spec hs hi hi2).mp (by omega)
        have g2 : ¬ i < rk K lo := fun w => by have := (rk_spec hs lo hi2).mpr w; omega
        rw [List.mem_iff_getElem]
        refine ⟨i - rk K lo, by rw [List.length_drop, List.length_take]; omega, ?_⟩
        rw [List.getElem_drop, List.getElem_take]
        simp only [show rk K lo + (i - rk K lo) = i by omega]
        exact e
    rw [h1, ← hcm M hM]
    exact hp.filter _
