/-! PURE SIDE: the law: 24 rounds, and the three ways at the end -/
def XR (x : Int32) : Prop := ∃ n, n < 16777216 ∧ x = nI n
theorem XR_shr (y : Int32) : XR (jiushr y (8 : Int32)) := by
  refine ⟨(y.toUInt32 >>> ((8 : Int32).toUInt32 &&& Int32.toUInt32 31)).toNat, ?_, ?_⟩
  · rw [UInt32.toNat_shiftRight, show ((8 : Int32).toUInt32 &&& Int32.toUInt32 31).toNat % 32 = 8 from by decide, Nat.shiftRight_eq_div_pow]
    have := y.toUInt32.toNat_lt
    omega
  · show _ = Int32.ofNat _
    rw [← UInt32.toInt32_ofNat', UInt32.ofNat_toNat]
theorem n_div {n d : Nat} (hn : n < 2147483648) (hd : d < 2147483648) : nI n / nI d = nI (n / d) := by
  have hb : nI d ≠ -1 := fun e => by
    have h1 := nI_toInt hd
    rw [e] at h1
    have h2 : (-1 : Int32).toInt = -1 := by decide
    omega
  apply Int32.toInt_inj.mp
  rw [Int32.toInt_div_of_ne_right _ _ hb, nI_toInt hn, nI_toInt hd, nI_toInt (Nat.lt_of_le_of_lt (Nat.div_le_self n d) hn)]
  rfl
theorem n_mul (a b : Nat) : nI a * nI b = nI (a * b) := (Int32.ofNat_mul a b).symm
theorem n_rem {n d : Nat} (hn : n < 2147483648) (hd : d < 2147483648) : nI n - nI n / nI d * nI d = nI (n % d) := by
  rw [n_div hn hd, n_mul, n_sub (Nat.div_mul_le_self n d)]
  congr 1
  have := Nat.div_add_mod n d
  rw [Nat.mul_comm] at this
  omega
theorem ix_in {k L : Nat} (hk : k < 2147483648) (hL : L ≤ 260) (h0 : ¬ Int32.ofNat L = 0) : vp_in (nI k - nI k / (Int32.ofNat L) * (Int32.ofNat L)) L := by
  have hp : 0 < L := by
    rcases Nat.eq_zero_or_pos L with z | z
    · exact absurd (by rw [z]; rfl) h0
    · exact z
  show vp_in (nI k - nI k / nI L * nI L) L
  rw [n_rem hk (by omega)]
  exact n_in (Nat.mod_lt _ hp) (by omega)
theorem lrn_nd {T : List Nat} (h : T.Nodup) (t : Nat) : (lrn T t).Nodup := by
  unfold lrn
  split
  · exact h
  · rename_i g
    rw [List.nodup_append]
    refine ⟨h, by simp, fun a ha b hb e => ?_⟩
    rw [List.mem_singleton] at hb
    subst hb; subst e; exact g ha
theorem lrn_7 {T : List Nat} (h : ∀ t ∈ T, t < 7) {a : Nat} (ha : a < 7) : ∀ t ∈ lrn T a, t < 7 := by
  intro t ht
  rcases (lrn_mem T a t).mp ht with z | z
  · exact h t z
  · rw [z]; exact ha
/-- a triple of small terms: it never fills the store in 24 rounds -/
theorem LawS {T M : List Nat} {Q : List Pt3} {c : TriS} {n i : Nat} {post : Int32 → TriS → Prop} (hn : n < 16777216) (hc : cls T M Q [] 0 c) (hT : ∀ t ∈ T, t < 7) (hM : M.length ≤ i) (hi : i < 24) (h : ∀ T M c r, ¬ r < (0 : Int32) → cls T M Q [] 0 c → (∀ t ∈ T, t < 7) → M.length ≤ i + 1 → post r c) : P_L_act c (0 : Int32) (nI n - nI n / (6 : Int32) * (6 : Int32)) ((nI n / (6 : Int32)) - (nI n / (6 : Int32)) / (4 : Int32) * (4 : Int32)) ((nI n / (24 : Int32)) - (nI n / (24 : Int32)) / (7 : Int32) * (7 : Int32)) post := by
  have e1 : nI n - nI n / (6 : Int32) * (6 : Int32) = nI (n % 6) := n_rem (d := 6) (by omega) (by omega)
  have e2 : nI n / (6 : Int32) = nI (n / 6) := n_div (d := 6) (by omega) (by omega)
  have e3 : nI n / (24 : Int32) = nI (n / 24) := n_div (d := 24) (by omega) (by omega)
  have e4 : nI (n / 6) - nI (n / 6) / (4 : Int32) * (4 : Int32) = nI (n / 6 % 4) := n_rem (d := 4) (by omega) (by omega)
  have e5 : nI (n / 24) - nI (n / 24) / (7 : Int32) * (7 : Int32) = nI (n / 24 % 7) := n_rem (d := 7) (by omega) (by omega)
  rw [e1, e2, e3, e4, e5]
  have a1 : n % 6 < 7 := by omega
  have a2 : n / 6 % 4 < 7 := by omega
  have a3 : n / 24 % 7 < 7 := by omega
  generalize n % 6 = a at a1 ⊢
  generalize n / 6 % 4 = b at a2 ⊢
  generalize n / 24 % 7 = d at a3 ⊢
  have g7 : ∀ t ∈ lrn3 T a b d, t < 7 := lrn_7 (lrn_7 (lrn_7 hT a1) a2) a3
  have gl : T.length + unk T a b d ≤ 7 := by
    rw [← unk_len]
    have hnd : (lrn (lrn (lrn T a) b) d).Nodup := lrn_nd (lrn_nd (lrn_nd hc.1.2.2.1 a) b) d
    have := nodup_len hnd (B := List.range 7) (fun t ht => List.mem_range.mpr (g7 t ht))
    rw [List.length_range] at this
    exact this
  refine act_0 (C_state hc (fun q => absurd ⟨tT (by omega), tT (by omega), tT (by omega)⟩ q) (fun _ _ _ _ _ _ _ _ _ _ => ?_) (fun a' b' d' ha hb hd e1 e2 e3 _ q => ?_) (fun a' b' d' ha hb hd e1 e2 e3 _ _ _ c' hc' => ?_))
  · exact ⟨fun _ => h T M c 0 (by decide) hc hT (by omega), fun q => absurd rfl q⟩
  · obtain rfl := nI_i (by omega) (by omega) e1
    obtain rfl := nI_i (by omega) (by omega) e2
    obtain rfl := nI_i (by omega) (by omega) e3
    omega
  · obtain rfl := nI_i (by omega) (by omega) e1
    obtain rfl := nI_i (by omega) (by omega) e2
    obtain rfl := nI_i (by omega) (by omega) e3
    refine ⟨fun q => absurd q (by decide), fun _ => h _ _ c' 1 (by decide) hc' g7 ?_⟩
    rw [List.length_append, List.length_singleton]; omega
theorem v12 : ∀ e, e < 12 → nI e - (4 : Int32) = toldI (if e < 4 then 103 - e else e - 4) := by decide +kernel
theorem V12 {e : Nat} (h : e < 12) : isV4 (nI e - (4 : Int32)) := ⟨_, by split <;> omega, v12 e h⟩
theorem LAe {n : Nat} (hn : n < 16777216) : (nI n - nI n / (10 : Int32) * (10 : Int32)) = nI (n % 10) ∧ ((nI n / (10 : Int32)) - (nI n / (10 : Int32)) / (9 : Int32) * (9 : Int32)) = nI (n / 10 % 9) ∧ ((nI n / (90 : Int32)) - (nI n / (90 : Int32)) / (12 : Int32) * (12 : Int32)) = nI (n / 90 % 12) := by
  have e2 : nI n / (10 : Int32) = nI (n / 10) := n_div (d := 10) (by omega) (by omega)
  have e3 : nI n / (90 : Int32) = nI (n / 90) := n_div (d := 90) (by omega) (by omega)
  refine ⟨n_rem (d := 10) (by omega) (by omega), ?_, ?_⟩
  · rw [e2]; exact n_rem (d := 9) (by omega) (by omega)
  · rw [e3]; exact n_rem (d := 12) (by omega) (by omega)
/-- a pattern of small parts: taken while there is room, refused behind that -/
theorem LawA {T M : List Nat} {Q : List Pt3} {c : TriS} {n i : Nat} {post : Int32 → TriS → Prop} (hn : n < 16777216) (hc : cls T M Q [] 0 c) (hQ : Q.length = i) (hi : i < 3) (h : ∀ Q c, cls T M Q [] 0 c → Q.length = i + 1 → post (nI i) c) : P_L_act c (7 : Int32) ((nI n - nI n / (10 : Int32) * (10 : Int32)) - (4 : Int32)) (((nI n / (10 : Int32)) - (nI n / (10 : Int32)) / (9 : Int32) * (9 : Int32)) - (4 : Int32)) (((nI n / (90 : Int32)) - (nI n / (90 : Int32)) / (12 : Int32) * (12 : Int32)) - (4 : Int32)) post := by
  obtain ⟨e1, e2, e3⟩ := LAe hn
  rw [e1, e2, e3]
  refine act_7 (C_addPattern hc (fun q => absurd ⟨V12 (by omega), V12 (by omega), V12 (by omega)⟩ q) (fun _ _ _ q => absurd q (by omega)) (fun a b d _ _ _ _ _ _ _ c' hc' => ?_))
  rw [hQ]
  exact h _ c' hc' (by rw [List.length_append, List.length_singleton, hQ])
theorem LawA3 {T M : List Nat} {Q : List Pt3} {c : TriS} {n : Nat} {post : Int32 → TriS → Prop} (hn : n < 16777216) (hc : cls T M Q [] 0 c) (hQ : Q.length = 3) (h : ∀ c, cls T M Q [] 0 c → post (-93 : Int32) c) : P_L_act c (7 : Int32) ((nI n - nI n / (10 : Int32) * (10 : Int32)) - (4 : Int32)) (((nI n / (10 : Int32)) - (nI n / (10 : Int32)) / (9 : Int32) * (9 : Int32)) - (4 : Int32)) (((nI n / (90 : Int32)) - (nI n / (90 : Int32)) / (12 : Int32) * (12 : Int32)) - (4 : Int32)) post := by
  obtain ⟨e1, e2, e3⟩ := LAe hn
  rw [e1, e2, e3]
  exact ar_7s hc ⟨V12 (by omega), V12 (by omega), V12 (by omega)⟩ hQ h
/-- two ways after each other -/
theorem big_no {T M : List Nat} {Q : List Pt3} {B A : List Nat} {kv : Nat} {c : TriS} (hb : BIG T M Q) (h : rowsOf T M Q B) (hc : cls T M Q B kv c) : False := by
  obtain ⟨R, h1, h2, h3⟩ := hb
  have := nodup_len h1 (fun a ha => (h.2 a).mpr (h2 a ha))
  have := hc.2.2.2.2.2.1
  omega
theorem rows_eq {T M : List Nat} {Q : List Pt3} {B B' : List Nat} (h : rowsOf T M Q B) (hs : B.Pairwise (fun a b => a < b)) (h' : rowsOf T M Q B') (hs' : B'.Pairwise (fun a b => a < b)) : B = B' := SL_ext hs hs' (fun x => (h.2 x).trans (h'.2 x).symm)
theorem pair_10 {T M : List Nat} {Q : List Pt3} {A : List Nat} {kv : Nat} {c : TriS} {K : TriS → Prop} (hc : cls T M Q A kv c) (ha : ansOK T A kv) (hQ : Q.length = 3) (h : ∀ A kv c, cls T M Q A kv c → ansOK T A kv → K c) : P_L_act c (10 : Int32) (0 : Int32) (0 : Int32) (0 : Int32) (fun r u => P_L_act u (12 : Int32) (0 : Int32) (0 : Int32) (0 : Int32) (fun r2 u2 => (¬ r = r2 → False) ∧ (r = r2 → K u2))) := by
  have big : ∀ {P : Prop}, (Q.length = 0 ∨ BIG T M Q) → (BIG T M Q → P) → P := fun q f => q.elim (fun q => absurd q (by omega)) f
  refine D_10 hc ha (fun q c1 hc1 => ?_) (fun _ B1 c1 g1 g2 hc1 ha1 => ?_)
  · exact D_12 hc1 ha (fun _ c2 hc2 => ⟨fun q => absurd rfl q, fun _ => h _ _ c2 hc2 ha⟩) (fun _ B c2 g1 _ hc2 _ => big q (fun b => (big_no (A := A) b g1 hc2).elim))
  · refine D_12 hc1 ha1 (fun q c2 hc2 => big q (fun b => (big_no (A := A) b g1 hc1).elim)) (fun _ B2 c2 g3 g4 hc2 ha2 => ?_)
    obtain rfl := rows_eq g1 g2 g3 g4
    exact ⟨fun q => absurd rfl q, fun _ => h _ _ c2 hc2 ha2⟩
theorem pair_11 {T M : List Nat} {Q : List Pt3} {A : List Nat} {kv : Nat} {c : TriS} {K : TriS → Prop} (hc : cls T M Q A kv c) (ha : ansOK T A kv) (hQ : Q.length = 3) (h : ∀ A kv c, cls T M Q A kv c → ansOK T A kv → K c) : P_L_act c (11 : Int32) (0 : Int32) (0 : Int32) (0 : Int32) (fun r u => P_L_act u (12 : Int32) (0 : Int32) (0 : Int32) (0 : Int32) (fun r2 u2 => (¬ r = r2 → False) ∧ (r = r2 → K u2))) := by
  have big : ∀ {P : Prop}, (Q.length = 0 ∨ BIG T M Q) → (BIG T M Q → P) → P := fun q f => q.elim (fun q => absurd q (by omega)) f
  refine D_11 hc ha (fun q c1 hc1 => ?_) (fun _ B1 c1 g1 g2 hc1 ha1 => ?_)
  · exact D_12 hc1 ha (fun _ c2 hc2 => ⟨fun q => absurd rfl q, fun _ => h _ _ c2 hc2 ha⟩) (fun _ B c2 g1 _ hc2 _ => big q (fun b => (big_no (A := A) b g1 hc2).elim))
  · refine D_12 hc1 ha1 (fun q c2 hc2 => big q (fun b => (big_no (A := A) b g1 hc1).elim)) (fun _ B2 c2 g3 g4 hc2 ha2 => ?_)
    obtain rfl := rows_eq g1 g2 g3 g4
    exact ⟨fun q => absurd rfl q, fun _ => h _ _ c2 hc2 ha2⟩
set_option maxHeartbeats 4000000 in
set_option maxRecDepth 100000 in
theorem pf_L_law_24 {L : Nat} {xs : Nat → Int32} {c : TriS} {x0 : Int32} (hL : L ≤ 260) (hx : XR x0) {T M : List Nat} {Q : List Pt3} (hc : cls T M Q [] 0 c) (hT : ∀ t ∈ T, t < 7) (hM : M.length ≤ 23) (hQ : Q.length = 3) : P_L_law_24 c x0 L xs := by
  obtain ⟨n, hn, rfl⟩ := hx
  refine LawS hn hc hT hM (by omega) (fun T M c r hr hc hT hM => ⟨fun q => absurd q hr, fun _ => ?_⟩)
  refine pf_L_refuses hc (ansOK0 T) (fun c hc => ⟨fun _ => ?_, fun q => absurd q (by decide)⟩)
  exact pair_10 hc (ansOK0 T) hQ (fun A kv c hc ha => pair_11 (K := fun _ => True) hc ha hQ (fun _ _ _ _ _ => trivial))
set_option maxHeartbeats 4000000 in
set_option maxRecDepth 100000 in
theorem pf_L_law_23 {L : Nat} {xs : Nat → Int32} {c : TriS} {x0 : Int32} (hL : L ≤ 260) (hx : XR x0) {T M : List Nat} {Q : List Pt3} (hc : cls T M Q [] 0 c) (hT : ∀ t ∈ T, t < 7) (hM : M.length ≤ 22) (hQ : Q.length = 3) : P_L_law_23 c x0 L xs := by
  obtain ⟨n, hn, rfl⟩ := hx
  refine LawS hn hc hT hM (by omega) (fun T M c r hr hc hT hM => ⟨fun q => absurd q hr, fun _ => ?_⟩)
  refine pf_L_refuses hc (ansOK0 T) (fun c hc => ⟨fun _ => ?_, fun q => absurd q (by decide)⟩)
  exact ⟨fun h0 => ⟨ix_in (k := 23) (by omega) hL h0, pf_L_law_24 hL (XR_shr _) hc hT hM hQ⟩, fun _ => pf_L_law_24 hL ⟨713, by omega, rfl⟩ hc hT hM hQ⟩
set_option maxHeartbeats 4000000 in
set_option maxRecDepth 100000 in
theorem pf_L_law_22 {L : Nat} {xs : Nat → Int32} {c : TriS} {x0 : Int32} (hL : L ≤ 260) (hx : XR x0) {T M : List Nat} {Q : List Pt3} (hc : cls T M Q [] 0 c) (hT : ∀ t ∈ T, t < 7) (hM : M.length ≤ 21) (hQ : Q.length = 3) : P_L_law_22 c x0 L xs := by
  obtain ⟨n, hn, rfl⟩ := hx
  refine LawS hn hc hT hM (by omega) (fun T M c r hr hc hT hM => ⟨fun q => absurd q hr, fun _ => ?_⟩)
  refine pf_L_refuses hc (ansOK0 T) (fun c hc => ⟨fun _ => ?_, fun q => absurd q (by decide)⟩)
  exact ⟨fun h0 => ⟨ix_in (k := 22) (by omega) hL h0, pf_L_law_23 hL (XR_shr _) hc hT hM hQ⟩, fun _ => pf_L_law_23 hL ⟨682, by omega, rfl⟩ hc hT hM hQ⟩
set_option maxHeartbeats 4000000 in
set_option maxRecDepth 100000 in
theorem pf_L_law_21 {L : Nat} {xs : Nat → Int32} {c : TriS} {x0 : Int32} (hL : L ≤ 260) (hx : XR x0) {T M : List Nat} {Q : List Pt3} (hc : cls T M Q [] 0 c) (hT : ∀ t ∈ T, t < 7) (hM : M.length ≤ 20) (hQ : Q.length = 3) : P_L_law_21 c x0 L xs := by
  obtain ⟨n, hn, rfl⟩ := hx
  refine LawS hn hc hT hM (by omega) (fun T M c r hr hc hT hM => ⟨fun q => absurd q hr, fun _ => ?_⟩)
  refine pf_L_refuses hc (ansOK0 T) (fun c hc => ⟨fun _ => ?_, fun q => absurd q (by decide)⟩)
  exact ⟨fun h0 => ⟨ix_in (k := 21) (by omega) hL h0, pf_L_law_22 hL (XR_shr _) hc hT hM hQ⟩, fun _ => pf_L_law_22 hL ⟨651, by omega, rfl⟩ hc hT hM hQ⟩
set_option maxHeartbeats 4000000 in
set_option maxRecDepth 100000 in
theorem pf_L_law_20 {L : Nat} {xs : Nat → Int32} {c : TriS} {x0 : Int32} (hL : L ≤ 260) (hx : XR x0) {T M : List Nat} {Q : List Pt3} (hc : cls T M Q [] 0 c) (hT : ∀ t ∈ T, t < 7) (hM : M.length ≤ 19) (hQ : Q.length = 3) : P_L_law_20 c x0 L xs := by
  obtain ⟨n, hn, rfl⟩ := hx
  refine LawS hn hc hT hM (by omega) (fun T M c r hr hc hT hM => ⟨fun q => absurd q hr, fun _ => ?_⟩)
  refine pf_L_refuses hc (ansOK0 T) (fun c hc => ⟨fun _ => ?_, fun q => absurd q (by decide)⟩)
  exact ⟨fun h0 => ⟨ix_in (k := 20) (by omega) hL h0, pf_L_law_21 hL (XR_shr _) hc hT hM hQ⟩, fun _ => pf_L_law_21 hL ⟨620, by omega, rfl⟩ hc hT hM hQ⟩
set_option maxHeartbeats 4000000 in
set_option maxRecDepth 100000 in
theorem pf_L_law_19 {L : Nat} {xs : Nat → Int32} {c : TriS} {x0 : Int32} (hL : L ≤ 260) (hx : XR x0) {T M : List Nat} {Q : List Pt3} (hc : cls T M Q [] 0 c) (hT : ∀ t ∈ T, t < 7) (hM : M.length ≤ 18) (hQ : Q.length = 3) : P_L_law_19 c x0 L xs := by
  obtain ⟨n, hn, rfl⟩ := hx
  refine LawS hn hc hT hM (by omega) (fun T M c r hr hc hT hM => ⟨fun q => absurd q hr, fun _ => ?_⟩)
  refine pf_L_refuses hc (ansOK0 T) (fun c hc => ⟨fun _ => ?_, fun q => absurd q (by decide)⟩)
  exact ⟨fun h0 => ⟨ix_in (k := 19) (by omega) hL h0, pf_L_law_20 hL (XR_shr _) hc hT hM hQ⟩, fun _ => pf_L_law_20 hL ⟨589, by omega, rfl⟩ hc hT hM hQ⟩
set_option maxHeartbeats 4000000 in
set_option maxRecDepth 100000 in
theorem pf_L_law_18 {L : Nat} {xs : Nat → Int32} {c : TriS} {x0 : Int32} (hL : L ≤ 260) (hx : XR x0) {T M : List Nat} {Q : List Pt3} (hc : cls T M Q [] 0 c) (hT : ∀ t ∈ T, t < 7) (hM : M.length ≤ 17) (hQ : Q.length = 3) : P_L_law_18 c x0 L xs := by
  obtain ⟨n, hn, rfl⟩ := hx
  refine LawS hn hc hT hM (by omega) (fun T M c r hr hc hT hM => ⟨fun q => absurd q hr, fun _ => ?_⟩)
  refine pf_L_refuses hc (ansOK0 T) (fun c hc => ⟨fun _ => ?_, fun q => absurd q (by decide)⟩)
  exact ⟨fun h0 => ⟨ix_in (k := 18) (by omega) hL h0, pf_L_law_19 hL (XR_shr _) hc hT hM hQ⟩, fun _ => pf_L_law_19 hL ⟨558, by omega, rfl⟩ hc hT hM hQ⟩
set_option maxHeartbeats 4000000 in
set_option maxRecDepth 100000 in
theorem pf_L_law_17 {L : Nat} {xs : Nat → Int32} {c : TriS} {x0 : Int32} (hL : L ≤ 260) (hx : XR x0) {T M : List Nat} {Q : List Pt3} (hc : cls T M Q [] 0 c) (hT : ∀ t ∈ T, t < 7) (hM : M.length ≤ 16) (hQ : Q.length = 3) : P_L_law_17 c x0 L xs := by
  obtain ⟨n, hn, rfl⟩ := hx
  refine LawS hn hc hT hM (by omega) (fun T M c r hr hc hT hM => ⟨fun q => absurd q hr, fun _ => ?_⟩)
  refine pf_L_refuses hc (ansOK0 T) (fun c hc => ⟨fun _ => ?_, fun q => absurd q (by decide)⟩)
  exact ⟨fun h0 => ⟨ix_in (k := 17) (by omega) hL h0, pf_L_law_18 hL (XR_shr _) hc hT hM hQ⟩, fun _ => pf_L_law_18 hL ⟨527, by omega, rfl⟩ hc hT hM hQ⟩
set_option maxHeartbeats 4000000 in
set_option maxRecDepth 100000 in
theorem pf_L_law_16 {L : Nat} {xs : Nat → Int32} {c : TriS} {x0 : Int32} (hL : L ≤ 260) (hx : XR x0) {T M : List Nat} {Q : List Pt3} (hc : cls T M Q [] 0 c) (hT : ∀ t ∈ T, t < 7) (hM : M.length ≤ 15) (hQ : Q.length = 3) : P_L_law_16 c x0 L xs := by
  obtain ⟨n, hn, rfl⟩ := hx
  refine LawS hn hc hT hM (by omega) (fun T M c r hr hc hT hM => ⟨fun q => absurd q hr, fun _ => ?_⟩)
  refine pf_L_refuses hc (ansOK0 T) (fun c hc => ⟨fun _ => ?_, fun q => absurd q (by decide)⟩)
  exact ⟨fun h0 => ⟨ix_in (k := 16) (by omega) hL h0, pf_L_law_17 hL (XR_shr _) hc hT hM hQ⟩, fun _ => pf_L_law_17 hL ⟨496, by omega, rfl⟩ hc hT hM hQ⟩
set_option maxHeartbeats 4000000 in
set_option maxRecDepth 100000 in
theorem pf_L_law_15 {L : Nat} {xs : Nat → Int32} {c : TriS} {x0 : Int32} (hL : L ≤ 260) (hx : XR x0) {T M : List Nat} {Q : List Pt3} (hc : cls T M Q [] 0 c) (hT : ∀ t ∈ T, t < 7) (hM : M.length ≤ 14) (hQ : Q.length = 3) : P_L_law_15 c x0 L xs := by
  obtain ⟨n, hn, rfl⟩ := hx
  refine LawS hn hc hT hM (by omega) (fun T M c r hr hc hT hM => ⟨fun q => absurd q hr, fun _ => ?_⟩)
  refine pf_L_refuses hc (ansOK0 T) (fun c hc => ⟨fun _ => ?_, fun q => absurd q (by decide)⟩)
  exact ⟨fun h0 => ⟨ix_in (k := 15) (by omega) hL h0, pf_L_law_16 hL (XR_shr _) hc hT hM hQ⟩, fun _ => pf_L_law_16 hL ⟨465, by omega, rfl⟩ hc hT hM hQ⟩
set_option maxHeartbeats 4000000 in
set_option maxRecDepth 100000 in
theorem pf_L_law_14 {L : Nat} {xs : Nat → Int32} {c : TriS} {x0 : Int32} (hL : L ≤ 260) (hx : XR x0) {T M : List Nat} {Q : List Pt3} (hc : cls T M Q [] 0 c) (hT : ∀ t ∈ T, t < 7) (hM : M.length ≤ 13) (hQ : Q.length = 3) : P_L_law_14 c x0 L xs := by
  obtain ⟨n, hn, rfl⟩ := hx
  refine LawS hn hc hT hM (by omega) (fun T M c r hr hc hT hM => ⟨fun q => absurd q hr, fun _ => ?_⟩)
  refine pf_L_refuses hc (ansOK0 T) (fun c hc => ⟨fun _ => ?_, fun q => absurd q (by decide)⟩)
  exact ⟨fun h0 => ⟨ix_in (k := 14) (by omega) hL h0, pf_L_law_15 hL (XR_shr _) hc hT hM hQ⟩, fun _ => pf_L_law_15 hL ⟨434, by omega, rfl⟩ hc hT hM hQ⟩
set_option maxHeartbeats 4000000 in
set_option maxRecDepth 100000 in
theorem pf_L_law_13 {L : Nat} {xs : Nat → Int32} {c : TriS} {x0 : Int32} (hL : L ≤ 260) (hx : XR x0) {T M : List Nat} {Q : List Pt3} (hc : cls T M Q [] 0 c) (hT : ∀ t ∈ T, t < 7) (hM : M.length ≤ 12) (hQ : Q.length = 3) : P_L_law_13 c x0 L xs := by
  obtain ⟨n, hn, rfl⟩ := hx
  refine LawS hn hc hT hM (by omega) (fun T M c r hr hc hT hM => ⟨fun q => absurd q hr, fun _ => ?_⟩)
  refine pf_L_refuses hc (ansOK0 T) (fun c hc => ⟨fun _ => ?_, fun q => absurd q (by decide)⟩)
  exact ⟨fun h0 => ⟨ix_in (k := 13) (by omega) hL h0, pf_L_law_14 hL (XR_shr _) hc hT hM hQ⟩, fun _ => pf_L_law_14 hL ⟨403, by omega, rfl⟩ hc hT hM hQ⟩
set_option maxHeartbeats 4000000 in
set_option maxRecDepth 100000 in
theorem pf_L_law_12 {L : Nat} {xs : Nat → Int32} {c : TriS} {x0 : Int32} (hL : L ≤ 260) (hx : XR x0) {T M : List Nat} {Q : List Pt3} (hc : cls T M Q [] 0 c) (hT : ∀ t ∈ T, t < 7) (hM : M.length ≤ 11) (hQ : Q.length = 3) : P_L_law_12 c x0 L xs := by
  obtain ⟨n, hn, rfl⟩ := hx
  refine LawS hn hc hT hM (by omega) (fun T M c r hr hc hT hM => ⟨fun q => absurd q hr, fun _ => ?_⟩)
  refine pf_L_refuses hc (ansOK0 T) (fun c hc => ⟨fun _ => ?_, fun q => absurd q (by decide)⟩)
  exact ⟨fun h0 => ⟨ix_in (k := 12) (by omega) hL h0, pf_L_law_13 hL (XR_shr _) hc hT hM hQ⟩, fun _ => pf_L_law_13 hL ⟨372, by omega, rfl⟩ hc hT hM hQ⟩
set_option maxHeartbeats 4000000 in
set_option maxRecDepth 100000 in
theorem pf_L_law_11 {L : Nat} {xs : Nat → Int32} {c : TriS} {x0 : Int32} (hL : L ≤ 260) (hx : XR x0) {T M : List Nat} {Q : List Pt3} (hc : cls T M Q [] 0 c) (hT : ∀ t ∈ T, t < 7) (hM : M.length ≤ 10) (hQ : Q.length = 3) : P_L_law_11 c x0 L xs := by
  obtain ⟨n, hn, rfl⟩ := hx
  refine LawS hn hc hT hM (by omega) (fun T M c r hr hc hT hM => ⟨fun q => absurd q hr, fun _ => ?_⟩)
  refine pf_L_refuses hc (ansOK0 T) (fun c hc => ⟨fun _ => ?_, fun q => absurd q (by decide)⟩)
  exact ⟨fun h0 => ⟨ix_in (k := 11) (by omega) hL h0, pf_L_law_12 hL (XR_shr _) hc hT hM hQ⟩, fun _ => pf_L_law_12 hL ⟨341, by omega, rfl⟩ hc hT hM hQ⟩
set_option maxHeartbeats 4000000 in
set_option maxRecDepth 100000 in
theorem pf_L_law_10 {L : Nat} {xs : Nat → Int32} {c : TriS} {x0 : Int32} (hL : L ≤ 260) (hx : XR x0) {T M : List Nat} {Q : List Pt3} (hc : cls T M Q [] 0 c) (hT : ∀ t ∈ T, t < 7) (hM : M.length ≤ 9) (hQ : Q.length = 3) : P_L_law_10 c x0 L xs := by
  obtain ⟨n, hn, rfl⟩ := hx
  refine LawS hn hc hT hM (by omega) (fun T M c r hr hc hT hM => ⟨fun q => absurd q hr, fun _ => ?_⟩)
  refine pf_L_refuses hc (ansOK0 T) (fun c hc => ⟨fun _ => ?_, fun q => absurd q (by decide)⟩)
  exact ⟨fun h0 => ⟨ix_in (k := 10) (by omega) hL h0, pf_L_law_11 hL (XR_shr _) hc hT hM hQ⟩, fun _ => pf_L_law_11 hL ⟨310, by omega, rfl⟩ hc hT hM hQ⟩
set_option maxHeartbeats 4000000 in
set_option maxRecDepth 100000 in
theorem pf_L_law_9 {L : Nat} {xs : Nat → Int32} {c : TriS} {x0 : Int32} (hL : L ≤ 260) (hx : XR x0) {T M : List Nat} {Q : List Pt3} (hc : cls T M Q [] 0 c) (hT : ∀ t ∈ T, t < 7) (hM : M.length ≤ 8) (hQ : Q.length = 3) : P_L_law_9 c x0 L xs := by
  obtain ⟨n, hn, rfl⟩ := hx
  refine LawS hn hc hT hM (by omega) (fun T M c r hr hc hT hM => ⟨fun q => absurd q hr, fun _ => ?_⟩)
  refine pf_L_refuses hc (ansOK0 T) (fun c hc => ⟨fun _ => ?_, fun q => absurd q (by decide)⟩)
  exact ⟨fun h0 => ⟨ix_in (k := 9) (by omega) hL h0, pf_L_law_10 hL (XR_shr _) hc hT hM hQ⟩, fun _ => pf_L_law_10 hL ⟨279, by omega, rfl⟩ hc hT hM hQ⟩
set_option maxHeartbeats 4000000 in
set_option maxRecDepth 100000 in
theorem pf_L_law_8 {L : Nat} {xs : Nat → Int32} {c : TriS} {x0 : Int32} (hL : L ≤ 260) (hx : XR x0) {T M : List Nat} {Q : List Pt3} (hc : cls T M Q [] 0 c) (hT : ∀ t ∈ T, t < 7) (hM : M.length ≤ 7) (hQ : Q.length = 3) : P_L_law_8 c x0 L xs := by
  obtain ⟨n, hn, rfl⟩ := hx
  refine LawS hn hc hT hM (by omega) (fun T M c r hr hc hT hM => ⟨fun q => absurd q hr, fun _ => ?_⟩)
  refine pf_L_refuses hc (ansOK0 T) (fun c hc => ⟨fun _ => ?_, fun q => absurd q (by decide)⟩)
  exact ⟨fun h0 => ⟨ix_in (k := 8) (by omega) hL h0, pf_L_law_9 hL (XR_shr _) hc hT hM hQ⟩, fun _ => pf_L_law_9 hL ⟨248, by omega, rfl⟩ hc hT hM hQ⟩
set_option maxHeartbeats 4000000 in
set_option maxRecDepth 100000 in
theorem pf_L_law_7 {L : Nat} {xs : Nat → Int32} {c : TriS} {x0 : Int32} (hL : L ≤ 260) (hx : XR x0) {T M : List Nat} {Q : List Pt3} (hc : cls T M Q [] 0 c) (hT : ∀ t ∈ T, t < 7) (hM : M.length ≤ 6) (hQ : Q.length = 3) : P_L_law_7 c x0 L xs := by
  obtain ⟨n, hn, rfl⟩ := hx
  refine LawS hn hc hT hM (by omega) (fun T M c r hr hc hT hM => ⟨fun q => absurd q hr, fun _ => ?_⟩)
  refine pf_L_refuses hc (ansOK0 T) (fun c hc => ⟨fun _ => ?_, fun q => absurd q (by decide)⟩)
  exact ⟨fun h0 => ⟨ix_in (k := 7) (by omega) hL h0, pf_L_law_8 hL (XR_shr _) hc hT hM hQ⟩, fun _ => pf_L_law_8 hL ⟨217, by omega, rfl⟩ hc hT hM hQ⟩
set_option maxHeartbeats 4000000 in
set_option maxRecDepth 100000 in
theorem pf_L_law_6 {L : Nat} {xs : Nat → Int32} {c : TriS} {x0 : Int32} (hL : L ≤ 260) (hx : XR x0) {T M : List Nat} {Q : List Pt3} (hc : cls T M Q [] 0 c) (hT : ∀ t ∈ T, t < 7) (hM : M.length ≤ 5) (hQ : Q.length = 3) : P_L_law_6 c x0 L xs := by
  obtain ⟨n, hn, rfl⟩ := hx
  refine LawS hn hc hT hM (by omega) (fun T M c r hr hc hT hM => ⟨fun q => absurd q hr, fun _ => ?_⟩)
  refine pf_L_refuses hc (ansOK0 T) (fun c hc => ⟨fun _ => ?_, fun q => absurd q (by decide)⟩)
  exact ⟨fun h0 => ⟨ix_in (k := 6) (by omega) hL h0, pf_L_law_7 hL (XR_shr _) hc hT hM hQ⟩, fun _ => pf_L_law_7 hL ⟨186, by omega, rfl⟩ hc hT hM hQ⟩
set_option maxHeartbeats 4000000 in
set_option maxRecDepth 100000 in
theorem pf_L_law_5 {L : Nat} {xs : Nat → Int32} {c : TriS} {x0 : Int32} (hL : L ≤ 260) (hx : XR x0) {T M : List Nat} {Q : List Pt3} (hc : cls T M Q [] 0 c) (hT : ∀ t ∈ T, t < 7) (hM : M.length ≤ 4) (hQ : Q.length = 3) : P_L_law_5 c x0 L xs := by
  obtain ⟨n, hn, rfl⟩ := hx
  refine LawS hn hc hT hM (by omega) (fun T M c r hr hc hT hM => ⟨fun q => absurd q hr, fun _ => ?_⟩)
  refine pf_L_refuses hc (ansOK0 T) (fun c hc => ⟨fun _ => ?_, fun q => absurd q (by decide)⟩)
  exact ⟨fun h0 => ⟨ix_in (k := 5) (by omega) hL h0, pf_L_law_6 hL (XR_shr _) hc hT hM hQ⟩, fun _ => pf_L_law_6 hL ⟨155, by omega, rfl⟩ hc hT hM hQ⟩
set_option maxHeartbeats 4000000 in
set_option maxRecDepth 100000 in
theorem pf_L_law_4 {L : Nat} {xs : Nat → Int32} {c : TriS} {x0 : Int32} (hL : L ≤ 260) (hx : XR x0) {T M : List Nat} {Q : List Pt3} (hc : cls T M Q [] 0 c) (hT : ∀ t ∈ T, t < 7) (hM : M.length ≤ 3) (hQ : Q.length = 3) : P_L_law_4 c x0 L xs := by
  obtain ⟨n, hn, rfl⟩ := hx
  refine LawS hn hc hT hM (by omega) (fun T M c r hr hc hT hM => ⟨fun q => absurd q hr, fun _ => ?_⟩)
  refine LawA3 hn hc hQ (fun c hc => ⟨fun q => absurd rfl q, fun _ => ?_⟩)
  refine pf_L_refuses hc (ansOK0 T) (fun c hc => ⟨fun _ => ?_, fun q => absurd q (by decide)⟩)
  exact ⟨fun h0 => ⟨ix_in (k := 4) (by omega) hL h0, pf_L_law_5 hL (XR_shr _) hc hT hM hQ⟩, fun _ => pf_L_law_5 hL ⟨124, by omega, rfl⟩ hc hT hM hQ⟩
set_option maxHeartbeats 4000000 in
set_option maxRecDepth 100000 in
theorem pf_L_law_3 {L : Nat} {xs : Nat → Int32} {c : TriS} {x0 : Int32} (hL : L ≤ 260) (hx : XR x0) {T M : List Nat} {Q : List Pt3} (hc : cls T M Q [] 0 c) (hT : ∀ t ∈ T, t < 7) (hM : M.length ≤ 2) (hQ : Q.length = 2) : P_L_law_3 c x0 L xs := by
  obtain ⟨n, hn, rfl⟩ := hx
  refine LawS hn hc hT hM (by omega) (fun T M c r hr hc hT hM => ⟨fun q => absurd q hr, fun _ => ?_⟩)
  refine LawA hn hc hQ (by omega) (fun Q c hc hQ => ⟨fun q => absurd rfl q, fun _ => ?_⟩)
  refine pf_L_refuses hc (ansOK0 T) (fun c hc => ⟨fun _ => ?_, fun q => absurd q (by decide)⟩)
  exact ⟨fun h0 => ⟨ix_in (k := 3) (by omega) hL h0, pf_L_law_4 hL (XR_shr _) hc hT hM hQ⟩, fun _ => pf_L_law_4 hL ⟨93, by omega, rfl⟩ hc hT hM hQ⟩
set_option maxHeartbeats 4000000 in
set_option maxRecDepth 100000 in
theorem pf_L_law_2 {L : Nat} {xs : Nat → Int32} {c : TriS} {x0 : Int32} (hL : L ≤ 260) (hx : XR x0) {T M : List Nat} {Q : List Pt3} (hc : cls T M Q [] 0 c) (hT : ∀ t ∈ T, t < 7) (hM : M.length ≤ 1) (hQ : Q.length = 1) : P_L_law_2 c x0 L xs := by
  obtain ⟨n, hn, rfl⟩ := hx
  refine LawS hn hc hT hM (by omega) (fun T M c r hr hc hT hM => ⟨fun q => absurd q hr, fun _ => ?_⟩)
  refine LawA hn hc hQ (by omega) (fun Q c hc hQ => ⟨fun q => absurd rfl q, fun _ => ?_⟩)
  refine pf_L_refuses hc (ansOK0 T) (fun c hc => ⟨fun _ => ?_, fun q => absurd q (by decide)⟩)
  exact ⟨fun h0 => ⟨ix_in (k := 2) (by omega) hL h0, pf_L_law_3 hL (XR_shr _) hc hT hM hQ⟩, fun _ => pf_L_law_3 hL ⟨62, by omega, rfl⟩ hc hT hM hQ⟩
set_option maxHeartbeats 4000000 in
set_option maxRecDepth 100000 in
theorem pf_L_law_1 {L : Nat} {xs : Nat → Int32} {c : TriS} {x0 : Int32} (hL : L ≤ 260) (hx : XR x0) {T M : List Nat} {Q : List Pt3} (hc : cls T M Q [] 0 c) (hT : ∀ t ∈ T, t < 7) (hM : M.length ≤ 0) (hQ : Q.length = 0) : P_L_law_1 c x0 L xs := by
  obtain ⟨n, hn, rfl⟩ := hx
  refine LawS hn hc hT hM (by omega) (fun T M c r hr hc hT hM => ⟨fun q => absurd q hr, fun _ => ?_⟩)
  refine LawA hn hc hQ (by omega) (fun Q c hc hQ => ⟨fun q => absurd rfl q, fun _ => ?_⟩)
  refine pf_L_refuses hc (ansOK0 T) (fun c hc => ⟨fun _ => ?_, fun q => absurd q (by decide)⟩)
  exact ⟨fun h0 => ⟨ix_in (k := 1) (by omega) hL h0, pf_L_law_2 hL (XR_shr _) hc hT hM hQ⟩, fun _ => pf_L_law_2 hL ⟨31, by omega, rfl⟩ hc hT hM hQ⟩
set_option maxHeartbeats 4000000 in
set_option maxRecDepth 100000 in
theorem pf_L_law {L : Nat} {xs : Nat → Int32} (hL : L ≤ 260) : P_L_law L xs := by
  refine pf_L_orders ⟨fun q => absurd q (by decide), fun _ => ?_⟩
  refine pf_L_queries ⟨fun q => absurd q (by decide), fun _ => ?_⟩
  refine pf_L_bounds ⟨fun _ => ?_, fun q => absurd q (by decide)⟩
  refine C_init (fun c hc => ?_)
  exact ⟨fun h0 => ⟨ix_in (k := 0) (by omega) hL h0, pf_L_law_1 hL (XR_shr _) hc (fun t ht => by cases ht) (Nat.le_refl 0) rfl⟩, fun _ => pf_L_law_1 hL ⟨0, by omega, rfl⟩ hc (fun t ht => by cases ht) (Nat.le_refl 0) rfl⟩
