/-! PURE SIDE 37: the law's calls -/
def FIN (th r : Int32) (o : Nat → Int64) (b : Int64) (K : Prop) : Prop := (th = r → ((¬ r = 0 → K) ∧ (r = 0 → (vp_in (0 : Int32) 1 ∧ ((lg_cmp (o ((0 : Int32)).toNatClampNeg) b = 0 → K) ∧ (¬ (lg_cmp (o ((0 : Int32)).toNatClampNeg) b = 0) → False)))))) ∧ (¬ (th = r) → False)
theorem in01 : vp_in (0 : Int32) 1 := n_in (a := 0) (by omega) (by omega)
theorem F_ok {s : Nat → Int64} {b : Int64} {K : Prop} {th : Int32} (ht : th = 0) (hk : K) : FIN th 0 (vp_updL s ((0 : Int32)).toNatClampNeg b) b K := by
  subst ht
  refine ⟨fun _ => ⟨fun c => absurd rfl c, fun _ => ⟨in01, fun _ => hk, fun c => c ?_⟩⟩, fun c => absurd rfl c⟩
  rw [lg_cmp_eq]; exact pk_uLs
theorem F_ex {s : Nat → Int64} {b : Int64} {K : Prop} {th r : Int32} (ht : th = r) (hr : ¬ r = 0) (hk : K) : FIN th r s b K :=
  ⟨fun _ => ⟨fun _ => hk, fun c => absurd c hr⟩, fun c => absurd ht c⟩
def FIB (th r : Int32) (o : Nat → Int64) (b : Int32) (K : Prop) : Prop := (th = r → ((¬ r = 0 → K) ∧ (r = 0 → (vp_in (0 : Int32) 1 ∧ ((b = 0 → ((lg_cmp (o ((0 : Int32)).toNatClampNeg) (0 : Int64)) = 0 → K) ∧ (¬ ((lg_cmp (o ((0 : Int32)).toNatClampNeg) (0 : Int64)) = 0) → False)) ∧ (¬ (b = 0) → ((lg_cmp (o ((0 : Int32)).toNatClampNeg) (1 : Int64)) = 0 → K) ∧ (¬ ((lg_cmp (o ((0 : Int32)).toNatClampNeg) (1 : Int64)) = 0) → False))))))) ∧ (¬ (th = r) → False)
theorem B_ok0 {s : Nat → Int64} {K : Prop} {th : Int32} (ht : th = 0) (hk : K) : FIB th 0 (vp_updL s ((0 : Int32)).toNatClampNeg (0 : Int64)) 0 K := by
  subst ht
  refine ⟨fun _ => ⟨fun c => absurd rfl c, fun _ => ⟨in01, fun _ => ⟨fun _ => hk, fun c => c ?_⟩, fun c => absurd rfl c⟩⟩, fun c => absurd rfl c⟩
  rw [lg_cmp_eq]; exact pk_uLs
theorem B_ok1 {s : Nat → Int64} {K : Prop} {th : Int32} (ht : th = 0) (hk : K) : FIB th 0 (vp_updL s ((0 : Int32)).toNatClampNeg (1 : Int64)) 1 K := by
  subst ht
  refine ⟨fun _ => ⟨fun c => absurd rfl c, fun _ => ⟨in01, fun c => absurd c (by decide), fun _ => ⟨fun _ => hk, fun c => c ?_⟩⟩⟩, fun c => absurd rfl c⟩
  rw [lg_cmp_eq]; exact pk_uLs
theorem B_ex {s : Nat → Int64} {b : Int32} {K : Prop} {th r : Int32} (ht : th = r) (hr : ¬ r = 0) (hk : K) : FIB th r s b K :=
  ⟨fun _ => ⟨fun _ => hk, fun c => absurd c hr⟩, fun c => absurd ht c⟩
/-- class and model stand for the same -/
def JJ (c : TriS) (m : ModS) : Prop := ∃ (T M : List Nat) (Q : List Pt3) (A : List Nat) (kv : Nat), cls T M Q A kv c ∧ ansOK T A kv ∧ mdl T M Q A kv m
theorem jj {T M : List Nat} {Q : List Pt3} {A : List Nat} {kv : Nat} {c : TriS} {m : ModS} (h1 : cls T M Q A kv c) (h2 : ansOK T A kv) (h3 : mdl T M Q A kv m) : JJ c m := ⟨T, M, Q, A, kv, h1, h2, h3⟩
theorem ans_more {T T' A : List Nat} {kv : Nat} (h : ansOK T A kv) (hl : T.length ≤ T'.length) : ansOK T' A kv := ⟨h.1, fun a ha => ⟨(h.2 a ha).1, fun v hv hb => Nat.lt_of_lt_of_le ((h.2 a ha).2 v hv hb) hl⟩⟩
theorem jj_new {s : ModS} {c : TriS} (h1 : cls [] [] [] [] 0 c) (h3 : mdl [] [] [] [] 0 s) : JJ c s := jj h1 ⟨List.Pairwise.nil, fun a ha => by cases ha⟩ h3

theorem lc_2 {L : Nat} {xs : Nat → Int32} {s0 : TriS} {s1 : ModS} {s2 : Nat → Int64} {v4 : Int32} {k : TriS → ModS → (Nat → Int64) → Prop} (hj : JJ s0 s1) (hk : ∀ c m s, JJ c m → k c m s) : P_case2 L xs s0 s1 s2 v4 k := by
  obtain ⟨T, M, Q, A, kv, hc, ha, hm⟩ := hj
  have hi := cls_inv hc ha
  unfold P_case2
  exact C_triples hc (N_triples hm.2.1 ⟨fun _ => hk _ _ _ (jj hc ha (m := setX s1 0) hm), fun c => absurd rfl c⟩)

theorem lc_4 {L : Nat} {xs : Nat → Int32} {s0 : TriS} {s1 : ModS} {s2 : Nat → Int64} {v4 : Int32} {k : TriS → ModS → (Nat → Int64) → Prop} (hj : JJ s0 s1) (hk : ∀ c m s, JJ c m → k c m s) : P_case4 L xs s0 s1 s2 v4 k := by
  obtain ⟨T, M, Q, A, kv, hc, ha, hm⟩ := hj
  have hi := cls_inv hc ha
  unfold P_case4
  exact C_terms hc (N_terms hm.1 ⟨fun _ => hk _ _ _ (jj hc ha (m := setX s1 0) hm), fun c => absurd rfl c⟩)

theorem lc_12 {L : Nat} {xs : Nat → Int32} {s0 : TriS} {s1 : ModS} {s2 : Nat → Int64} {v4 : Int32} {k : TriS → ModS → (Nat → Int64) → Prop} (hj : JJ s0 s1) (hk : ∀ c m s, JJ c m → k c m s) : P_case12 L xs s0 s1 s2 v4 k := by
  obtain ⟨T, M, Q, A, kv, hc, ha, hm⟩ := hj
  have hi := cls_inv hc ha
  unfold P_case12
  exact C_patterns hc (N_patterns hm.2.2.1 ⟨fun _ => hk _ _ _ (jj hc ha (m := setX s1 0) hm), fun c => absurd rfl c⟩)

theorem lc_14 {L : Nat} {xs : Nat → Int32} {s0 : TriS} {s1 : ModS} {s2 : Nat → Int64} {v4 : Int32} {k : TriS → ModS → (Nat → Int64) → Prop} (hj : JJ s0 s1) (hk : ∀ c m s, JJ c m → k c m s) : P_case14 L xs s0 s1 s2 v4 k := by
  obtain ⟨T, M, Q, A, kv, hc, ha, hm⟩ := hj
  have hi := cls_inv hc ha
  unfold P_case14
  exact C_variables hc (N_variables hm.2.2.1 hi.2.2.2.2.2.2.2.1 hi.2.2.2.2.2.2.2.2.1 ⟨fun _ => hk _ _ _ (jj hc ha (m := setX s1 0) hm), fun c => absurd rfl c⟩)

theorem lc_15 {L : Nat} {xs : Nat → Int32} {s0 : TriS} {s1 : ModS} {s2 : Nat → Int64} {v4 : Int32} {k : TriS → ModS → (Nat → Int64) → Prop} (hj : JJ s0 s1) (hk : ∀ c m s, JJ c m → k c m s) : P_case15 L xs s0 s1 s2 v4 k := by
  obtain ⟨T, M, Q, A, kv, hc, ha, hm⟩ := hj
  have hi := cls_inv hc ha
  unfold P_case15
  exact C_shape hc (N_shape hm.2.2.1 hi.2.2.2.2.2.2.2.1 hi.2.2.2.2.2.2.2.2.1 ⟨fun _ => hk _ _ _ (jj hc ha (m := setX s1 0) hm), fun c => absurd rfl c⟩)

theorem lc_20 {L : Nat} {xs : Nat → Int32} {s0 : TriS} {s1 : ModS} {s2 : Nat → Int64} {v4 : Int32} {k : TriS → ModS → (Nat → Int64) → Prop} (hj : JJ s0 s1) (hk : ∀ c m s, JJ c m → k c m s) : P_case20 L xs s0 s1 s2 v4 k := by
  obtain ⟨T, M, Q, A, kv, hc, ha, hm⟩ := hj
  have hi := cls_inv hc ha
  unfold P_case20
  exact C_answers hc (N_answers hm.2.2.2 ⟨fun _ => hk _ _ _ (jj hc ha (m := setX s1 0) hm), fun c => absurd rfl c⟩)

theorem lc_10 {L : Nat} {xs : Nat → Int32} {s0 : TriS} {s1 : ModS} {s2 : Nat → Int64} {v4 : Int32} {k : TriS → ModS → (Nat → Int64) → Prop} (hj : JJ s0 s1) (hk : ∀ c m s, JJ c m → k c m s) : P_case10 L xs s0 s1 s2 v4 k := by
  obtain ⟨T, M, Q, A, kv, hc, ha, hm⟩ := hj
  have hi := cls_inv hc ha
  unfold P_case10
  exact C_forget hc (fun c' hc' => N_forget hm (fun m' hm' ht => ⟨fun _ => hk _ _ _ (jj hc' ha hm'), fun c => absurd rfl c⟩))

theorem lc_0 {L : Nat} {xs : Nat → Int32} {s0 : TriS} {s1 : ModS} {s2 : Nat → Int64} {v4 : Int32} {k : TriS → ModS → (Nat → Int64) → Prop} (hv1 : vp_in (v4 + (1 : Int32)) L) (hv2 : vp_in (v4 + (2 : Int32)) L) (hv3 : vp_in (v4 + (3 : Int32)) L) (hj : JJ s0 s1) (hk : ∀ c m s, JJ c m → k c m s) : P_case0 L xs s0 s1 s2 v4 k := by
  obtain ⟨T, M, Q, A, kv, hc, ha, hm⟩ := hj
  have hi := cls_inv hc ha
  unfold P_case0
  generalize xs ((v4 + (1 : Int32))).toNatClampNeg = x1
  generalize xs ((v4 + (2 : Int32))).toNatClampNeg = x2
  generalize xs ((v4 + (3 : Int32))).toNatClampNeg = x3
  refine ⟨hv1, hv2, hv3, ?_⟩
  refine C_state hc (fun n => Or.inl ⟨rfl, hv1, hv2, hv3, N_state0 n (B_ex rfl (by decide) (hk _ _ _ (jj hc ha (m := setX s1 1) hm)))⟩) ?_ ?_ ?_
  · intro a b d ha1 hb1 hd1 e1 e2 e3 hin
    subst e1 e2 e3
    exact ⟨fun _ => ⟨in01, hv1, hv2, hv3, N_state1 hi hm ha1 hb1 hd1 hin (B_ok0 rfl (hk _ _ _ (jj hc ha (m := setX s1 0) hm)))⟩, fun c => absurd rfl c⟩
  · intro a b d ha1 hb1 hd1 e1 e2 e3 hni hf
    subst e1 e2 e3
    exact Or.inr ⟨rfl, hv1, hv2, hv3, N_state2 hi hm ha1 hb1 hd1 hni hf (B_ex rfl (by decide) (hk _ _ _ (jj hc ha (m := setX s1 2) hm)))⟩
  · intro a b d ha1 hb1 hd1 e1 e2 e3 hni hl hle c' hc'
    subst e1 e2 e3
    refine ⟨fun c => absurd c (by decide), fun _ => ⟨in01, hv1, hv2, hv3, N_state3 hi hm ha1 hb1 hd1 hni hl hle (fun m' hm' ht => B_ok1 ht (hk _ _ _ (jj hc' (ans_more ha ?_) hm')))⟩⟩
    show T.length ≤ (lrn (lrn (lrn T a) b) d).length
    rw [unk_len]; omega

theorem lc_1 {L : Nat} {xs : Nat → Int32} {s0 : TriS} {s1 : ModS} {s2 : Nat → Int64} {v4 : Int32} {k : TriS → ModS → (Nat → Int64) → Prop} (hv1 : vp_in (v4 + (1 : Int32)) L) (hv2 : vp_in (v4 + (2 : Int32)) L) (hv3 : vp_in (v4 + (3 : Int32)) L) (hj : JJ s0 s1) (hk : ∀ c m s, JJ c m → k c m s) : P_case1 L xs s0 s1 s2 v4 k := by
  obtain ⟨T, M, Q, A, kv, hc, ha, hm⟩ := hj
  have hi := cls_inv hc ha
  unfold P_case1
  generalize xs ((v4 + (1 : Int32))).toNatClampNeg = x1
  generalize xs ((v4 + (2 : Int32))).toNatClampNeg = x2
  generalize xs ((v4 + (3 : Int32))).toNatClampNeg = x3
  refine ⟨hv1, hv2, hv3, ?_⟩
  refine C_takeBack hc (fun n => ⟨rfl, hv1, hv2, hv3, N_takeBack0 n (B_ex rfl (by decide) (hk _ _ _ (jj hc ha (m := setX s1 1) hm)))⟩) ?_ ?_
  · intro a b d ha1 hb1 hd1 e1 e2 e3 hni
    subst e1 e2 e3
    exact ⟨fun _ => ⟨in01, hv1, hv2, hv3, N_takeBack1 hi hm ha1 hb1 hd1 hni (B_ok0 rfl (hk _ _ _ (jj hc ha (m := setX s1 0) hm)))⟩, fun c => absurd rfl c⟩
  · intro a b d ha1 hb1 hd1 e1 e2 e3 hin M' c' hp hc'
    subst e1 e2 e3
    exact ⟨fun c => absurd c (by decide), fun _ => ⟨in01, hv1, hv2, hv3, N_takeBack2 hi hm ha1 hb1 hd1 hin (fun M2 m' hp2 hm' ht => B_ok1 ht (hk _ _ _ (jj (cls_perm hc' (hp2.trans hp.symm)) ha hm')))⟩⟩

theorem lc_3 {L : Nat} {xs : Nat → Int32} {s0 : TriS} {s1 : ModS} {s2 : Nat → Int64} {v4 : Int32} {k : TriS → ModS → (Nat → Int64) → Prop} (hv1 : vp_in (v4 + (1 : Int32)) L) (hv2 : vp_in (v4 + (2 : Int32)) L) (hv3 : vp_in (v4 + (3 : Int32)) L) (hj : JJ s0 s1) (hk : ∀ c m s, JJ c m → k c m s) : P_case3 L xs s0 s1 s2 v4 k := by
  obtain ⟨T, M, Q, A, kv, hc, ha, hm⟩ := hj
  have hi := cls_inv hc ha
  unfold P_case3
  generalize xs ((v4 + (1 : Int32))).toNatClampNeg = x1
  generalize xs ((v4 + (2 : Int32))).toNatClampNeg = x2
  generalize xs ((v4 + (3 : Int32))).toNatClampNeg = x3
  refine ⟨hv1, hv2, hv3, ?_⟩
  refine C_termAt hc (fun n => Or.inl ⟨rfl, hv1, hv2, hv3, N_termAt0 n (F_ex rfl (by decide) (hk _ _ _ (jj hc ha (m := setX s1 1) hm)))⟩) (fun hx hz hn => Or.inr ⟨rfl, hv1, hv2, hv3, N_termAt1 hm.2.1 hi.2.2.2.2.2.1 hx hz hn (F_ex rfl (by decide) (hk _ _ _ (jj hc ha (m := setX s1 2) hm)))⟩) ?_
  intro o i p K ho hp e1 e2 e3 hK hpm hil hl
  subst e1 e2 e3
  exact ⟨in01, hv1, hv2, hv3, N_termAt2 hi hm ho hp hK hpm hil (fun _ => (F_ok rfl (hk _ _ _ (jj hc ha (m := setX s1 0) hm))))⟩

theorem lc_5 {L : Nat} {xs : Nat → Int32} {s0 : TriS} {s1 : ModS} {s2 : Nat → Int64} {v4 : Int32} {k : TriS → ModS → (Nat → Int64) → Prop} (hv1 : vp_in (v4 + (1 : Int32)) L) (hj : JJ s0 s1) (hk : ∀ c m s, JJ c m → k c m s) : P_case5 L xs s0 s1 s2 v4 k := by
  obtain ⟨T, M, Q, A, kv, hc, ha, hm⟩ := hj
  have hi := cls_inv hc ha
  unfold P_case5
  generalize xs ((v4 + (1 : Int32))).toNatClampNeg = x1
  refine ⟨hv1, ?_⟩
  refine C_numberOf hc (fun n => ⟨rfl, hv1, N_numberOf0 n (F_ex rfl (by decide) (hk _ _ _ (jj hc ha (m := setX s1 1) hm)))⟩) ?_ ?_
  · intro a ha1 e hni
    subst e
    refine ⟨in01, hv1, N_numberOf1 hm.1 ha1 ?_⟩
    unfold nb
    rw [if_neg hni]
    exact (F_ok rfl (hk _ _ _ (jj hc ha (m := setX s1 0) hm)))
  · intro a ha1 e hin
    subst e
    refine ⟨in01, hv1, N_numberOf1 hm.1 ha1 ?_⟩
    unfold nb
    rw [if_pos hin]
    exact (F_ok rfl (hk _ _ _ (jj hc ha (m := setX s1 0) hm)))

theorem lc_6 {L : Nat} {xs : Nat → Int32} {s0 : TriS} {s1 : ModS} {s2 : Nat → Int64} {v4 : Int32} {k : TriS → ModS → (Nat → Int64) → Prop} (hv1 : vp_in (v4 + (1 : Int32)) L) (hj : JJ s0 s1) (hk : ∀ c m s, JJ c m → k c m s) : P_case6 L xs s0 s1 s2 v4 k := by
  obtain ⟨T, M, Q, A, kv, hc, ha, hm⟩ := hj
  have hi := cls_inv hc ha
  unfold P_case6
  generalize xs ((v4 + (1 : Int32))).toNatClampNeg = x1
  refine ⟨hv1, ?_⟩
  refine C_termOf hc (fun n => ⟨rfl, hv1, N_termOf0 hm.1 hi.1 n (F_ex rfl (by decide) (hk _ _ _ (jj hc ha (m := setX s1 1) hm)))⟩) ?_
  intro i hil e
  subst e
  exact ⟨in01, hv1, N_termOf1 hm.1 hi.1 hil (F_ok rfl (hk _ _ _ (jj hc ha (m := setX s1 0) hm)))⟩

theorem lc_7 {L : Nat} {xs : Nat → Int32} {s0 : TriS} {s1 : ModS} {s2 : Nat → Int64} {v4 : Int32} {k : TriS → ModS → (Nat → Int64) → Prop} (hv1 : vp_in (v4 + (1 : Int32)) L) (hv2 : vp_in (v4 + (2 : Int32)) L) (hv3 : vp_in (v4 + (3 : Int32)) L) (hj : JJ s0 s1) (hk : ∀ c m s, JJ c m → k c m s) : P_case7 L xs s0 s1 s2 v4 k := by
  obtain ⟨T, M, Q, A, kv, hc, ha, hm⟩ := hj
  have hi := cls_inv hc ha
  unfold P_case7
  generalize xs ((v4 + (1 : Int32))).toNatClampNeg = x1
  generalize xs ((v4 + (2 : Int32))).toNatClampNeg = x2
  generalize xs ((v4 + (3 : Int32))).toNatClampNeg = x3
  refine ⟨hv1, hv2, hv3, ?_⟩
  exact C_count hc (fun n => ⟨rfl, hv1, hv2, hv3, N_count0 n (F_ex rfl (by decide) (hk _ _ _ (jj hc ha (m := setX s1 1) hm)))⟩) (fun hx hy hz => ⟨in01, hv1, hv2, hv3, N_count1 hi hm hx hy hz (F_ok rfl (hk _ _ _ (jj hc ha (m := setX s1 0) hm)))⟩)

theorem lc_9 {L : Nat} {xs : Nat → Int32} {s0 : TriS} {s1 : ModS} {s2 : Nat → Int64} {v4 : Int32} {k : TriS → ModS → (Nat → Int64) → Prop} (hv1 : vp_in (v4 + (1 : Int32)) L) (hv2 : vp_in (v4 + (2 : Int32)) L) (hj : JJ s0 s1) (hk : ∀ c m s, JJ c m → k c m s) : P_case9 L xs s0 s1 s2 v4 k := by
  obtain ⟨T, M, Q, A, kv, hc, ha, hm⟩ := hj
  have hi := cls_inv hc ha
  unfold P_case9
  generalize xs ((v4 + (1 : Int32))).toNatClampNeg = x1
  generalize xs ((v4 + (2 : Int32))).toNatClampNeg = x2
  refine ⟨hv1, hv2, ?_⟩
  refine C_seek hc (fun n => Or.inl ⟨rfl, hv1, hv2, N_seek0 n (F_ex rfl (by decide) (hk _ _ _ (jj hc ha (m := setX s1 1) hm)))⟩) ?_ ?_
  · intro o a ho ha1 e1 e2 hni
    subst e1 e2
    exact Or.inr ⟨rfl, hv1, hv2, N_seek1 hm.1 hi.1 ho ha1 hni (F_ex rfl (by decide) (hk _ _ _ (jj hc ha (m := setX s1 2) hm)))⟩
  · intro o a K ho ha1 e1 e2 hin hK hpm
    subst e1 e2
    exact ⟨in01, hv1, hv2, N_seek2 hi hm ho ha1 hin hpm (F_ok rfl (hk _ _ _ (jj hc ha (m := setX s1 0) hm)))⟩

theorem lc_11 {L : Nat} {xs : Nat → Int32} {s0 : TriS} {s1 : ModS} {s2 : Nat → Int64} {v4 : Int32} {k : TriS → ModS → (Nat → Int64) → Prop} (hv1 : vp_in (v4 + (1 : Int32)) L) (hv2 : vp_in (v4 + (2 : Int32)) L) (hv3 : vp_in (v4 + (3 : Int32)) L) (hj : JJ s0 s1) (hk : ∀ c m s, JJ c m → k c m s) : P_case11 L xs s0 s1 s2 v4 k := by
  obtain ⟨T, M, Q, A, kv, hc, ha, hm⟩ := hj
  have hi := cls_inv hc ha
  unfold P_case11
  generalize xs ((v4 + (1 : Int32))).toNatClampNeg = x1
  generalize xs ((v4 + (2 : Int32))).toNatClampNeg = x2
  generalize xs ((v4 + (3 : Int32))).toNatClampNeg = x3
  refine ⟨hv1, hv2, hv3, ?_⟩
  refine C_addPattern hc (fun n => Or.inl ⟨rfl, hv1, hv2, hv3, N_addPattern0 n (F_ex rfl (by decide) (hk _ _ _ (jj hc ha (m := setX s1 1) hm)))⟩) (fun hx hy hz hl => Or.inr ⟨rfl, hv1, hv2, hv3, N_addPattern1 hm.2.2.1 hx hy hz hl (F_ex rfl (by decide) (hk _ _ _ (jj hc ha (m := setX s1 2) hm)))⟩) ?_
  intro a b d ha1 hb1 hd1 e1 e2 e3 hl c' hc'
  subst e1 e2 e3
  exact ⟨in01, hv1, hv2, hv3, N_addPattern2 hm ha1 hb1 hd1 hl (fun m' hm' ht => F_ok ht (hk _ _ _ (jj hc' ha hm')))⟩

theorem lc_13 {L : Nat} {xs : Nat → Int32} {s0 : TriS} {s1 : ModS} {s2 : Nat → Int64} {v4 : Int32} {k : TriS → ModS → (Nat → Int64) → Prop} (hv1 : vp_in (v4 + (1 : Int32)) L) (hj : JJ s0 s1) (hk : ∀ c m s, JJ c m → k c m s) : P_case13 L xs s0 s1 s2 v4 k := by
  obtain ⟨T, M, Q, A, kv, hc, ha, hm⟩ := hj
  have hi := cls_inv hc ha
  unfold P_case13
  generalize xs ((v4 + (1 : Int32))).toNatClampNeg = x1
  refine ⟨hv1, ?_⟩
  refine C_matches hc (fun n => ⟨rfl, hv1, N_matches0 hm.2.2.1 hi.2.2.2.2.2.2.2.1 n (F_ex rfl (by decide) (hk _ _ _ (jj hc ha (m := setX s1 1) hm)))⟩) ?_
  intro i hil e c' hc'
  subst e
  exact ⟨in01, hv1, N_matches1 hi hm hil (fun m' hm' ht => F_ok ht (hk _ _ _ (jj hc' ha hm')))⟩

theorem lc_16 {L : Nat} {xs : Nat → Int32} {s0 : TriS} {s1 : ModS} {s2 : Nat → Int64} {v4 : Int32} {k : TriS → ModS → (Nat → Int64) → Prop} (hv1 : vp_in (v4 + (1 : Int32)) L) (hj : JJ s0 s1) (hk : ∀ c m s, JJ c m → k c m s) : P_case16 L xs s0 s1 s2 v4 k := by
  obtain ⟨T, M, Q, A, kv, hc, ha, hm⟩ := hj
  have hi := cls_inv hc ha
  unfold P_case16
  generalize xs ((v4 + (1 : Int32))).toNatClampNeg = x1
  refine ⟨hv1, ?_⟩
  refine C_joined hc (fun n => ⟨rfl, hv1, N_joined0 hm.2.2.1 hi.2.2.2.2.2.2.2.1 n (F_ex rfl (by decide) (hk _ _ _ (jj hc ha (m := setX s1 1) hm)))⟩) ?_
  intro i hil e c' hc'
  subst e
  exact ⟨in01, hv1, N_joined1 hi hm hil (fun m' hm' ht => F_ok ht (hk _ _ _ (jj hc' ha hm')))⟩

theorem lc_17 {L : Nat} {xs : Nat → Int32} {s0 : TriS} {s1 : ModS} {s2 : Nat → Int64} {v4 : Int32} {k : TriS → ModS → (Nat → Int64) → Prop} (hj : JJ s0 s1) (hk : ∀ c m s, JJ c m → k c m s) : P_case17 L xs s0 s1 s2 v4 k := by
  obtain ⟨T, M, Q, A, kv, hc, ha, hm⟩ := hj
  have hi := cls_inv hc ha
  unfold P_case17
  refine C_merging hc (fun hb c' hc' => ⟨rfl, N_all0 hi hm hb (fun m' hm' ht => F_ex ht (by decide) (hk _ _ _ (jj hc' ha hm')))⟩) ?_
  intro hl B c' hB hBs hc'
  have hn := rows_num hi hB
  exact ⟨in01, N_all1 hi hm hl hB hBs hc'.2.2.2.2.2.1 (fun m' hm' ht => F_ok ht (hk _ _ _ (jj hc' ⟨hBs, hn⟩ hm')))⟩

theorem lc_18 {L : Nat} {xs : Nat → Int32} {s0 : TriS} {s1 : ModS} {s2 : Nat → Int64} {v4 : Int32} {k : TriS → ModS → (Nat → Int64) → Prop} (hj : JJ s0 s1) (hk : ∀ c m s, JJ c m → k c m s) : P_case18 L xs s0 s1 s2 v4 k := by
  obtain ⟨T, M, Q, A, kv, hc, ha, hm⟩ := hj
  have hi := cls_inv hc ha
  unfold P_case18
  refine C_byVariables hc (fun hb c' hc' => ⟨rfl, N_all0 hi hm hb (fun m' hm' ht => F_ex ht (by decide) (hk _ _ _ (jj hc' ha hm')))⟩) ?_
  intro hl B c' hB hBs hc'
  have hn := rows_num hi hB
  exact ⟨in01, N_all1 hi hm hl hB hBs hc'.2.2.2.2.2.1 (fun m' hm' ht => F_ok ht (hk _ _ _ (jj hc' ⟨hBs, hn⟩ hm')))⟩

theorem lc_19 {L : Nat} {xs : Nat → Int32} {s0 : TriS} {s1 : ModS} {s2 : Nat → Int64} {v4 : Int32} {k : TriS → ModS → (Nat → Int64) → Prop} (hj : JJ s0 s1) (hk : ∀ c m s, JJ c m → k c m s) : P_case19 L xs s0 s1 s2 v4 k := by
  obtain ⟨T, M, Q, A, kv, hc, ha, hm⟩ := hj
  have hi := cls_inv hc ha
  unfold P_case19
  refine C_loops hc (fun hb c' hc' => ⟨rfl, N_all0 hi hm hb (fun m' hm' ht => F_ex ht (by decide) (hk _ _ _ (jj hc' ha hm')))⟩) ?_
  intro hl B c' hB hBs hc'
  have hn := rows_num hi hB
  exact ⟨in01, N_all1 hi hm hl hB hBs hc'.2.2.2.2.2.1 (fun m' hm' ht => F_ok ht (hk _ _ _ (jj hc' ⟨hBs, hn⟩ hm')))⟩

theorem lc_21 {L : Nat} {xs : Nat → Int32} {s0 : TriS} {s1 : ModS} {s2 : Nat → Int64} {v4 : Int32} {k : TriS → ModS → (Nat → Int64) → Prop} (hv1 : vp_in (v4 + (1 : Int32)) L) (hv2 : vp_in (v4 + (2 : Int32)) L) (hj : JJ s0 s1) (hk : ∀ c m s, JJ c m → k c m s) : P_case21 L xs s0 s1 s2 v4 k := by
  obtain ⟨T, M, Q, A, kv, hc, ha, hm⟩ := hj
  have hi := cls_inv hc ha
  unfold P_case21
  generalize xs ((v4 + (1 : Int32))).toNatClampNeg = x1
  generalize xs ((v4 + (2 : Int32))).toNatClampNeg = x2
  refine ⟨hv1, hv2, ?_⟩
  refine C_answer hc ha (fun n => Or.inl ⟨rfl, hv1, hv2, N_answer0 hm.2.2.2 hi.2.2.2.2.2.2.2.2.2.1 n (F_ex rfl (by decide) (hk _ _ _ (jj hc ha (m := setX s1 1) hm)))⟩) (fun hx hy => Or.inr ⟨rfl, hv1, hv2, N_answer1 hm.2.2.2 hi.2.2.2.2.2.2.2.2.2.1 hi.2.2.2.2.2.2.2.2.2.2.1 hx hy (F_ex rfl (by decide) (hk _ _ _ (jj hc ha (m := setX s1 2) hm)))⟩) ?_
  intro i v hil hv4 e1 e2 hb hl
  subst e1 e2
  exact ⟨in01, hv1, hv2, N_answer2 hm.1 hi.1 hm.2.2.2 ha hi.2.2.2.2.2.2.2.2.2.1 hi.2.2.2.2.2.2.2.2.2.2.1 hil hv4 hb hl (F_ok rfl (hk _ _ _ (jj hc ha (m := setX s1 0) hm)))⟩

theorem lc_22 {L : Nat} {xs : Nat → Int32} {s0 : TriS} {s1 : ModS} {s2 : Nat → Int64} {v4 : Int32} {k : TriS → ModS → (Nat → Int64) → Prop} (hv1 : vp_in (v4 + (1 : Int32)) L) (hj : JJ s0 s1) (hk : ∀ c m s, JJ c m → k c m s) : P_case22 L xs s0 s1 s2 v4 k := by
  obtain ⟨T, M, Q, A, kv, hc, ha, hm⟩ := hj
  have hi := cls_inv hc ha
  unfold P_case22
  generalize xs ((v4 + (1 : Int32))).toNatClampNeg = x1
  refine ⟨hv1, ?_⟩
  refine C_termsFor hc ha (fun n => ⟨rfl, hv1, N_termsFor0 n (F_ex rfl (by decide) (hk _ _ _ (jj hc ha (m := setX s1 1) hm)))⟩) ?_ ?_
  · intro v hv4 e hb
    subst e
    refine ⟨in01, hv1, N_termsFor1 hm.1 hi.1 hm.2.2.2 ha hi.2.2.2.2.2.2.2.2.2.1 hv4 ?_⟩
    rw [hb, if_neg (by decide)]
    exact (F_ok rfl (hk _ _ _ (jj hc ha (m := setX s1 0) hm)))
  · intro v hv4 e hb
    subst e
    refine ⟨in01, hv1, N_termsFor1 hm.1 hi.1 hm.2.2.2 ha hi.2.2.2.2.2.2.2.2.2.1 hv4 ?_⟩
    rw [hb, if_pos rfl]
    exact (F_ok rfl (hk _ _ _ (jj hc ha (m := setX s1 0) hm)))

theorem lc_8 {L : Nat} {xs : Nat → Int32} {s0 : TriS} {s1 : ModS} {s2 : Nat → Int64} {v4 : Int32} {k : TriS → ModS → (Nat → Int64) → Prop} (hv1 : vp_in (v4 + (1 : Int32)) L) (hv2 : vp_in (v4 + (2 : Int32)) L) (hv3 : vp_in (v4 + (3 : Int32)) L) (hj : JJ s0 s1) (hk : ∀ c m s, JJ c m → k c m s) : P_case8 L xs s0 s1 s2 v4 k := by
  obtain ⟨T, M, Q, A, kv, hc, ha, hm⟩ := hj
  have hi := cls_inv hc ha
  unfold P_case8
  generalize xs ((v4 + (1 : Int32))).toNatClampNeg = x1
  generalize xs ((v4 + (2 : Int32))).toNatClampNeg = x2
  generalize xs ((v4 + (3 : Int32))).toNatClampNeg = x3
  exact ⟨hv1, fun c1 => ⟨hv2, fun c2 => ⟨hv3, fun c3 => (C_orderFor (obz false) (obz false) (obz false) ⟨hv1, fun d1 => ⟨hv2, fun d2 => ⟨hv3, fun d3 => (N_orderFor (obz false) (obz false) (obz false) ⟨fun _ => hk _ _ _ (jj hc ha (m := setX s1 0) hm), fun c => absurd rfl c⟩), fun d3 => absurd c3 d3⟩, fun d2 => absurd c2 d2⟩, fun d1 => absurd c1 d1⟩), fun c3 => (C_orderFor (obz false) (obz false) (obz true) ⟨hv1, fun d1 => ⟨hv2, fun d2 => ⟨hv3, fun d3 => absurd d3 c3, fun d3 => (N_orderFor (obz false) (obz false) (obz true) ⟨fun _ => hk _ _ _ (jj hc ha (m := setX s1 0) hm), fun c => absurd rfl c⟩)⟩, fun d2 => absurd c2 d2⟩, fun d1 => absurd c1 d1⟩)⟩, fun c2 => ⟨hv3, fun c3 => (C_orderFor (obz false) (obz true) (obz false) ⟨hv1, fun d1 => ⟨hv2, fun d2 => absurd d2 c2, fun d2 => ⟨hv3, fun d3 => (N_orderFor (obz false) (obz true) (obz false) ⟨fun _ => hk _ _ _ (jj hc ha (m := setX s1 0) hm), fun c => absurd rfl c⟩), fun d3 => absurd c3 d3⟩⟩, fun d1 => absurd c1 d1⟩), fun c3 => (C_orderFor (obz false) (obz true) (obz true) ⟨hv1, fun d1 => ⟨hv2, fun d2 => absurd d2 c2, fun d2 => ⟨hv3, fun d3 => absurd d3 c3, fun d3 => (N_orderFor (obz false) (obz true) (obz true) ⟨fun _ => hk _ _ _ (jj hc ha (m := setX s1 0) hm), fun c => absurd rfl c⟩)⟩⟩, fun d1 => absurd c1 d1⟩)⟩⟩, fun c1 => ⟨hv2, fun c2 => ⟨hv3, fun c3 => (C_orderFor (obz true) (obz false) (obz false) ⟨hv1, fun d1 => absurd d1 c1, fun d1 => ⟨hv2, fun d2 => ⟨hv3, fun d3 => (N_orderFor (obz true) (obz false) (obz false) ⟨fun _ => hk _ _ _ (jj hc ha (m := setX s1 0) hm), fun c => absurd rfl c⟩), fun d3 => absurd c3 d3⟩, fun d2 => absurd c2 d2⟩⟩), fun c3 => (C_orderFor (obz true) (obz false) (obz true) ⟨hv1, fun d1 => absurd d1 c1, fun d1 => ⟨hv2, fun d2 => ⟨hv3, fun d3 => absurd d3 c3, fun d3 => (N_orderFor (obz true) (obz false) (obz true) ⟨fun _ => hk _ _ _ (jj hc ha (m := setX s1 0) hm), fun c => absurd rfl c⟩)⟩, fun d2 => absurd c2 d2⟩⟩)⟩, fun c2 => ⟨hv3, fun c3 => (C_orderFor (obz true) (obz true) (obz false) ⟨hv1, fun d1 => absurd d1 c1, fun d1 => ⟨hv2, fun d2 => absurd d2 c2, fun d2 => ⟨hv3, fun d3 => (N_orderFor (obz true) (obz true) (obz false) ⟨fun _ => hk _ _ _ (jj hc ha (m := setX s1 0) hm), fun c => absurd rfl c⟩), fun d3 => absurd c3 d3⟩⟩⟩), fun c3 => (C_orderFor (obz true) (obz true) (obz true) ⟨hv1, fun d1 => absurd d1 c1, fun d1 => ⟨hv2, fun d2 => absurd d2 c2, fun d2 => ⟨hv3, fun d3 => absurd d3 c3, fun d3 => (N_orderFor (obz true) (obz true) (obz true) ⟨fun _ => hk _ _ _ (jj hc ha (m := setX s1 0) hm), fun c => absurd rfl c⟩)⟩⟩⟩)⟩⟩⟩
