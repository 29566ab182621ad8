/-! PURE SIDE 40: the law's calls, one outcome each -/
theorem nI_i {a b : Nat} (ha : a < 104) (hb : b < 104) (h : nI a = nI b) : a = b := (nI_eq (by omega) (by omega)).mp h
theorem nN {k : Nat} (hk : k < 2147483648) {x : Int32} (h : x < 0 ∨ nI k ≤ x) : ¬ isN k x := by
  rcases h with h | h
  · exact (isN_dec hk).1 h
  · intro c
    by_cases z : x < 0
    · exact (isN_dec hk).1 z c
    · exact ((isN_dec hk).2 z).1 h c
theorem nT {x : Int32} (h : x < 0 ∨ nI 100 ≤ x) : ¬ isT x := nN (k := 100) (by omega) h
theorem nA {x : Int32} (h1 : ¬ x = -1) (h : x < 0 ∨ nI 100 ≤ x) : ¬ isA x := fun c => c.elim h1 (nT h)
theorem nV {x : Int32} (h : x < (-4 : Int32) ∨ (100 : Int32) ≤ x) : ¬ isV4 x := by
  rintro ⟨k, hk, e⟩
  have := told_dec k hk
  rw [← e] at this
  exact h.elim this.1 this.2
theorem tT {n : Nat} (h : n < 100) : isT (nI n) := ⟨n, h, rfl⟩
theorem ansOK0 (T : List Nat) : ansOK T [] 0 := ⟨List.Pairwise.nil, fun a ha => by cases ha⟩
theorem ans_more {T T' A : List Nat} {kv : Nat} (h : ansOK T A kv) (hl : T.length ≤ T'.length) : ansOK T' A kv := ⟨h.1, fun a ha => ⟨(h.2 a ha).1, fun v hv hb => Nat.lt_of_lt_of_le ((h.2 a ha).2 v hv hb) hl⟩⟩
def inv (T M : List Nat) (Q : List Pt3) (A : List Nat) (kv : Nat) : Prop := T.length ≤ 40 ∧ T.Nodup ∧ (∀ t ∈ T, t < 100) ∧ M.Nodup ∧ (∀ t ∈ M, t < 262144) ∧ M.length ≤ 60 ∧ partsOK T M ∧ Q.length ≤ 3 ∧ (∀ (i : Nat) (h : i < Q.length), okX Q[i]) ∧ A.length ≤ 2000 ∧ kv < 16 ∧ ansOK T A kv
theorem cls_inv {T M : List Nat} {Q : List Pt3} {A : List Nat} {kv : Nat} {c : TriS} (h : cls T M Q A kv c) (ha : ansOK T A kv) : inv T M Q A kv := by
  obtain ⟨a1, a2, a3, a4, a5, a6, a7, a8⟩ := h
  exact ⟨a1.2.1, a1.2.2.1, a1.2.2.2.1, a2.1, a2.2.1, sto_len a2, a3, a4.1, que_okX a4, a6, a8, ha⟩
theorem rows_num {T M : List Nat} {Q : List Pt3} {A B : List Nat} {kv : Nat} (hi : inv T M Q A kv) (h : rowsOf T M Q B) : ∀ w ∈ B, rowOK (qv Q) w ∧ ∀ v, v < 4 → (qv Q).testBit v = true → cell w v < T.length := by
  obtain ⟨i1, i2, i3, i4, i5, i6, i7, hQ, hX, -⟩ := hi
  have hV := qv_isV hX
  intro w hw
  have ha := (h.2 w).mp hw
  refine ⟨Ans_row hV ha, fun v hv hb => ?_⟩
  obtain ⟨X, hXQ, i, hi3, e⟩ := (hV.2 v hv).mp hb
  have h1 := i7 _ (ha.2.1 X hXQ) i hi3
  rw [part_inst i1 X w hi3] at h1
  unfold vv at h1
  rw [if_neg (by omega), show X i - 100 = v by omega] at h1
  exact h1
/-- what act makes of a throw -/
def AX (post : Int32 → TriS → Prop) (k : Nat) (u : TriS) : Prop := (k = 3 ∧ post (-91 : Int32) u) ∨ (k = 1 ∧ post (-92 : Int32) u) ∨ (k = 2 ∧ post (-93 : Int32) u)
theorem AX1 {post : Int32 → TriS → Prop} {u : TriS} (h : post (-92 : Int32) u) : AX post 1 u := Or.inr (Or.inl ⟨rfl, h⟩)
theorem AX2 {post : Int32 → TriS → Prop} {u : TriS} (h : post (-93 : Int32) u) : AX post 2 u := Or.inr (Or.inr ⟨rfl, h⟩)
theorem AX3 {post : Int32 → TriS → Prop} {u : TriS} (h : post (-91 : Int32) u) : AX post 3 u := Or.inl ⟨rfl, h⟩
theorem act_0 {c : TriS} {x y z : Int32} {post : Int32 → TriS → Prop} (h : P_X7_state c x y z (fun (r : Int32) (u : TriS) => (r = 0 → (post (0 : Int32) u)) ∧ (¬ (r = 0) → (post (1 : Int32) u))) (fun (k : Nat) (u : TriS) => AX post k u)) : P_L_act c (0 : Int32) x y z post := ⟨fun q => absurd rfl q, fun _ => h⟩
theorem act_1 {c : TriS} {x y z : Int32} {post : Int32 → TriS → Prop} (h : P_X7_takeBack c x y z (fun (r : Int32) (u : TriS) => (r = 0 → (post (0 : Int32) u)) ∧ (¬ (r = 0) → (post (1 : Int32) u))) (fun (k : Nat) (u : TriS) => AX post k u)) : P_L_act c (1 : Int32) x y z post := ⟨fun _ => ⟨fun q => absurd rfl q, fun _ => h⟩, fun q => absurd q (by decide)⟩
theorem act_2 {c : TriS} {x y z : Int32} {post : Int32 → TriS → Prop} (h : P_X7_termAt c x y z (fun (r : Int32) => post r c) (fun (k : Nat) => AX post k c)) : P_L_act c (2 : Int32) x y z post := ⟨fun _ => ⟨fun _ => ⟨fun q => absurd rfl q, fun _ => h⟩, fun q => absurd q (by decide)⟩, fun q => absurd q (by decide)⟩
theorem act_3 {c : TriS} {x y z : Int32} {post : Int32 → TriS → Prop} (h : P_X7_numberOf c x (fun (r : Int32) => post r c) (fun (k : Nat) => AX post k c)) : P_L_act c (3 : Int32) x y z post := ⟨fun _ => ⟨fun _ => ⟨fun _ => ⟨fun q => absurd rfl q, fun _ => h⟩, fun q => absurd q (by decide)⟩, fun q => absurd q (by decide)⟩, fun q => absurd q (by decide)⟩
theorem act_4 {c : TriS} {x y z : Int32} {post : Int32 → TriS → Prop} (h : P_X7_termOf c x (fun (r : Int32) => post r c) (fun (k : Nat) => AX post k c)) : P_L_act c (4 : Int32) x y z post := ⟨fun _ => ⟨fun _ => ⟨fun _ => ⟨fun _ => ⟨fun q => absurd rfl q, fun _ => h⟩, fun q => absurd q (by decide)⟩, fun q => absurd q (by decide)⟩, fun q => absurd q (by decide)⟩, fun q => absurd q (by decide)⟩
theorem act_5 {c : TriS} {x y z : Int32} {post : Int32 → TriS → Prop} (h : P_X7_count c x y z (fun (r : Int32) => post r c) (fun (k : Nat) => AX post k c)) : P_L_act c (5 : Int32) x y z post := ⟨fun _ => ⟨fun _ => ⟨fun _ => ⟨fun _ => ⟨fun _ => ⟨fun q => absurd rfl q, fun _ => h⟩, fun q => absurd q (by decide)⟩, fun q => absurd q (by decide)⟩, fun q => absurd q (by decide)⟩, fun q => absurd q (by decide)⟩, fun q => absurd q (by decide)⟩
theorem act_6 {c : TriS} {x y z : Int32} {post : Int32 → TriS → Prop} (h : P_X7_seek c x y (fun (r : Int32) => post r c) (fun (k : Nat) => AX post k c)) : P_L_act c (6 : Int32) x y z post := ⟨fun _ => ⟨fun _ => ⟨fun _ => ⟨fun _ => ⟨fun _ => ⟨fun _ => ⟨fun q => absurd rfl q, fun _ => h⟩, fun q => absurd q (by decide)⟩, fun q => absurd q (by decide)⟩, fun q => absurd q (by decide)⟩, fun q => absurd q (by decide)⟩, fun q => absurd q (by decide)⟩, fun q => absurd q (by decide)⟩
theorem act_7 {c : TriS} {x y z : Int32} {post : Int32 → TriS → Prop} (h : P_X7_addPattern c x y z (fun (r : Int32) (u : TriS) => post r u) (fun (k : Nat) (u : TriS) => AX post k u)) : P_L_act c (7 : Int32) x y z post := ⟨fun _ => ⟨fun _ => ⟨fun _ => ⟨fun _ => ⟨fun _ => ⟨fun _ => ⟨fun _ => ⟨fun q => absurd rfl q, fun _ => h⟩, fun q => absurd q (by decide)⟩, fun q => absurd q (by decide)⟩, fun q => absurd q (by decide)⟩, fun q => absurd q (by decide)⟩, fun q => absurd q (by decide)⟩, fun q => absurd q (by decide)⟩, fun q => absurd q (by decide)⟩
theorem act_8 {c : TriS} {x y z : Int32} {post : Int32 → TriS → Prop} (h : P_X7_matches c x (fun (r : Int32) (u : TriS) => post r u) (fun (k : Nat) (u : TriS) => AX post k u)) : P_L_act c (8 : Int32) x y z post := ⟨fun _ => ⟨fun _ => ⟨fun _ => ⟨fun _ => ⟨fun _ => ⟨fun _ => ⟨fun _ => ⟨fun _ => ⟨fun q => absurd rfl q, fun _ => h⟩, fun q => absurd q (by decide)⟩, fun q => absurd q (by decide)⟩, fun q => absurd q (by decide)⟩, fun q => absurd q (by decide)⟩, fun q => absurd q (by decide)⟩, fun q => absurd q (by decide)⟩, fun q => absurd q (by decide)⟩, fun q => absurd q (by decide)⟩
theorem act_9 {c : TriS} {x y z : Int32} {post : Int32 → TriS → Prop} (h : P_X7_joined c x (fun (r : Int32) (u : TriS) => post r u) (fun (k : Nat) (u : TriS) => AX post k u)) : P_L_act c (9 : Int32) x y z post := ⟨fun _ => ⟨fun _ => ⟨fun _ => ⟨fun _ => ⟨fun _ => ⟨fun _ => ⟨fun _ => ⟨fun _ => ⟨fun _ => ⟨fun q => absurd rfl q, fun _ => h⟩, fun q => absurd q (by decide)⟩, fun q => absurd q (by decide)⟩, fun q => absurd q (by decide)⟩, fun q => absurd q (by decide)⟩, fun q => absurd q (by decide)⟩, fun q => absurd q (by decide)⟩, fun q => absurd q (by decide)⟩, fun q => absurd q (by decide)⟩, fun q => absurd q (by decide)⟩
theorem act_10 {c : TriS} {x y z : Int32} {post : Int32 → TriS → Prop} (h : P_X7_answerByMerging c  (fun (r : Int32) (u : TriS) => post r u) (fun (k : Nat) (u : TriS) => AX post k u)) : P_L_act c (10 : Int32) x y z post := ⟨fun _ => ⟨fun _ => ⟨fun _ => ⟨fun _ => ⟨fun _ => ⟨fun _ => ⟨fun _ => ⟨fun _ => ⟨fun _ => ⟨fun _ => ⟨fun q => absurd rfl q, fun _ => h⟩, fun q => absurd q (by decide)⟩, fun q => absurd q (by decide)⟩, fun q => absurd q (by decide)⟩, fun q => absurd q (by decide)⟩, fun q => absurd q (by decide)⟩, fun q => absurd q (by decide)⟩, fun q => absurd q (by decide)⟩, fun q => absurd q (by decide)⟩, fun q => absurd q (by decide)⟩, fun q => absurd q (by decide)⟩
theorem act_11 {c : TriS} {x y z : Int32} {post : Int32 → TriS → Prop} (h : P_X7_answerByVariables c  (fun (r : Int32) (u : TriS) => post r u) (fun (k : Nat) (u : TriS) => AX post k u)) : P_L_act c (11 : Int32) x y z post := ⟨fun _ => ⟨fun _ => ⟨fun _ => ⟨fun _ => ⟨fun _ => ⟨fun _ => ⟨fun _ => ⟨fun _ => ⟨fun _ => ⟨fun _ => ⟨fun _ => ⟨fun q => absurd rfl q, fun _ => h⟩, fun q => absurd q (by decide)⟩, fun q => absurd q (by decide)⟩, fun q => absurd q (by decide)⟩, fun q => absurd q (by decide)⟩, fun q => absurd q (by decide)⟩, fun q => absurd q (by decide)⟩, fun q => absurd q (by decide)⟩, fun q => absurd q (by decide)⟩, fun q => absurd q (by decide)⟩, fun q => absurd q (by decide)⟩, fun q => absurd q (by decide)⟩
theorem act_12 {c : TriS} {x y z : Int32} {post : Int32 → TriS → Prop} (h : P_X7_answerByLoops c  (fun (r : Int32) (u : TriS) => post r u) (fun (k : Nat) (u : TriS) => AX post k u)) : P_L_act c (12 : Int32) x y z post := ⟨fun _ => ⟨fun _ => ⟨fun _ => ⟨fun _ => ⟨fun _ => ⟨fun _ => ⟨fun _ => ⟨fun _ => ⟨fun _ => ⟨fun _ => ⟨fun _ => ⟨fun _ => ⟨fun q => absurd rfl q, fun _ => h⟩, fun q => absurd q (by decide)⟩, fun q => absurd q (by decide)⟩, fun q => absurd q (by decide)⟩, fun q => absurd q (by decide)⟩, fun q => absurd q (by decide)⟩, fun q => absurd q (by decide)⟩, fun q => absurd q (by decide)⟩, fun q => absurd q (by decide)⟩, fun q => absurd q (by decide)⟩, fun q => absurd q (by decide)⟩, fun q => absurd q (by decide)⟩, fun q => absurd q (by decide)⟩
theorem act_13 {c : TriS} {x y z : Int32} {post : Int32 → TriS → Prop} (h : P_X7_answer c x y (fun (r : Int32) => post r c) (fun (k : Nat) => AX post k c)) : P_L_act c (13 : Int32) x y z post := ⟨fun _ => ⟨fun _ => ⟨fun _ => ⟨fun _ => ⟨fun _ => ⟨fun _ => ⟨fun _ => ⟨fun _ => ⟨fun _ => ⟨fun _ => ⟨fun _ => ⟨fun _ => ⟨fun _ => ⟨fun q => absurd rfl q, fun _ => h⟩, fun q => absurd q (by decide)⟩, fun q => absurd q (by decide)⟩, fun q => absurd q (by decide)⟩, fun q => absurd q (by decide)⟩, fun q => absurd q (by decide)⟩, fun q => absurd q (by decide)⟩, fun q => absurd q (by decide)⟩, fun q => absurd q (by decide)⟩, fun q => absurd q (by decide)⟩, fun q => absurd q (by decide)⟩, fun q => absurd q (by decide)⟩, fun q => absurd q (by decide)⟩, fun q => absurd q (by decide)⟩
theorem act_14 {c : TriS} {x y z : Int32} {post : Int32 → TriS → Prop} (h : P_X7_termsFor c x (fun (r : Int32) => post r c) (fun (k : Nat) => AX post k c)) : P_L_act c (14 : Int32) x y z post := ⟨fun _ => ⟨fun _ => ⟨fun _ => ⟨fun _ => ⟨fun _ => ⟨fun _ => ⟨fun _ => ⟨fun _ => ⟨fun _ => ⟨fun _ => ⟨fun _ => ⟨fun _ => ⟨fun _ => ⟨fun _ => h, fun q => absurd q (by decide)⟩, fun q => absurd q (by decide)⟩, fun q => absurd q (by decide)⟩, fun q => absurd q (by decide)⟩, fun q => absurd q (by decide)⟩, fun q => absurd q (by decide)⟩, fun q => absurd q (by decide)⟩, fun q => absurd q (by decide)⟩, fun q => absurd q (by decide)⟩, fun q => absurd q (by decide)⟩, fun q => absurd q (by decide)⟩, fun q => absurd q (by decide)⟩, fun q => absurd q (by decide)⟩, fun q => absurd q (by decide)⟩

/-- refusals: nothing changes -/
theorem ar_0 {T M : List Nat} {Q : List Pt3} {A : List Nat} {kv : Nat} {c : TriS} {x y z : Int32} {post : Int32 → TriS → Prop} (hc : cls T M Q A kv c) (n : ¬ (isT x ∧ isT y ∧ isT z)) (h : ∀ c, cls T M Q A kv c → post (-92 : Int32) c) : P_L_act c (0 : Int32) x y z post :=
  act_0 (C_state hc (fun _ => AX1 (h _ hc)) (fun a b d ha hb hd e1 e2 e3 => absurd ⟨⟨a, ha, e1⟩, ⟨b, hb, e2⟩, ⟨d, hd, e3⟩⟩ n) (fun a b d ha hb hd e1 e2 e3 => absurd ⟨⟨a, ha, e1⟩, ⟨b, hb, e2⟩, ⟨d, hd, e3⟩⟩ n) (fun a b d ha hb hd e1 e2 e3 => absurd ⟨⟨a, ha, e1⟩, ⟨b, hb, e2⟩, ⟨d, hd, e3⟩⟩ n))
theorem ar_1 {T M : List Nat} {Q : List Pt3} {A : List Nat} {kv : Nat} {c : TriS} {x y z : Int32} {post : Int32 → TriS → Prop} (hc : cls T M Q A kv c) (n : ¬ (isT x ∧ isT y ∧ isT z)) (h : ∀ c, cls T M Q A kv c → post (-92 : Int32) c) : P_L_act c (1 : Int32) x y z post :=
  act_1 (C_takeBack hc (fun _ => AX1 (h _ hc)) (fun a b d ha hb hd e1 e2 e3 => absurd ⟨⟨a, ha, e1⟩, ⟨b, hb, e2⟩, ⟨d, hd, e3⟩⟩ n) (fun a b d ha hb hd e1 e2 e3 => absurd ⟨⟨a, ha, e1⟩, ⟨b, hb, e2⟩, ⟨d, hd, e3⟩⟩ n))
theorem ar_2 {T M : List Nat} {Q : List Pt3} {A : List Nat} {kv : Nat} {c : TriS} {x y z : Int32} {post : Int32 → TriS → Prop} (hc : cls T M Q A kv c) (n : ¬ (isN 3 x ∧ isN 3 z)) (h : ∀ c, cls T M Q A kv c → post (-92 : Int32) c) : P_L_act c (2 : Int32) x y z post :=
  act_2 (C_termAt hc (fun _ => AX1 (h _ hc)) (fun h1 h2 => absurd ⟨h1, h2⟩ n) (fun o i p K ho hp e1 e2 e3 => absurd ⟨⟨o, ho, e1⟩, ⟨p, hp, e3⟩⟩ n))
theorem ar_2p {T M : List Nat} {Q : List Pt3} {A : List Nat} {kv : Nat} {c : TriS} {x y z : Int32} {post : Int32 → TriS → Prop} (hc : cls T M Q A kv c) (g : isN 3 x ∧ isN 3 z) (n : ¬ isN M.length y) (h : ∀ c, cls T M Q A kv c → post (-91 : Int32) c) : P_L_act c (2 : Int32) x y z post :=
  act_2 (C_termAt hc (fun n2 => absurd g n2) (fun _ _ _ => AX3 (h _ hc)) (fun o i p K ho hp e1 e2 e3 hK hpm hi => absurd ⟨i, by rw [hpm.length_eq] at hi; unfold keysOf at hi; rw [List.length_map] at hi; exact hi, e2⟩ n))
theorem ar_3 {T M : List Nat} {Q : List Pt3} {A : List Nat} {kv : Nat} {c : TriS} {x y z : Int32} {post : Int32 → TriS → Prop} (hc : cls T M Q A kv c) (n : ¬ isT x) (h : ∀ c, cls T M Q A kv c → post (-92 : Int32) c) : P_L_act c (3 : Int32) x y z post :=
  act_3 (C_numberOf hc (fun _ => AX1 (h _ hc)) (fun a ha e => absurd ⟨a, ha, e⟩ n) (fun a ha e => absurd ⟨a, ha, e⟩ n))
theorem ar_4 {T M : List Nat} {Q : List Pt3} {A : List Nat} {kv : Nat} {c : TriS} {x y z : Int32} {post : Int32 → TriS → Prop} (hc : cls T M Q A kv c) (n : ¬ isN T.length x) (h : ∀ c, cls T M Q A kv c → post (-91 : Int32) c) : P_L_act c (4 : Int32) x y z post :=
  act_4 (C_termOf hc (fun _ => AX3 (h _ hc)) (fun i hi e => absurd ⟨i, hi, e⟩ n))
theorem ar_5 {T M : List Nat} {Q : List Pt3} {A : List Nat} {kv : Nat} {c : TriS} {x y z : Int32} {post : Int32 → TriS → Prop} (hc : cls T M Q A kv c) (n : ¬ (isA x ∧ isA y ∧ isA z)) (h : ∀ c, cls T M Q A kv c → post (-92 : Int32) c) : P_L_act c (5 : Int32) x y z post :=
  act_5 (C_count hc (fun _ => AX1 (h _ hc)) (fun h1 h2 h3 => absurd ⟨h1, h2, h3⟩ n))
theorem ar_6 {T M : List Nat} {Q : List Pt3} {A : List Nat} {kv : Nat} {c : TriS} {x y z : Int32} {post : Int32 → TriS → Prop} (hc : cls T M Q A kv c) (n : ¬ (isN 3 x ∧ isT y)) (h : ∀ c, cls T M Q A kv c → post (-92 : Int32) c) : P_L_act c (6 : Int32) x y z post :=
  act_6 (C_seek hc (fun _ => AX1 (h _ hc)) (fun o a ho ha e1 e2 => absurd ⟨⟨o, ho, e1⟩, ⟨a, ha, e2⟩⟩ n) (fun o a K ho ha e1 e2 => absurd ⟨⟨o, ho, e1⟩, ⟨a, ha, e2⟩⟩ n))
theorem ar_6s {T M : List Nat} {Q : List Pt3} {A : List Nat} {kv : Nat} {c : TriS} {o0 a0 : Nat} {z : Int32} {post : Int32 → TriS → Prop} (hc : cls T M Q A kv c) (ho0 : o0 < 3) (ha0 : a0 < 100) (n : a0 ∉ T) (h : ∀ c, cls T M Q A kv c → post (-93 : Int32) c) : P_L_act c (6 : Int32) (nI o0) (nI a0) z post :=
  act_6 (C_seek hc (fun q => absurd ⟨⟨o0, ho0, rfl⟩, ⟨a0, ha0, rfl⟩⟩ q) (fun _ _ _ _ _ _ _ => AX2 (h _ hc)) (fun o a K ho ha e1 e2 hin => absurd (by rw [nI_i (by omega) (by omega) e2]; exact hin) n))
theorem ar_7 {T M : List Nat} {Q : List Pt3} {A : List Nat} {kv : Nat} {c : TriS} {x y z : Int32} {post : Int32 → TriS → Prop} (hc : cls T M Q A kv c) (n : ¬ (isV4 x ∧ isV4 y ∧ isV4 z)) (h : ∀ c, cls T M Q A kv c → post (-92 : Int32) c) : P_L_act c (7 : Int32) x y z post :=
  act_7 (C_addPattern hc (fun _ => AX1 (h _ hc)) (fun h1 h2 h3 => absurd ⟨h1, h2, h3⟩ n) (fun a b d ha hb hd e1 e2 e3 => absurd ⟨⟨a, ha, e1⟩, ⟨b, hb, e2⟩, ⟨d, hd, e3⟩⟩ n))
theorem ar_7s {T M : List Nat} {Q : List Pt3} {A : List Nat} {kv : Nat} {c : TriS} {x y z : Int32} {post : Int32 → TriS → Prop} (hc : cls T M Q A kv c) (g : isV4 x ∧ isV4 y ∧ isV4 z) (n : Q.length = 3) (h : ∀ c, cls T M Q A kv c → post (-93 : Int32) c) : P_L_act c (7 : Int32) x y z post :=
  act_7 (C_addPattern hc (fun q => absurd g q) (fun _ _ _ _ => AX2 (h _ hc)) (fun a b d ha hb hd e1 e2 e3 hl => absurd n (by omega)))
theorem ar_8 {T M : List Nat} {Q : List Pt3} {A : List Nat} {kv : Nat} {c : TriS} {x y z : Int32} {post : Int32 → TriS → Prop} (hc : cls T M Q A kv c) (n : ¬ isN Q.length x) (h : ∀ c, cls T M Q A kv c → post (-91 : Int32) c) : P_L_act c (8 : Int32) x y z post :=
  act_8 (C_matches hc (fun _ => AX3 (h _ hc)) (fun i hi e => absurd ⟨i, hi, e⟩ n))
theorem ar_9 {T M : List Nat} {Q : List Pt3} {A : List Nat} {kv : Nat} {c : TriS} {x y z : Int32} {post : Int32 → TriS → Prop} (hc : cls T M Q A kv c) (n : ¬ isN Q.length x) (h : ∀ c, cls T M Q A kv c → post (-91 : Int32) c) : P_L_act c (9 : Int32) x y z post :=
  act_9 (C_joined hc (fun _ => AX3 (h _ hc)) (fun i hi e => absurd ⟨i, hi, e⟩ n))
theorem ar_13 {T M : List Nat} {Q : List Pt3} {A : List Nat} {kv : Nat} {c : TriS} {x y z : Int32} {post : Int32 → TriS → Prop} (hc : cls T M Q A kv c) (ha : ansOK T A kv) (n : ¬ isN A.length x) (h : ∀ c, cls T M Q A kv c → post (-91 : Int32) c) : P_L_act c (13 : Int32) x y z post :=
  act_13 (C_answer hc ha (fun _ => AX3 (h _ hc)) (fun g _ => absurd g n) (fun i v hi hv e1 e2 => absurd ⟨i, hi, e1⟩ n))
theorem ar_13v {T M : List Nat} {Q : List Pt3} {A : List Nat} {kv : Nat} {c : TriS} {x y z : Int32} {post : Int32 → TriS → Prop} (hc : cls T M Q A kv c) (ha : ansOK T A kv) (g : isN A.length x) (n : ∀ v, v < 4 → y = nI v → kv.testBit v = false) (h : ∀ c, cls T M Q A kv c → post (-92 : Int32) c) : P_L_act c (13 : Int32) x y z post :=
  act_13 (C_answer hc ha (fun q => absurd g q) (fun _ _ => AX1 (h _ hc)) (fun i v hi hv e1 e2 hb => absurd hb (by rw [n v hv e2]; decide)))
theorem ar_14 {T M : List Nat} {Q : List Pt3} {A : List Nat} {kv : Nat} {c : TriS} {x y z : Int32} {post : Int32 → TriS → Prop} (hc : cls T M Q A kv c) (ha : ansOK T A kv) (n : ¬ isN 4 x) (h : ∀ c, cls T M Q A kv c → post (-92 : Int32) c) : P_L_act c (14 : Int32) x y z post :=
  act_14 (C_termsFor hc ha (fun _ => AX1 (h _ hc)) (fun v hv e => absurd ⟨v, hv, e⟩ n) (fun v hv e => absurd ⟨v, hv, e⟩ n))
/-- the store's two kinds of full -/
theorem ar_0f {T M : List Nat} {Q : List Pt3} {A : List Nat} {kv : Nat} {c : TriS} {a0 b0 d0 : Nat} {post : Int32 → TriS → Prop} (hc : cls T M Q A kv c) (ha0 : a0 < 100) (hb0 : b0 < 100) (hd0 : d0 < 100) (n : enc (num T a0) (num T b0) (num T d0) ∉ M) (hf : 60 ≤ M.length ∨ 40 < T.length + unk T a0 b0 d0) (h : ∀ c, cls T M Q A kv c → post (-93 : Int32) c) : P_L_act c (0 : Int32) (nI a0) (nI b0) (nI d0) post :=
  act_0 (C_state hc (fun q => absurd ⟨tT ha0, tT hb0, tT hd0⟩ q)
    (fun a b d ha hb hd e1 e2 e3 g => absurd (by rw [nI_i (by omega) (by omega) e1, nI_i (by omega) (by omega) e2, nI_i (by omega) (by omega) e3]; exact g) n)
    (fun _ _ _ _ _ _ _ _ _ _ _ => AX2 (h _ hc))
    (fun a b d ha hb hd e1 e2 e3 _ h1 h2 => by
      obtain rfl := nI_i (by omega) (by omega) e1
      obtain rfl := nI_i (by omega) (by omega) e2
      obtain rfl := nI_i (by omega) (by omega) e3
      omega))
/-- a triple that is there, one that comes, one that goes -/
theorem D_state0 {T M : List Nat} {Q : List Pt3} {A : List Nat} {kv : Nat} {c : TriS} {post : Int32 → TriS → Prop} {postX : Nat → TriS → Prop} (a0 b0 d0 : Nat) (hc : cls T M Q A kv c) (ha0 : a0 < 100) (hb0 : b0 < 100) (hd0 : d0 < 100) (n : enc (num T a0) (num T b0) (num T d0) ∈ M) (h : ∀ c, cls T M Q A kv c → post 0 c) : P_X7_state c (nI a0) (nI b0) (nI d0) post postX :=
  C_state hc (fun q => absurd ⟨tT ha0, tT hb0, tT hd0⟩ q) (fun _ _ _ _ _ _ _ _ _ _ => h _ hc)
    (fun a b d ha hb hd e1 e2 e3 g => absurd (by rw [← nI_i (by omega) (by omega) e1, ← nI_i (by omega) (by omega) e2, ← nI_i (by omega) (by omega) e3]; exact n) g)
    (fun a b d ha hb hd e1 e2 e3 g => absurd (by rw [← nI_i (by omega) (by omega) e1, ← nI_i (by omega) (by omega) e2, ← nI_i (by omega) (by omega) e3]; exact n) g)
theorem D_state1 {T M : List Nat} {Q : List Pt3} {A : List Nat} {kv : Nat} {c : TriS} {post : Int32 → TriS → Prop} {postX : Nat → TriS → Prop} (a0 b0 d0 : Nat) (T' M' : List Nat) (hc : cls T M Q A kv c) (ha0 : a0 < 100) (hb0 : b0 < 100) (hd0 : d0 < 100) (n : enc (num T a0) (num T b0) (num T d0) ∉ M) (hf : M.length < 60 ∧ T.length + unk T a0 b0 d0 ≤ 40) (eT : lrn3 T a0 b0 d0 = T') (eM : M ++ [enc (num T' a0) (num T' b0) (num T' d0)] = M') (h : ∀ c, cls T' M' Q A kv c → post 1 c) : P_X7_state c (nI a0) (nI b0) (nI d0) post postX :=
  C_state hc (fun q => absurd ⟨tT ha0, tT hb0, tT hd0⟩ q)
    (fun a b d ha hb hd e1 e2 e3 g => absurd (by rw [nI_i (by omega) (by omega) e1, nI_i (by omega) (by omega) e2, nI_i (by omega) (by omega) e3]; exact g) n)
    (fun a b d ha hb hd e1 e2 e3 _ g => by
      obtain rfl := nI_i (by omega) (by omega) e1
      obtain rfl := nI_i (by omega) (by omega) e2
      obtain rfl := nI_i (by omega) (by omega) e3
      omega)
    (fun a b d ha hb hd e1 e2 e3 _ _ _ c' hc' => by
      obtain rfl := nI_i (by omega) (by omega) e1
      obtain rfl := nI_i (by omega) (by omega) e2
      obtain rfl := nI_i (by omega) (by omega) e3
      rw [eT, eM] at hc'
      exact h c' hc')
theorem D_takeBack0 {T M : List Nat} {Q : List Pt3} {A : List Nat} {kv : Nat} {c : TriS} {post : Int32 → TriS → Prop} {postX : Nat → TriS → Prop} (a0 b0 d0 : Nat) (hc : cls T M Q A kv c) (ha0 : a0 < 100) (hb0 : b0 < 100) (hd0 : d0 < 100) (n : enc (num T a0) (num T b0) (num T d0) ∉ M) (h : ∀ c, cls T M Q A kv c → post 0 c) : P_X7_takeBack c (nI a0) (nI b0) (nI d0) post postX :=
  C_takeBack hc (fun q => absurd ⟨tT ha0, tT hb0, tT hd0⟩ q) (fun _ _ _ _ _ _ _ _ _ _ => h _ hc)
    (fun a b d ha hb hd e1 e2 e3 g => absurd (by rw [nI_i (by omega) (by omega) e1, nI_i (by omega) (by omega) e2, nI_i (by omega) (by omega) e3]; exact g) n)
theorem D_takeBack1 {T M : List Nat} {Q : List Pt3} {A : List Nat} {kv : Nat} {c : TriS} {post : Int32 → TriS → Prop} {postX : Nat → TriS → Prop} (a0 b0 d0 : Nat) (M' : List Nat) (hc : cls T M Q A kv c) (ha0 : a0 < 100) (hb0 : b0 < 100) (hd0 : d0 < 100) (n : enc (num T a0) (num T b0) (num T d0) ∈ M) (eM : M.erase (enc (num T a0) (num T b0) (num T d0)) = M') (h : ∀ c, cls T M' Q A kv c → post 1 c) : P_X7_takeBack c (nI a0) (nI b0) (nI d0) post postX :=
  C_takeBack hc (fun q => absurd ⟨tT ha0, tT hb0, tT hd0⟩ q)
    (fun a b d ha hb hd e1 e2 e3 g => absurd (by rw [← nI_i (by omega) (by omega) e1, ← nI_i (by omega) (by omega) e2, ← nI_i (by omega) (by omega) e3]; exact n) g)
    (fun a b d ha hb hd e1 e2 e3 _ M2 c' hp hc' => by
      obtain rfl := nI_i (by omega) (by omega) e1
      obtain rfl := nI_i (by omega) (by omega) e2
      obtain rfl := nI_i (by omega) (by omega) e3
      rw [eM] at hp
      exact h c' (cls_perm hc' hp.symm))
/-- readers -/
theorem D_triples {T M : List Nat} {Q : List Pt3} {A : List Nat} {kv : Nat} {c : TriS} {post : Int32 → Prop} (n : Nat) (hc : cls T M Q A kv c) (e : M.length = n) (h : post (nI n)) : P_X7_triples c post := C_triples hc (by rw [e]; exact h)
theorem D_terms {T M : List Nat} {Q : List Pt3} {A : List Nat} {kv : Nat} {c : TriS} {post : Int32 → Prop} (n : Nat) (hc : cls T M Q A kv c) (e : T.length = n) (h : post (nI n)) : P_X7_terms c post := C_terms hc (by rw [e]; exact h)
theorem D_patterns {T M : List Nat} {Q : List Pt3} {A : List Nat} {kv : Nat} {c : TriS} {post : Int32 → Prop} (n : Nat) (hc : cls T M Q A kv c) (e : Q.length = n) (h : post (nI n)) : P_X7_patterns c post := C_patterns hc (by rw [e]; exact h)
theorem D_answers {T M : List Nat} {Q : List Pt3} {A : List Nat} {kv : Nat} {c : TriS} {post : Int32 → Prop} (n : Nat) (hc : cls T M Q A kv c) (e : A.length = n) (h : post (nI n)) : P_X7_answers c post := C_answers hc (by rw [e]; exact h)
theorem D_variables {T M : List Nat} {Q : List Pt3} {A : List Nat} {kv : Nat} {c : TriS} {post : Int32 → Prop} (n : Nat) (hc : cls T M Q A kv c) (e : qv Q = n) (h : post (nI n)) : P_X7_variables c post := C_variables hc (by rw [e]; exact h)
theorem D_shape {T M : List Nat} {Q : List Pt3} {A : List Nat} {kv : Nat} {c : TriS} {post : Int32 → Prop} (n : Nat) (hc : cls T M Q A kv c) (e : shp Q = n) (h : post (nI n)) : P_X7_shape c post := C_shape hc (by rw [e]; exact h)
theorem D_numberOf {T M : List Nat} {Q : List Pt3} {A : List Nat} {kv : Nat} {c : TriS} {post : Int32 → Prop} {postX : Nat → Prop} (a0 : Nat) (r : Int32) (hc : cls T M Q A kv c) (ha0 : a0 < 100) (e : (if a0 ∈ T then nI (T.idxOf a0) else (-1 : Int32)) = r) (h : post r) : P_X7_numberOf c (nI a0) post postX :=
  C_numberOf hc (fun q => absurd (tT ha0) q)
    (fun a ha e1 g => by obtain rfl := nI_i (by omega) (by omega) e1; rw [if_neg g] at e; rw [e]; exact h)
    (fun a ha e1 g => by obtain rfl := nI_i (by omega) (by omega) e1; rw [if_pos g] at e; rw [e]; exact h)
theorem D_termOf {T M : List Nat} {Q : List Pt3} {A : List Nat} {kv : Nat} {c : TriS} {post : Int32 → Prop} {postX : Nat → Prop} (i t : Nat) (hc : cls T M Q A kv c) (e : T[i]? = some t) (h : post (nI t)) : P_X7_termOf c (nI i) post postX := by
  have hT := hc.1.2.1
  obtain ⟨hi, e⟩ := List.getElem?_eq_some_iff.mp e
  exact C_termOf hc (fun q => absurd ⟨i, hi, rfl⟩ q) (fun j hj e1 => by
    obtain rfl := nI_i (by omega) (by omega) e1
    rw [e]; exact h)
theorem SL_ext : ∀ {K L : List Nat}, SL K → SL L → (∀ x, x ∈ K ↔ x ∈ L) → K = L
  | [], [], _, _, _ => rfl
  | [], b :: L, _, _, h => absurd ((h b).mpr List.mem_cons_self) (by simp)
  | a :: K, [], _, _, h => absurd ((h a).mp List.mem_cons_self) (by simp)
  | a :: K, b :: L, hK, hL, h => by
    obtain ⟨k1, k2⟩ := List.pairwise_cons.mp hK
    obtain ⟨l1, l2⟩ := List.pairwise_cons.mp hL
    have e : a = b := by
      rcases List.mem_cons.mp ((h a).mp List.mem_cons_self) with e | e
      · exact e
      · rcases List.mem_cons.mp ((h b).mpr List.mem_cons_self) with g | g
        · exact g.symm
        · have := k1 b g; have := l1 a e; omega
    subst e
    refine congrArg _ (SL_ext k2 l2 (fun x => ⟨fun q => ?_, fun q => ?_⟩))
    · rcases List.mem_cons.mp ((h x).mp (List.mem_cons_of_mem _ q)) with e | e
      · subst e; exact absurd (k1 x q) (by omega)
      · exact e
    · rcases List.mem_cons.mp ((h x).mpr (List.mem_cons_of_mem _ q)) with e | e
      · subst e; exact absurd (l1 x q) (by omega)
      · exact e
theorem D_termAt {T M : List Nat} {Q : List Pt3} {A : List Nat} {kv : Nat} {c : TriS} {post : Int32 → Prop} {postX : Nat → Prop} (o0 i0 p0 : Nat) (K0 : List Nat) (t : Nat) (hc : cls T M Q A kv c) (ho : o0 < 3) (hp : p0 < 3) (hi : i0 < K0.length) (h1 : SL K0) (h2 : ∀ x ∈ K0, x ∈ keysOf M o0) (h3 : ∀ x ∈ keysOf M o0, x ∈ K0) (e : T[part (rol (K0[i0]?.getD 0) ((3 - o0) % 3)) p0]? = some t) (h : post (nI t)) : P_X7_termAt c (nI o0) (nI i0) (nI p0) post postX := by
  have hM := (sto_len hc.2.1)
  have key : ∀ K, SL K → K.Perm (keysOf M o0) → K = K0 := fun K g1 g2 => SL_ext g1 h1 (fun x => ⟨fun q => h3 x (g2.mem_iff.mp q), fun q => g2.mem_iff.mpr (h2 x q)⟩)
  have hl : K0.length ≤ M.length := by
    have := nodup_len (List.Pairwise.imp (fun {a b} (z : a < b) => Nat.ne_of_lt z) h1) h2
    unfold keysOf at this
    rw [List.length_map] at this
    exact this
  refine C_termAt hc (fun q => absurd ⟨⟨o0, ho, rfl⟩, ⟨p0, hp, rfl⟩⟩ q) (fun _ _ q => absurd ⟨i0, by omega, rfl⟩ q) (fun o i p K ho' hp' e1 e2 e3 hK hpm hi' hp2 => ?_)
  obtain rfl := nI_i (by omega) (by omega) e1
  have hi2 : i < 104 := by rw [hpm.length_eq] at hi'; unfold keysOf at hi'; rw [List.length_map] at hi'; omega
  obtain rfl := nI_i (by omega) hi2 e2
  obtain rfl := nI_i (by omega) (by omega) e3
  obtain rfl := key K hK hpm
  rw [List.getElem?_eq_getElem hi'] at e
  obtain ⟨g1, g2⟩ := List.getElem?_eq_some_iff.mp e
  have g3 : T[part (rol K[i0] ((3 - o0) % 3)) p0] = t := g2
  rw [g3]; exact h
theorem D_count {T M : List Nat} {Q : List Pt3} {A : List Nat} {kv : Nat} {c : TriS} {x y z : Int32} {post : Int32 → Prop} {postX : Nat → Prop} (n : Nat) (hc : cls T M Q A kv c) (hx : isA x) (hy : isA y) (hz : isA z) (e : M.countP (mat (ax x) (ax y) (ax z) (an T x) (an T y) (an T z)) = n) (h : post (nI n)) : P_X7_count c x y z post postX :=
  C_count hc (fun q => absurd ⟨hx, hy, hz⟩ q) (fun _ _ _ => by rw [e]; exact h)
theorem D_seek {T M : List Nat} {Q : List Pt3} {A : List Nat} {kv : Nat} {c : TriS} {post : Int32 → Prop} {postX : Nat → Prop} (o0 a0 n : Nat) (hc : cls T M Q A kv c) (ho : o0 < 3) (ha0 : a0 < 100) (hin : a0 ∈ T) (e : (keysOf M o0).countP (fun k => decide (k < rol (fld o0 (T.idxOf a0)) o0)) = n) (h : post (nI n)) : P_X7_seek c (nI o0) (nI a0) post postX :=
  C_seek hc (fun q => absurd ⟨⟨o0, ho, rfl⟩, ⟨a0, ha0, rfl⟩⟩ q) (fun o a _ ha _ e2 g => absurd (by rw [← nI_i (by omega) (by omega) e2]; exact hin) g) (fun o a K ho' ha' e1 e2 _ hK hpm => by
    obtain rfl := nI_i (by omega) (by omega) e1
    obtain rfl := nI_i (by omega) (by omega) e2
    have g : rk K (rol (fld o0 (T.idxOf a0)) o0) = n := by unfold rk; rw [hpm.countP_eq]; exact e
    rw [g]; exact h)
/-- the query -/
theorem D_forget {T M : List Nat} {Q : List Pt3} {A : List Nat} {kv : Nat} {c : TriS} {post : Int32 → TriS → Prop} (n : Nat) (hc : cls T M Q A kv c) (e : Q.length = n) (h : ∀ c, cls T M [] A kv c → post (nI n) c) : P_X7_forget c post := C_forget hc (fun c' hc' => by rw [e]; exact h c' hc')
theorem told_i : ∀ a, a < 104 → ∀ b, b < 104 → toldI a = toldI b → a = b := by decide +kernel
theorem D_add {T M : List Nat} {Q : List Pt3} {A : List Nat} {kv : Nat} {c : TriS} {x y z : Int32} {post : Int32 → TriS → Prop} {postX : Nat → TriS → Prop} (a0 b0 d0 n : Nat) (Q' : List Pt3) (hc : cls T M Q A kv c) (ha0 : a0 < 104) (hb0 : b0 < 104) (hd0 : d0 < 104) (ex : x = toldI a0) (ey : y = toldI b0) (ez : z = toldI d0) (hn : n < 3) (e : Q.length = n) (eQ : Q ++ [pat3 a0 b0 d0] = Q') (h : ∀ c, cls T M Q' A kv c → post (nI n) c) : P_X7_addPattern c x y z post postX :=
  C_addPattern hc (fun q => absurd ⟨⟨a0, ha0, ex⟩, ⟨b0, hb0, ey⟩, ⟨d0, hd0, ez⟩⟩ q) (fun _ _ _ q => absurd q (by omega)) (fun a b d ha hb hd e1 e2 e3 _ c' hc' => by
    obtain rfl := told_i _ ha0 _ ha (ex.symm.trans e1)
    obtain rfl := told_i _ hb0 _ hb (ey.symm.trans e2)
    obtain rfl := told_i _ hd0 _ hd (ez.symm.trans e3)
    rw [e]; rw [eQ] at hc'; exact h c' hc')
theorem D_matches {T M : List Nat} {Q : List Pt3} {A : List Nat} {kv : Nat} {c : TriS} {post : Int32 → TriS → Prop} {postX : Nat → TriS → Prop} (i0 n : Nat) (hc : cls T M Q A kv c) (hi : i0 < Q.length) (e : ∀ X, Q[i0]? = some X → (cand T M X 0 0).length = n) (h : ∀ c, cls T M Q A kv c → post (nI n) c) : P_X7_matches c (nI i0) post postX :=
  C_matches hc (fun q => absurd ⟨i0, hi, rfl⟩ q) (fun i hi' e1 c' hc' => by
    have hQ := hc.2.2.2.1.1
    obtain rfl := nI_i (by omega) (by omega) e1
    rw [e _ (List.getElem?_eq_getElem hi')]; exact h c' hc')
theorem D_joined {T M : List Nat} {Q : List Pt3} {A : List Nat} {kv : Nat} {c : TriS} {post : Int32 → TriS → Prop} {postX : Nat → TriS → Prop} (i0 n : Nat) (hc : cls T M Q A kv c) (hi : i0 < Q.length) (e : jo T M Q i0 = n) (h : ∀ c, cls T M Q A kv c → post (nI n) c) : P_X7_joined c (nI i0) post postX :=
  C_joined hc (fun q => absurd ⟨i0, hi, rfl⟩ q) (fun i hi' e1 c' hc' => by
    have hQ := hc.2.2.2.1.1
    obtain rfl := nI_i (by omega) (by omega) e1
    rw [e]; exact h c' hc')
theorem D_orderFor {c : TriS} {x y z : Int32} {post : Int32 → Prop} (a b d : Bool) (n : Nat) (hx : x = 0 ↔ a = false) (hy : y = 0 ↔ b = false) (hz : z = 0 ↔ d = false) (e : ord3 a b d = n) (h : post (nI n)) : P_X7_orderFor c x y z post := C_orderFor hx hy hz (by rw [e]; exact h)
theorem D_answer {T M : List Nat} {Q : List Pt3} {A : List Nat} {kv : Nat} {c : TriS} {post : Int32 → Prop} {postX : Nat → Prop} (i0 v0 t : Nat) (hc : cls T M Q A kv c) (ha : ansOK T A kv) (hi : i0 < A.length) (hv : v0 < 4) (hb : kv.testBit v0 = true) (e : T[cell (A[i0]?.getD 0) v0]? = some t) (h : post (nI t)) : P_X7_answer c (nI i0) (nI v0) post postX :=
  C_answer hc ha (fun q => absurd ⟨i0, hi, rfl⟩ q) (fun _ q => absurd hb (by rw [q v0 hv rfl]; decide)) (fun i v hi' hv' e1 e2 _ hl => by
    have hA := hc.2.2.2.2.2.1
    obtain rfl := (nI_eq (by omega) (by omega)).mp e1
    obtain rfl := nI_i (by omega) (by omega) e2
    rw [List.getElem?_eq_getElem hi'] at e
    obtain ⟨g1, g2⟩ := List.getElem?_eq_some_iff.mp e
    have g3 : T[cell A[i0] v0] = t := g2
    rw [g3]; exact h)
theorem D_termsFor {T M : List Nat} {Q : List Pt3} {A : List Nat} {kv : Nat} {c : TriS} {post : Int32 → Prop} {postX : Nat → Prop} (v0 n : Nat) (hc : cls T M Q A kv c) (ha : ansOK T A kv) (hv : v0 < 4) (e : (if kv.testBit v0 then tfor T A v0 else 0) = n) (h : post (nI n)) : P_X7_termsFor c (nI v0) post postX :=
  C_termsFor hc ha (fun q => absurd ⟨v0, hv, rfl⟩ q)
    (fun v hv' e1 g => by obtain rfl := nI_i (by omega) (by omega) e1; rw [g, if_neg (by decide)] at e; subst e; exact h)
    (fun v hv' e1 g => by obtain rfl := nI_i (by omega) (by omega) e1; rw [g, if_pos rfl] at e; rw [e]; exact h)

