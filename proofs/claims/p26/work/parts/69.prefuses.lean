/-! PURE SIDE 42: refuses -/
theorem lpos {A : List Nat} (q : ¬ nI A.length = 0) : 0 < A.length := by
  rcases Nat.eq_zero_or_pos A.length with z | z
  · exact absurd (by rw [z]; rfl) q
  · exact z
set_option maxHeartbeats 4000000 in
set_option maxRecDepth 100000 in
theorem pf_L_refuses_16 {T M : List Nat} {Q : List Pt3} {A : List Nat} {kv : Nat} {c : TriS} {post : Int32 → TriS → Prop} (hc : cls T M Q A kv c) (ha : ansOK T A kv) (h : ∀ c, cls T M Q A kv c → post (1 : Int32) c) : P_L_refuses_16 c (nI M.length) (nI T.length) (nI Q.length) (nI A.length) post := by
  have hM : M.length < 2147483648 := by have := sto_len hc.2.1; omega
  have hT : T.length < 2147483648 := by have := hc.1.2.1; omega
  have hQ : Q.length < 2147483648 := by have := hc.2.2.2.1.1; omega
  have hA : A.length < 2147483648 := by have := hc.2.2.2.2.2.1; omega
  refine ar_14 hc ha (nN (k := 4) (by omega) (Or.inl (by decide))) (fun c hc => ?_)
  refine ⟨fun q => absurd rfl q, fun _ => ?_⟩
  refine D_triples _ hc rfl ?_
  refine ⟨fun q => absurd rfl q, fun _ => ?_⟩
  refine D_terms _ hc rfl ?_
  refine ⟨fun q => absurd rfl q, fun _ => ?_⟩
  refine D_patterns _ hc rfl ?_
  refine ⟨fun q => absurd rfl q, fun _ => ?_⟩
  refine D_answers _ hc rfl ?_
  refine ⟨fun q => absurd rfl q, fun _ => ?_⟩
  exact h c hc
set_option maxHeartbeats 4000000 in
set_option maxRecDepth 100000 in
theorem pf_L_refuses_15 {T M : List Nat} {Q : List Pt3} {A : List Nat} {kv : Nat} {c : TriS} {post : Int32 → TriS → Prop} (hc : cls T M Q A kv c) (ha : ansOK T A kv) (h : ∀ c, cls T M Q A kv c → post (1 : Int32) c) : P_L_refuses_15 c (nI M.length) (nI T.length) (nI Q.length) (nI A.length) post := by
  have hM : M.length < 2147483648 := by have := sto_len hc.2.1; omega
  have hT : T.length < 2147483648 := by have := hc.1.2.1; omega
  have hQ : Q.length < 2147483648 := by have := hc.2.2.2.1.1; omega
  have hA : A.length < 2147483648 := by have := hc.2.2.2.2.2.1; omega
  refine ar_9 hc (nN hQ (Or.inl (by decide))) (fun c hc => ?_)
  refine ⟨fun q => absurd rfl q, fun _ => ?_⟩
  refine ar_13 hc ha (nN hA (Or.inl (by decide))) (fun c hc => ?_)
  refine ⟨fun q => absurd rfl q, fun _ => ?_⟩
  refine ⟨fun q => ?_, fun q => ?_⟩
  · exact pf_L_refuses_16 hc ha h
  · refine ar_13v hc ha ⟨0, lpos q, rfl⟩ (fun v hv e => absurd ⟨v, hv, e⟩ (nN (k := 4) (by omega) (Or.inl (by decide)))) (fun c hc => ?_)
    refine ⟨fun q => absurd rfl q, fun _ => ?_⟩
    exact pf_L_refuses_16 hc ha h
set_option maxHeartbeats 4000000 in
set_option maxRecDepth 100000 in
theorem pf_L_refuses_14 {T M : List Nat} {Q : List Pt3} {A : List Nat} {kv : Nat} {c : TriS} {post : Int32 → TriS → Prop} (hc : cls T M Q A kv c) (ha : ansOK T A kv) (h : ∀ c, cls T M Q A kv c → post (1 : Int32) c) : P_L_refuses_14 c (nI M.length) (nI T.length) (nI Q.length) (nI A.length) post := by
  have hM : M.length < 2147483648 := by have := sto_len hc.2.1; omega
  have hT : T.length < 2147483648 := by have := hc.1.2.1; omega
  have hQ : Q.length < 2147483648 := by have := hc.2.2.2.1.1; omega
  have hA : A.length < 2147483648 := by have := hc.2.2.2.2.2.1; omega
  refine ar_5 hc (fun q => nA (by decide) (Or.inl (by decide)) q.2.2) (fun c hc => ?_)
  refine ⟨fun q => absurd rfl q, fun _ => ?_⟩
  refine ar_6 hc (fun q => (nN (k := 3) (by omega) (Or.inl (by decide))) q.1) (fun c hc => ?_)
  refine ⟨fun q => absurd rfl q, fun _ => ?_⟩
  refine ar_6 hc (fun q => (nT (Or.inl (by decide))) q.2) (fun c hc => ?_)
  refine ⟨fun q => absurd rfl q, fun _ => ?_⟩
  refine ar_7 hc (fun q => nV (Or.inl (by decide)) q.1) (fun c hc => ?_)
  refine ⟨fun q => absurd rfl q, fun _ => ?_⟩
  refine ar_7 hc (fun q => nV (Or.inl (by decide)) q.2.1) (fun c hc => ?_)
  refine ⟨fun q => absurd rfl q, fun _ => ?_⟩
  refine ar_7 hc (fun q => nV (Or.inl (by decide)) q.2.2) (fun c hc => ?_)
  refine ⟨fun q => absurd rfl q, fun _ => ?_⟩
  refine ar_8 hc (nN hQ (Or.inl (by decide))) (fun c hc => ?_)
  refine ⟨fun q => absurd rfl q, fun _ => ?_⟩
  exact pf_L_refuses_15 hc ha h
set_option maxHeartbeats 4000000 in
set_option maxRecDepth 100000 in
theorem pf_L_refuses_13 {T M : List Nat} {Q : List Pt3} {A : List Nat} {kv : Nat} {c : TriS} {post : Int32 → TriS → Prop} (hc : cls T M Q A kv c) (ha : ansOK T A kv) (h : ∀ c, cls T M Q A kv c → post (1 : Int32) c) : P_L_refuses_13 c (nI M.length) (nI T.length) (nI Q.length) (nI A.length) post := by
  have hM : M.length < 2147483648 := by have := sto_len hc.2.1; omega
  have hT : T.length < 2147483648 := by have := hc.1.2.1; omega
  have hQ : Q.length < 2147483648 := by have := hc.2.2.2.1.1; omega
  have hA : A.length < 2147483648 := by have := hc.2.2.2.2.2.1; omega
  refine ar_2 hc (fun q => (nN (k := 3) (by omega) (Or.inl (by decide))) q.1) (fun c hc => ?_)
  refine ⟨fun q => absurd rfl q, fun _ => ?_⟩
  refine ar_2 hc (fun q => (nN (k := 3) (by omega) (Or.inl (by decide))) q.2) (fun c hc => ?_)
  refine ⟨fun q => absurd rfl q, fun _ => ?_⟩
  refine ar_2p hc ⟨⟨2, by decide, rfl⟩, ⟨2, by decide, rfl⟩⟩ (nN hM (Or.inl (by decide))) (fun c hc => ?_)
  refine ⟨fun q => absurd rfl q, fun _ => ?_⟩
  refine ar_3 hc (nT (Or.inl (by decide))) (fun c hc => ?_)
  refine ⟨fun q => absurd rfl q, fun _ => ?_⟩
  refine ar_4 hc (nN hT (Or.inl (by decide))) (fun c hc => ?_)
  refine ⟨fun q => absurd rfl q, fun _ => ?_⟩
  refine ar_5 hc (fun q => nA (by decide) (Or.inl (by decide)) q.1) (fun c hc => ?_)
  refine ⟨fun q => absurd rfl q, fun _ => ?_⟩
  refine ar_5 hc (fun q => nA (by decide) (Or.inl (by decide)) q.2.1) (fun c hc => ?_)
  refine ⟨fun q => absurd rfl q, fun _ => ?_⟩
  exact pf_L_refuses_14 hc ha h
set_option maxHeartbeats 4000000 in
set_option maxRecDepth 100000 in
theorem pf_L_refuses_12 {T M : List Nat} {Q : List Pt3} {A : List Nat} {kv : Nat} {c : TriS} {post : Int32 → TriS → Prop} (hc : cls T M Q A kv c) (ha : ansOK T A kv) (h : ∀ c, cls T M Q A kv c → post (1 : Int32) c) : P_L_refuses_12 c (nI M.length) (nI T.length) (nI Q.length) (nI A.length) post := by
  have hM : M.length < 2147483648 := by have := sto_len hc.2.1; omega
  have hT : T.length < 2147483648 := by have := hc.1.2.1; omega
  have hQ : Q.length < 2147483648 := by have := hc.2.2.2.1.1; omega
  have hA : A.length < 2147483648 := by have := hc.2.2.2.2.2.1; omega
  refine ar_14 hc ha (nN (k := 4) (by omega) (Or.inr (by decide))) (fun c hc => ?_)
  refine ⟨fun q => absurd rfl q, fun _ => ?_⟩
  refine ar_0 hc (fun q => (nT (Or.inl (by decide))) q.1) (fun c hc => ?_)
  refine ⟨fun q => absurd rfl q, fun _ => ?_⟩
  refine ar_0 hc (fun q => (nT (Or.inl (by decide))) q.2.1) (fun c hc => ?_)
  refine ⟨fun q => absurd rfl q, fun _ => ?_⟩
  refine ar_0 hc (fun q => (nT (Or.inl (by decide))) q.2.2) (fun c hc => ?_)
  refine ⟨fun q => absurd rfl q, fun _ => ?_⟩
  refine ar_1 hc (fun q => (nT (Or.inl (by decide))) q.1) (fun c hc => ?_)
  refine ⟨fun q => absurd rfl q, fun _ => ?_⟩
  refine ar_1 hc (fun q => (nT (Or.inl (by decide))) q.2.1) (fun c hc => ?_)
  refine ⟨fun q => absurd rfl q, fun _ => ?_⟩
  refine ar_1 hc (fun q => (nT (Or.inl (by decide))) q.2.2) (fun c hc => ?_)
  refine ⟨fun q => absurd rfl q, fun _ => ?_⟩
  exact pf_L_refuses_13 hc ha h
set_option maxHeartbeats 4000000 in
set_option maxRecDepth 100000 in
theorem pf_L_refuses_11 {T M : List Nat} {Q : List Pt3} {A : List Nat} {kv : Nat} {c : TriS} {post : Int32 → TriS → Prop} (hc : cls T M Q A kv c) (ha : ansOK T A kv) (h : ∀ c, cls T M Q A kv c → post (1 : Int32) c) : P_L_refuses_11 c (nI M.length) (nI T.length) (nI Q.length) (nI A.length) post := by
  have hM : M.length < 2147483648 := by have := sto_len hc.2.1; omega
  have hT : T.length < 2147483648 := by have := hc.1.2.1; omega
  have hQ : Q.length < 2147483648 := by have := hc.2.2.2.1.1; omega
  have hA : A.length < 2147483648 := by have := hc.2.2.2.2.2.1; omega
  refine ar_9 hc (nN hQ (Or.inr (n_le (b := 2147483647) (by omega) (by omega)))) (fun c hc => ?_)
  refine ⟨fun q => absurd rfl q, fun _ => ?_⟩
  refine ar_13 hc ha (nN hA (Or.inr (n_le (b := 2147483647) (by omega) (by omega)))) (fun c hc => ?_)
  refine ⟨fun q => absurd rfl q, fun _ => ?_⟩
  refine ⟨fun q => ?_, fun q => ?_⟩
  · exact pf_L_refuses_12 hc ha h
  · refine ar_13v hc ha ⟨0, lpos q, rfl⟩ (fun v hv e => absurd ⟨v, hv, e⟩ (nN (k := 4) (by omega) (Or.inr (by decide)))) (fun c hc => ?_)
    refine ⟨fun q => absurd rfl q, fun _ => ?_⟩
    exact pf_L_refuses_12 hc ha h
set_option maxHeartbeats 4000000 in
set_option maxRecDepth 100000 in
theorem pf_L_refuses_10 {T M : List Nat} {Q : List Pt3} {A : List Nat} {kv : Nat} {c : TriS} {post : Int32 → TriS → Prop} (hc : cls T M Q A kv c) (ha : ansOK T A kv) (h : ∀ c, cls T M Q A kv c → post (1 : Int32) c) : P_L_refuses_10 c (nI M.length) (nI T.length) (nI Q.length) (nI A.length) post := by
  have hM : M.length < 2147483648 := by have := sto_len hc.2.1; omega
  have hT : T.length < 2147483648 := by have := hc.1.2.1; omega
  have hQ : Q.length < 2147483648 := by have := hc.2.2.2.1.1; omega
  have hA : A.length < 2147483648 := by have := hc.2.2.2.2.2.1; omega
  refine ar_5 hc (fun q => nA (by decide) (Or.inr (by decide)) q.2.2) (fun c hc => ?_)
  refine ⟨fun q => absurd rfl q, fun _ => ?_⟩
  refine ar_6 hc (fun q => (nN (k := 3) (by omega) (Or.inr (by decide))) q.1) (fun c hc => ?_)
  refine ⟨fun q => absurd rfl q, fun _ => ?_⟩
  refine ar_6 hc (fun q => (nT (Or.inr (by decide))) q.2) (fun c hc => ?_)
  refine ⟨fun q => absurd rfl q, fun _ => ?_⟩
  refine ar_7 hc (fun q => nV (Or.inr (by decide)) q.1) (fun c hc => ?_)
  refine ⟨fun q => absurd rfl q, fun _ => ?_⟩
  refine ar_7 hc (fun q => nV (Or.inr (by decide)) q.2.1) (fun c hc => ?_)
  refine ⟨fun q => absurd rfl q, fun _ => ?_⟩
  refine ar_7 hc (fun q => nV (Or.inr (by decide)) q.2.2) (fun c hc => ?_)
  refine ⟨fun q => absurd rfl q, fun _ => ?_⟩
  refine ar_8 hc (nN hQ (Or.inr (n_le (b := 2147483647) (by omega) (by omega)))) (fun c hc => ?_)
  refine ⟨fun q => absurd rfl q, fun _ => ?_⟩
  exact pf_L_refuses_11 hc ha h
set_option maxHeartbeats 4000000 in
set_option maxRecDepth 100000 in
theorem pf_L_refuses_9 {T M : List Nat} {Q : List Pt3} {A : List Nat} {kv : Nat} {c : TriS} {post : Int32 → TriS → Prop} (hc : cls T M Q A kv c) (ha : ansOK T A kv) (h : ∀ c, cls T M Q A kv c → post (1 : Int32) c) : P_L_refuses_9 c (nI M.length) (nI T.length) (nI Q.length) (nI A.length) post := by
  have hM : M.length < 2147483648 := by have := sto_len hc.2.1; omega
  have hT : T.length < 2147483648 := by have := hc.1.2.1; omega
  have hQ : Q.length < 2147483648 := by have := hc.2.2.2.1.1; omega
  have hA : A.length < 2147483648 := by have := hc.2.2.2.2.2.1; omega
  refine ar_2 hc (fun q => (nN (k := 3) (by omega) (Or.inr (by decide))) q.1) (fun c hc => ?_)
  refine ⟨fun q => absurd rfl q, fun _ => ?_⟩
  refine ar_2 hc (fun q => (nN (k := 3) (by omega) (Or.inr (by decide))) q.2) (fun c hc => ?_)
  refine ⟨fun q => absurd rfl q, fun _ => ?_⟩
  refine ar_2p hc ⟨⟨2, by decide, rfl⟩, ⟨2, by decide, rfl⟩⟩ (nN hM (Or.inr (n_le (b := 2147483647) (by omega) (by omega)))) (fun c hc => ?_)
  refine ⟨fun q => absurd rfl q, fun _ => ?_⟩
  refine ar_3 hc (nT (Or.inr (by decide))) (fun c hc => ?_)
  refine ⟨fun q => absurd rfl q, fun _ => ?_⟩
  refine ar_4 hc (nN hT (Or.inr (n_le (b := 2147483647) (by omega) (by omega)))) (fun c hc => ?_)
  refine ⟨fun q => absurd rfl q, fun _ => ?_⟩
  refine ar_5 hc (fun q => nA (by decide) (Or.inr (by decide)) q.1) (fun c hc => ?_)
  refine ⟨fun q => absurd rfl q, fun _ => ?_⟩
  refine ar_5 hc (fun q => nA (by decide) (Or.inr (by decide)) q.2.1) (fun c hc => ?_)
  refine ⟨fun q => absurd rfl q, fun _ => ?_⟩
  exact pf_L_refuses_10 hc ha h
set_option maxHeartbeats 4000000 in
set_option maxRecDepth 100000 in
theorem pf_L_refuses_8 {T M : List Nat} {Q : List Pt3} {A : List Nat} {kv : Nat} {c : TriS} {post : Int32 → TriS → Prop} (hc : cls T M Q A kv c) (ha : ansOK T A kv) (h : ∀ c, cls T M Q A kv c → post (1 : Int32) c) : P_L_refuses_8 c (nI M.length) (nI T.length) (nI Q.length) (nI A.length) post := by
  have hM : M.length < 2147483648 := by have := sto_len hc.2.1; omega
  have hT : T.length < 2147483648 := by have := hc.1.2.1; omega
  have hQ : Q.length < 2147483648 := by have := hc.2.2.2.1.1; omega
  have hA : A.length < 2147483648 := by have := hc.2.2.2.2.2.1; omega
  refine ar_14 hc ha (nN (k := 4) (by omega) (Or.inr (by decide))) (fun c hc => ?_)
  refine ⟨fun q => absurd rfl q, fun _ => ?_⟩
  refine ar_0 hc (fun q => (nT (Or.inr (by decide))) q.1) (fun c hc => ?_)
  refine ⟨fun q => absurd rfl q, fun _ => ?_⟩
  refine ar_0 hc (fun q => (nT (Or.inr (by decide))) q.2.1) (fun c hc => ?_)
  refine ⟨fun q => absurd rfl q, fun _ => ?_⟩
  refine ar_0 hc (fun q => (nT (Or.inr (by decide))) q.2.2) (fun c hc => ?_)
  refine ⟨fun q => absurd rfl q, fun _ => ?_⟩
  refine ar_1 hc (fun q => (nT (Or.inr (by decide))) q.1) (fun c hc => ?_)
  refine ⟨fun q => absurd rfl q, fun _ => ?_⟩
  refine ar_1 hc (fun q => (nT (Or.inr (by decide))) q.2.1) (fun c hc => ?_)
  refine ⟨fun q => absurd rfl q, fun _ => ?_⟩
  refine ar_1 hc (fun q => (nT (Or.inr (by decide))) q.2.2) (fun c hc => ?_)
  refine ⟨fun q => absurd rfl q, fun _ => ?_⟩
  exact pf_L_refuses_9 hc ha h
set_option maxHeartbeats 4000000 in
set_option maxRecDepth 100000 in
theorem pf_L_refuses_7 {T M : List Nat} {Q : List Pt3} {A : List Nat} {kv : Nat} {c : TriS} {post : Int32 → TriS → Prop} (hc : cls T M Q A kv c) (ha : ansOK T A kv) (h : ∀ c, cls T M Q A kv c → post (1 : Int32) c) : P_L_refuses_7 c (nI M.length) (nI T.length) (nI Q.length) (nI A.length) post := by
  have hM : M.length < 2147483648 := by have := sto_len hc.2.1; omega
  have hT : T.length < 2147483648 := by have := hc.1.2.1; omega
  have hQ : Q.length < 2147483648 := by have := hc.2.2.2.1.1; omega
  have hA : A.length < 2147483648 := by have := hc.2.2.2.2.2.1; omega
  refine ar_9 hc (nN hQ (Or.inr (Int32.le_refl _))) (fun c hc => ?_)
  refine ⟨fun q => absurd rfl q, fun _ => ?_⟩
  refine ar_13 hc ha (nN hA (Or.inr (Int32.le_refl _))) (fun c hc => ?_)
  refine ⟨fun q => absurd rfl q, fun _ => ?_⟩
  refine ⟨fun q => ?_, fun q => ?_⟩
  · exact pf_L_refuses_8 hc ha h
  · refine ar_13v hc ha ⟨0, lpos q, rfl⟩ (fun v hv e => absurd ⟨v, hv, e⟩ (nN (k := 4) (by omega) (Or.inr (by decide)))) (fun c hc => ?_)
    refine ⟨fun q => absurd rfl q, fun _ => ?_⟩
    exact pf_L_refuses_8 hc ha h
set_option maxHeartbeats 4000000 in
set_option maxRecDepth 100000 in
theorem pf_L_refuses_6 {T M : List Nat} {Q : List Pt3} {A : List Nat} {kv : Nat} {c : TriS} {post : Int32 → TriS → Prop} (hc : cls T M Q A kv c) (ha : ansOK T A kv) (h : ∀ c, cls T M Q A kv c → post (1 : Int32) c) : P_L_refuses_6 c (nI M.length) (nI T.length) (nI Q.length) (nI A.length) post := by
  have hM : M.length < 2147483648 := by have := sto_len hc.2.1; omega
  have hT : T.length < 2147483648 := by have := hc.1.2.1; omega
  have hQ : Q.length < 2147483648 := by have := hc.2.2.2.1.1; omega
  have hA : A.length < 2147483648 := by have := hc.2.2.2.2.2.1; omega
  refine ar_5 hc (fun q => nA (by decide) (Or.inr (by decide)) q.2.2) (fun c hc => ?_)
  refine ⟨fun q => absurd rfl q, fun _ => ?_⟩
  refine ar_6 hc (fun q => (nN (k := 3) (by omega) (Or.inr (by decide))) q.1) (fun c hc => ?_)
  refine ⟨fun q => absurd rfl q, fun _ => ?_⟩
  refine ar_6 hc (fun q => (nT (Or.inr (by decide))) q.2) (fun c hc => ?_)
  refine ⟨fun q => absurd rfl q, fun _ => ?_⟩
  refine ar_7 hc (fun q => nV (Or.inr (by decide)) q.1) (fun c hc => ?_)
  refine ⟨fun q => absurd rfl q, fun _ => ?_⟩
  refine ar_7 hc (fun q => nV (Or.inr (by decide)) q.2.1) (fun c hc => ?_)
  refine ⟨fun q => absurd rfl q, fun _ => ?_⟩
  refine ar_7 hc (fun q => nV (Or.inr (by decide)) q.2.2) (fun c hc => ?_)
  refine ⟨fun q => absurd rfl q, fun _ => ?_⟩
  refine ar_8 hc (nN hQ (Or.inr (Int32.le_refl _))) (fun c hc => ?_)
  refine ⟨fun q => absurd rfl q, fun _ => ?_⟩
  exact pf_L_refuses_7 hc ha h
set_option maxHeartbeats 4000000 in
set_option maxRecDepth 100000 in
theorem pf_L_refuses_5 {T M : List Nat} {Q : List Pt3} {A : List Nat} {kv : Nat} {c : TriS} {post : Int32 → TriS → Prop} (hc : cls T M Q A kv c) (ha : ansOK T A kv) (h : ∀ c, cls T M Q A kv c → post (1 : Int32) c) : P_L_refuses_5 c (nI M.length) (nI T.length) (nI Q.length) (nI A.length) post := by
  have hM : M.length < 2147483648 := by have := sto_len hc.2.1; omega
  have hT : T.length < 2147483648 := by have := hc.1.2.1; omega
  have hQ : Q.length < 2147483648 := by have := hc.2.2.2.1.1; omega
  have hA : A.length < 2147483648 := by have := hc.2.2.2.2.2.1; omega
  refine ar_2 hc (fun q => (nN (k := 3) (by omega) (Or.inr (by decide))) q.1) (fun c hc => ?_)
  refine ⟨fun q => absurd rfl q, fun _ => ?_⟩
  refine ar_2 hc (fun q => (nN (k := 3) (by omega) (Or.inr (by decide))) q.2) (fun c hc => ?_)
  refine ⟨fun q => absurd rfl q, fun _ => ?_⟩
  refine ar_2p hc ⟨⟨2, by decide, rfl⟩, ⟨2, by decide, rfl⟩⟩ (nN hM (Or.inr (Int32.le_refl _))) (fun c hc => ?_)
  refine ⟨fun q => absurd rfl q, fun _ => ?_⟩
  refine ar_3 hc (nT (Or.inr (by decide))) (fun c hc => ?_)
  refine ⟨fun q => absurd rfl q, fun _ => ?_⟩
  refine ar_4 hc (nN hT (Or.inr (Int32.le_refl _))) (fun c hc => ?_)
  refine ⟨fun q => absurd rfl q, fun _ => ?_⟩
  refine ar_5 hc (fun q => nA (by decide) (Or.inr (by decide)) q.1) (fun c hc => ?_)
  refine ⟨fun q => absurd rfl q, fun _ => ?_⟩
  refine ar_5 hc (fun q => nA (by decide) (Or.inr (by decide)) q.2.1) (fun c hc => ?_)
  refine ⟨fun q => absurd rfl q, fun _ => ?_⟩
  exact pf_L_refuses_6 hc ha h
set_option maxHeartbeats 4000000 in
set_option maxRecDepth 100000 in
theorem pf_L_refuses_4 {T M : List Nat} {Q : List Pt3} {A : List Nat} {kv : Nat} {c : TriS} {post : Int32 → TriS → Prop} (hc : cls T M Q A kv c) (ha : ansOK T A kv) (h : ∀ c, cls T M Q A kv c → post (1 : Int32) c) : P_L_refuses_4 c (nI M.length) (nI T.length) (nI Q.length) (nI A.length) post := by
  have hM : M.length < 2147483648 := by have := sto_len hc.2.1; omega
  have hT : T.length < 2147483648 := by have := hc.1.2.1; omega
  have hQ : Q.length < 2147483648 := by have := hc.2.2.2.1.1; omega
  have hA : A.length < 2147483648 := by have := hc.2.2.2.2.2.1; omega
  refine ar_14 hc ha (nN (k := 4) (by omega) (Or.inl (by decide))) (fun c hc => ?_)
  refine ⟨fun q => absurd rfl q, fun _ => ?_⟩
  refine ar_0 hc (fun q => (nT (Or.inr (by decide))) q.1) (fun c hc => ?_)
  refine ⟨fun q => absurd rfl q, fun _ => ?_⟩
  refine ar_0 hc (fun q => (nT (Or.inr (by decide))) q.2.1) (fun c hc => ?_)
  refine ⟨fun q => absurd rfl q, fun _ => ?_⟩
  refine ar_0 hc (fun q => (nT (Or.inr (by decide))) q.2.2) (fun c hc => ?_)
  refine ⟨fun q => absurd rfl q, fun _ => ?_⟩
  refine ar_1 hc (fun q => (nT (Or.inr (by decide))) q.1) (fun c hc => ?_)
  refine ⟨fun q => absurd rfl q, fun _ => ?_⟩
  refine ar_1 hc (fun q => (nT (Or.inr (by decide))) q.2.1) (fun c hc => ?_)
  refine ⟨fun q => absurd rfl q, fun _ => ?_⟩
  refine ar_1 hc (fun q => (nT (Or.inr (by decide))) q.2.2) (fun c hc => ?_)
  refine ⟨fun q => absurd rfl q, fun _ => ?_⟩
  exact pf_L_refuses_5 hc ha h
set_option maxHeartbeats 4000000 in
set_option maxRecDepth 100000 in
theorem pf_L_refuses_3 {T M : List Nat} {Q : List Pt3} {A : List Nat} {kv : Nat} {c : TriS} {post : Int32 → TriS → Prop} (hc : cls T M Q A kv c) (ha : ansOK T A kv) (h : ∀ c, cls T M Q A kv c → post (1 : Int32) c) : P_L_refuses_3 c (nI M.length) (nI T.length) (nI Q.length) (nI A.length) post := by
  have hM : M.length < 2147483648 := by have := sto_len hc.2.1; omega
  have hT : T.length < 2147483648 := by have := hc.1.2.1; omega
  have hQ : Q.length < 2147483648 := by have := hc.2.2.2.1.1; omega
  have hA : A.length < 2147483648 := by have := hc.2.2.2.2.2.1; omega
  refine ar_7 hc (fun q => nV (Or.inl (by decide)) q.2.1) (fun c hc => ?_)
  refine ⟨fun q => absurd rfl q, fun _ => ?_⟩
  refine ar_7 hc (fun q => nV (Or.inl (by decide)) q.2.2) (fun c hc => ?_)
  refine ⟨fun q => absurd rfl q, fun _ => ?_⟩
  refine ar_8 hc (nN hQ (Or.inl (by decide))) (fun c hc => ?_)
  refine ⟨fun q => absurd rfl q, fun _ => ?_⟩
  refine ar_9 hc (nN hQ (Or.inl (by decide))) (fun c hc => ?_)
  refine ⟨fun q => absurd rfl q, fun _ => ?_⟩
  refine ar_13 hc ha (nN hA (Or.inl (by decide))) (fun c hc => ?_)
  refine ⟨fun q => absurd rfl q, fun _ => ?_⟩
  refine ⟨fun q => ?_, fun q => ?_⟩
  · exact pf_L_refuses_4 hc ha h
  · refine ar_13v hc ha ⟨0, lpos q, rfl⟩ (fun v hv e => absurd ⟨v, hv, e⟩ (nN (k := 4) (by omega) (Or.inl (by decide)))) (fun c hc => ?_)
    refine ⟨fun q => absurd rfl q, fun _ => ?_⟩
    exact pf_L_refuses_4 hc ha h
set_option maxHeartbeats 4000000 in
set_option maxRecDepth 100000 in
theorem pf_L_refuses_2 {T M : List Nat} {Q : List Pt3} {A : List Nat} {kv : Nat} {c : TriS} {post : Int32 → TriS → Prop} (hc : cls T M Q A kv c) (ha : ansOK T A kv) (h : ∀ c, cls T M Q A kv c → post (1 : Int32) c) : P_L_refuses_2 c (nI M.length) (nI T.length) (nI Q.length) (nI A.length) post := by
  have hM : M.length < 2147483648 := by have := sto_len hc.2.1; omega
  have hT : T.length < 2147483648 := by have := hc.1.2.1; omega
  have hQ : Q.length < 2147483648 := by have := hc.2.2.2.1.1; omega
  have hA : A.length < 2147483648 := by have := hc.2.2.2.2.2.1; omega
  refine ar_4 hc (nN hT (Or.inl (by decide))) (fun c hc => ?_)
  refine ⟨fun q => absurd rfl q, fun _ => ?_⟩
  refine ar_5 hc (fun q => nA (by decide) (Or.inl (by decide)) q.1) (fun c hc => ?_)
  refine ⟨fun q => absurd rfl q, fun _ => ?_⟩
  refine ar_5 hc (fun q => nA (by decide) (Or.inl (by decide)) q.2.1) (fun c hc => ?_)
  refine ⟨fun q => absurd rfl q, fun _ => ?_⟩
  refine ar_5 hc (fun q => nA (by decide) (Or.inl (by decide)) q.2.2) (fun c hc => ?_)
  refine ⟨fun q => absurd rfl q, fun _ => ?_⟩
  refine ar_6 hc (fun q => (nN (k := 3) (by omega) (Or.inl (by decide))) q.1) (fun c hc => ?_)
  refine ⟨fun q => absurd rfl q, fun _ => ?_⟩
  refine ar_6 hc (fun q => (nT (Or.inl (by decide))) q.2) (fun c hc => ?_)
  refine ⟨fun q => absurd rfl q, fun _ => ?_⟩
  refine ar_7 hc (fun q => nV (Or.inl (by decide)) q.1) (fun c hc => ?_)
  refine ⟨fun q => absurd rfl q, fun _ => ?_⟩
  exact pf_L_refuses_3 hc ha h
set_option maxHeartbeats 4000000 in
set_option maxRecDepth 100000 in
theorem pf_L_refuses_1 {T M : List Nat} {Q : List Pt3} {A : List Nat} {kv : Nat} {c : TriS} {post : Int32 → TriS → Prop} (hc : cls T M Q A kv c) (ha : ansOK T A kv) (h : ∀ c, cls T M Q A kv c → post (1 : Int32) c) : P_L_refuses_1 c (nI M.length) (nI T.length) (nI Q.length) (nI A.length) post := by
  have hM : M.length < 2147483648 := by have := sto_len hc.2.1; omega
  have hT : T.length < 2147483648 := by have := hc.1.2.1; omega
  have hQ : Q.length < 2147483648 := by have := hc.2.2.2.1.1; omega
  have hA : A.length < 2147483648 := by have := hc.2.2.2.2.2.1; omega
  refine ar_1 hc (fun q => (nT (Or.inl (by decide))) q.1) (fun c hc => ?_)
  refine ⟨fun q => absurd rfl q, fun _ => ?_⟩
  refine ar_1 hc (fun q => (nT (Or.inl (by decide))) q.2.1) (fun c hc => ?_)
  refine ⟨fun q => absurd rfl q, fun _ => ?_⟩
  refine ar_1 hc (fun q => (nT (Or.inl (by decide))) q.2.2) (fun c hc => ?_)
  refine ⟨fun q => absurd rfl q, fun _ => ?_⟩
  refine ar_2 hc (fun q => (nN (k := 3) (by omega) (Or.inl (by decide))) q.1) (fun c hc => ?_)
  refine ⟨fun q => absurd rfl q, fun _ => ?_⟩
  refine ar_2 hc (fun q => (nN (k := 3) (by omega) (Or.inl (by decide))) q.2) (fun c hc => ?_)
  refine ⟨fun q => absurd rfl q, fun _ => ?_⟩
  refine ar_2p hc ⟨⟨2, by decide, rfl⟩, ⟨2, by decide, rfl⟩⟩ (nN hM (Or.inl (by decide))) (fun c hc => ?_)
  refine ⟨fun q => absurd rfl q, fun _ => ?_⟩
  refine ar_3 hc (nT (Or.inl (by decide))) (fun c hc => ?_)
  refine ⟨fun q => absurd rfl q, fun _ => ?_⟩
  exact pf_L_refuses_2 hc ha h
set_option maxHeartbeats 4000000 in
set_option maxRecDepth 100000 in
theorem pf_L_refuses {T M : List Nat} {Q : List Pt3} {A : List Nat} {kv : Nat} {c : TriS} {post : Int32 → TriS → Prop} (hc : cls T M Q A kv c) (ha : ansOK T A kv) (h : ∀ c, cls T M Q A kv c → post (1 : Int32) c) : P_L_refuses c  post := by
  have hM : M.length < 2147483648 := by have := sto_len hc.2.1; omega
  have hT : T.length < 2147483648 := by have := hc.1.2.1; omega
  have hQ : Q.length < 2147483648 := by have := hc.2.2.2.1.1; omega
  have hA : A.length < 2147483648 := by have := hc.2.2.2.2.2.1; omega
  refine D_triples _ hc rfl ?_
  refine D_terms _ hc rfl ?_
  refine D_patterns _ hc rfl ?_
  refine D_answers _ hc rfl ?_
  refine ar_0 hc (fun q => (nT (Or.inl (by decide))) q.1) (fun c hc => ?_)
  refine ⟨fun q => absurd rfl q, fun _ => ?_⟩
  refine ar_0 hc (fun q => (nT (Or.inl (by decide))) q.2.1) (fun c hc => ?_)
  refine ⟨fun q => absurd rfl q, fun _ => ?_⟩
  refine ar_0 hc (fun q => (nT (Or.inl (by decide))) q.2.2) (fun c hc => ?_)
  refine ⟨fun q => absurd rfl q, fun _ => ?_⟩
  exact pf_L_refuses_1 hc ha h
