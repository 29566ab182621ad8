/-! PURE SIDE 41: the answers of a query, computed -/
def vbQ : List Pt3 → Nat
  | [] => 0
  | X :: ps => vbQ ps ||| vbits X
def allR (T M : List Nat) : List Pt3 → List Nat
  | [] => [0]
  | X :: ps => (allR T M ps).flatMap (cand T M X (vbQ ps))
theorem vbQ_ok : ∀ {ps : List Pt3}, (∀ X ∈ ps, okX X) → isV (vbQ ps) ps
  | [], _ => isV_nil
  | X :: ps, h => isV_cons (vbQ_ok (fun Y hY => h Y (List.mem_cons_of_mem _ hY))) (h X List.mem_cons_self)
theorem allR_ok {T M : List Nat} (hT : T.length ≤ 40) (hM : ∀ t ∈ M, t < 262144) (hN : M.Nodup) : ∀ {ps : List Pt3}, (∀ X ∈ ps, okX X) → rowsOf T M ps (allR T M ps)
  | [], _ => rows_nil T M
  | X :: ps, h => rows_step hT hM hN (h X List.mem_cons_self) (fun Y hY => h Y (List.mem_cons_of_mem _ hY)) (vbQ_ok (fun Y hY => h Y (List.mem_cons_of_mem _ hY))) (allR_ok hT hM hN (fun Y hY => h Y (List.mem_cons_of_mem _ hY)))
theorem okX_mem {T M : List Nat} {Q : List Pt3} {A : List Nat} {kv : Nat} {c : TriS} (hc : cls T M Q A kv c) : ∀ X ∈ Q.reverse, okX X := by
  intro X hX
  obtain ⟨i, hi, e⟩ := List.mem_iff_getElem.mp (List.mem_reverse.mp hX)
  rw [← e]; exact que_okX hc.2.2.2.1 i hi
theorem allQ {T M : List Nat} {Q : List Pt3} {A : List Nat} {kv : Nat} {c : TriS} (hc : cls T M Q A kv c) : rowsOf T M Q (allR T M Q.reverse) := by
  have h := allR_ok hc.1.2.1 hc.2.1.2.1 hc.2.1.1 (okX_mem hc)
  exact ⟨h.1, fun w => (h.2 w).trans (Ans_perm (fun X => List.mem_reverse))⟩
/-- sorted, by neighbours -/
def srt : List Nat → Bool
  | a :: b :: l => decide (a < b) && srt (b :: l)
  | _ => true
theorem srt_ok : ∀ {l : List Nat}, srt l = true → SL l
  | [], _ => List.Pairwise.nil
  | [a], _ => List.pairwise_singleton _ _
  | a :: b :: l, h => by
    unfold srt at h
    rw [Bool.and_eq_true, decide_eq_true_eq] at h
    have ih := srt_ok h.2
    refine List.pairwise_cons.mpr ⟨fun x hx => ?_, ih⟩
    rcases List.mem_cons.mp hx with e | e
    · rw [e]; exact h.1
    · exact Nat.lt_trans h.1 ((List.pairwise_cons.mp ih).1 x e)
def ins1 (a : Nat) : List Nat → List Nat
  | [] => [a]
  | b :: l => if a < b then a :: b :: l else b :: ins1 a l
def isrt : List Nat → List Nat
  | [] => []
  | a :: l => ins1 a (isrt l)
theorem ins1_perm (a : Nat) : ∀ l : List Nat, (ins1 a l).Perm (a :: l)
  | [] => List.Perm.refl _
  | b :: l => by
    unfold ins1
    split
    · exact List.Perm.refl _
    · exact ((ins1_perm a l).cons b).trans (List.Perm.swap _ _ _)
theorem isrt_perm : ∀ l : List Nat, (isrt l).Perm l
  | [] => List.Perm.refl _
  | a :: l => (ins1_perm a (isrt l)).trans ((isrt_perm l).cons a)
/-- a query's answers: one list, by any way -/
def OWN (T M : List Nat) (Q : List Pt3) (B : List Nat) : Prop := isrt (allR T M Q.reverse) = B ∧ srt B = true
theorem own_eq {T M : List Nat} {Q : List Pt3} {A B B' : List Nat} {kv : Nat} {c : TriS} (hc : cls T M Q A kv c) (h : OWN T M Q B) (h' : rowsOf T M Q B') (hs : B'.Pairwise (fun a b => a < b)) : B' = B := by
  refine SL_ext hs (srt_ok h.2) (fun x => ?_)
  rw [h'.2 x, ← h.1, (isrt_perm _).mem_iff, (allQ hc).2 x]
theorem own_len {T M : List Nat} {Q : List Pt3} {A B : List Nat} {kv : Nat} {c : TriS} (hc : cls T M Q A kv c) (h : OWN T M Q B) (hB : B.length ≤ 2000) : ¬ BIG T M Q := by
  rintro ⟨R, h1, h2, h3⟩
  have := nodup_len h1 (B := allR T M Q.reverse) (fun a ha => ((allQ hc).2 a).mpr (h2 a ha))
  rw [← (isrt_perm (allR T M Q.reverse)).length_eq, h.1] at this
  omega
theorem own_ans {T M : List Nat} {Q : List Pt3} {A B : List Nat} {kv : Nat} {c : TriS} (hc : cls T M Q A kv c) (ha : ansOK T A kv) (h' : rowsOf T M Q B) (hs : B.Pairwise (fun a b => a < b)) : ansOK T B (qv Q) := ⟨hs, rows_num (cls_inv hc ha) h'⟩
/-- each way: the answers, or what is thrown -/
theorem D_10 {T M : List Nat} {Q : List Pt3} {A : List Nat} {kv : Nat} {c : TriS} {x y z : Int32} {post : Int32 → TriS → Prop} (hc : cls T M Q A kv c) (ha : ansOK T A kv) (h0 : (Q.length = 0 ∨ BIG T M Q) → ∀ c, cls T M Q A kv c → post (-93 : Int32) c) (h1 : 0 < Q.length → ∀ B c, rowsOf T M Q B → B.Pairwise (fun a b => a < b) → cls T M Q B (qv Q) c → ansOK T B (qv Q) → post (nI B.length) c) : P_L_act c (10 : Int32) x y z post :=
  act_10 (C_merging hc (fun q c' hc' => AX2 (h0 q c' hc')) (fun q B c' g1 g2 hc' => h1 q B c' g1 g2 hc' (own_ans hc ha g1 g2)))
theorem D_11 {T M : List Nat} {Q : List Pt3} {A : List Nat} {kv : Nat} {c : TriS} {x y z : Int32} {post : Int32 → TriS → Prop} (hc : cls T M Q A kv c) (ha : ansOK T A kv) (h0 : (Q.length = 0 ∨ BIG T M Q) → ∀ c, cls T M Q A kv c → post (-93 : Int32) c) (h1 : 0 < Q.length → ∀ B c, rowsOf T M Q B → B.Pairwise (fun a b => a < b) → cls T M Q B (qv Q) c → ansOK T B (qv Q) → post (nI B.length) c) : P_L_act c (11 : Int32) x y z post :=
  act_11 (C_byVariables hc (fun q c' hc' => AX2 (h0 q c' hc')) (fun q B c' g1 g2 hc' => h1 q B c' g1 g2 hc' (own_ans hc ha g1 g2)))
theorem D_12 {T M : List Nat} {Q : List Pt3} {A : List Nat} {kv : Nat} {c : TriS} {x y z : Int32} {post : Int32 → TriS → Prop} (hc : cls T M Q A kv c) (ha : ansOK T A kv) (h0 : (Q.length = 0 ∨ BIG T M Q) → ∀ c, cls T M Q A kv c → post (-93 : Int32) c) (h1 : 0 < Q.length → ∀ B c, rowsOf T M Q B → B.Pairwise (fun a b => a < b) → cls T M Q B (qv Q) c → ansOK T B (qv Q) → post (nI B.length) c) : P_L_act c (12 : Int32) x y z post :=
  act_12 (C_loops hc (fun q c' hc' => AX2 (h0 q c' hc')) (fun q B c' g1 g2 hc' => h1 q B c' g1 g2 hc' (own_ans hc ha g1 g2)))
/-- comes, where there are answers -/
theorem D_comes {T M : List Nat} {Q : List Pt3} {A : List Nat} {kv : Nat} {c : TriS} {x : Int32} {post : Int32 → TriS → Prop} (B : List Nat) (n kv' : Nat) (hc : cls T M Q A kv c) (ha : ansOK T A kv) (hQ : 0 < Q.length) (hB : OWN T M Q B) (hn : B.length = n) (hn2 : n ≤ 2000) (hv : qv Q = kv') (hx : x = nI n) (h : ∀ c, cls T M Q B kv' c → ansOK T B kv' → post (1 : Int32) c) : P_L_comes c x post := by
  have nb : ∀ {P : Prop}, (Q.length = 0 ∨ BIG T M Q) → P := fun q => q.elim (fun q => absurd q (by omega)) (fun q => absurd q (own_len hc hB (by omega)))
  refine D_10 hc ha (fun q => nb q) (fun _ B1 c1 g1 g2 hc1 ha1 => ?_)
  obtain rfl := own_eq hc hB g1 g2
  refine ⟨fun q => absurd (by rw [hn, hx]) q, fun _ => ?_⟩
  refine D_11 hc1 ha1 (fun q => nb q) (fun _ B2 c2 g3 g4 hc2 ha2 => ?_)
  obtain rfl := own_eq hc hB g3 g4
  refine ⟨fun q => absurd (by rw [hn, hx]) q, fun _ => ?_⟩
  refine D_12 hc2 ha2 (fun q => nb q) (fun _ B3 c3 g5 g6 hc3 ha3 => ?_)
  obtain rfl := own_eq hc hB g5 g6
  refine ⟨fun q => absurd (by rw [hn, hx]) q, fun _ => ?_⟩
  rw [hv] at hc3 ha3
  exact h c3 hc3 ha3
/-- comes, where a call throws -/
theorem D_comesX {T M : List Nat} {Q : List Pt3} {A : List Nat} {kv : Nat} {c : TriS} {post : Int32 → TriS → Prop} (hc : cls T M Q A kv c) (ha : ansOK T A kv) (hQ : Q.length = 0 ∨ 2000 < (allR T M Q.reverse).length) (h : ∀ c, cls T M Q A kv c → post (1 : Int32) c) : P_L_comes c (-93 : Int32) post := by
  have nb : ∀ {P : Prop} {B : List Nat} {kv' : Nat} {c' : TriS}, 0 < Q.length → rowsOf T M Q B → cls T M Q B kv' c' → P := fun {P B kv' c'} q g1 g2 => by
    rcases hQ with z | z
    · omega
    · have := nodup_len (allQ hc).1 (B := B) (fun a ha => (g1.2 a).mpr (((allQ hc).2 a).mp ha))
      have := g2.2.2.2.2.2.1
      omega
  refine D_10 hc ha (fun _ c1 hc1 => ⟨fun q => absurd rfl q, fun _ => ?_⟩) (fun q B c' g1 _ g2 _ => nb q g1 g2)
  refine D_11 hc1 ha (fun _ c2 hc2 => ⟨fun q => absurd rfl q, fun _ => ?_⟩) (fun q B c' g1 _ g2 _ => nb q g1 g2)
  exact D_12 hc2 ha (fun _ c3 hc3 => ⟨fun q => absurd rfl q, fun _ => h c3 hc3⟩) (fun q B c' g1 _ g2 _ => nb q g1 g2)
