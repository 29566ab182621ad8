def P_X0_init (post : DicS → Prop) : Prop :=
  post ((fun _ => 0), (fun _ => 0), (0 : Int32))
def P_X4_init (post : SorS → Prop) : Prop :=
  post ((fun _ => 0), (0 : Int32))
def P_X5_init (post : StoS → Prop) : Prop :=
  P_X4_init  (fun (u_2 : SorS) => P_X4_init  (fun (u_6 : SorS) => P_X4_init  (fun (u_10 : SorS) => post (u_2, u_6, u_10))))
def P_X2_init (post : PatS → Prop) : Prop :=
  post ((fun _ => 0), (fun _ => 0), (0 : Int32), (0 : Int32))
def P_X3_init (post : QueS → Prop) : Prop :=
  P_X2_init  (fun (u_2 : PatS) => P_X2_init  (fun (u_7 : PatS) => P_X2_init  (fun (u_12 : PatS) => post (u_2, u_7, u_12, (0 : Int32)))))
def P_X6_init (n0 : Nat) (post : TabS → Prop) : Prop :=
  post ((fun _ => 0), (fun _ => 0), (fun _ => 0), (0 : Int32), (0 : Int32), (0 : Int32))
def P_X1_init (post : JoiS → Prop) : Prop :=
  P_X6_init 3600 (fun (u_2 : TabS) => P_X6_init 60 (fun (u_8 : TabS) => post (u_2, u_8)))
def P_X7_init (post : TriS → Prop) : Prop :=
  P_X0_init  (fun (u_2 : DicS) => P_X5_init  (fun (u_7 : StoS) => P_X3_init  (fun (u_16 : QueS) => P_X1_init  (fun (u_28 : JoiS) => post (u_2, u_7, u_16, u_28, (fun _ => 0), (0 : Int32), (0 : Int32))))))
def P_X7_isTerm (v0 : Int32) (post : Int32 → Prop) : Prop :=
  (v0 < 0 → (post (0 : Int32))) ∧ (¬ (v0 < 0) → (((100 : Int32) ≤ v0 → (post (0 : Int32))) ∧ (¬ ((100 : Int32) ≤ v0) → (post (1 : Int32)))))
def P_X7_at (n0 : Nat) (s0 : (Nat → Int32)) (v1 : Int32) (post : Int32 → Prop) : Prop :=
  (v1 < 0 → (post (0 : Int32))) ∧ (¬ (v1 < 0) → (((Int32.ofNat n0) ≤ v1 → (post (0 : Int32))) ∧ (¬ ((Int32.ofNat n0) ≤ v1) → (vp_in v1 n0 ∧ (post (s0 (v1).toNatClampNeg))))))
def P_X0_knows (s0 : DicS) (v1 : Int32) (post : Int32 → Prop) : Prop :=
  P_X7_at 100 s0.nextNumberByTerm v1 (fun (r_2 : Int32) => (r_2 ≤ 0 → (post (0 : Int32))) ∧ (¬ (r_2 ≤ 0) → (post (1 : Int32))))
def P_X0_number (s0 : DicS) (v1 : Int32) (post : Int32 → Prop) : Prop :=
  P_X0_knows s0 v1 (fun (r_2 : Int32) => (r_2 = 0 → (post (63 : Int32))) ∧ (¬ (r_2 = 0) → (P_X7_at 100 s0.nextNumberByTerm v1 (fun (r_5 : Int32) => post (r_5 - (1 : Int32))))))
def P_X7_partShift (v0 : Int32) (post : Int32 → Prop) : Prop :=
  post ((6 : Int32) * ((2 : Int32) - v0))
def P_X0_pack (s0 : DicS) (v1 : Int32) (v2 : Int32) (v3 : Int32) (post : Int32 → Prop) : Prop :=
  P_X0_number s0 v1 (fun (r_2 : Int32) => P_X7_partShift (0 : Int32) (fun (r_4 : Int32) => P_X0_number s0 v2 (fun (r_6 : Int32) => P_X7_partShift (1 : Int32) (fun (r_8 : Int32) => P_X0_number s0 v3 (fun (r_10 : Int32) => P_X7_partShift (2 : Int32) (fun (r_12 : Int32) => post (((r_2 <<< (r_4 &&& 31)) ||| (r_6 <<< (r_8 &&& 31))) ||| (r_10 <<< (r_12 &&& 31)))))))))
def P_X4_placeOf_B5 (s0 : SorS) (v1 : Int32) (post : Int32 → Prop) (k5 : (Int32 × Int32) → Prop) (w5 : Int32 × Int32) : Prop :=
  (w5.2 ≤ 0 → (post w5.1)) ∧ (¬ (w5.2 ≤ 0) → ((s0.size < (w5.1 + w5.2) → (k5 (w5.1, (w5.2 >>> ((1 : Int32) &&& 31))))) ∧ (¬ (s0.size < (w5.1 + w5.2)) → (P_X7_at 60 s0.keys ((w5.1 + w5.2) - (1 : Int32)) (fun (r_9 : Int32) => (v1 ≤ r_9 → (k5 (w5.1, (w5.2 >>> ((1 : Int32) &&& 31))))) ∧ (¬ (v1 ≤ r_9) → (k5 ((w5.1 + w5.2), (w5.2 >>> ((1 : Int32) &&& 31))))))))))
def P_X4_placeOf (s0 : SorS) (v1 : Int32) (post : Int32 → Prop) : Prop :=
  wloop (P_X4_placeOf_B5 s0 v1 post) ((0 : Int32), (32 : Int32))
def P_X4_holds (s0 : SorS) (v1 : Int32) (post : Int32 → Prop) : Prop :=
  P_X4_placeOf s0 v1 (fun (r_2 : Int32) => (s0.size ≤ r_2 → (post (0 : Int32))) ∧ (¬ (s0.size ≤ r_2) → (P_X7_at 60 s0.keys r_2 (fun (r_5 : Int32) => (¬ r_5 = v1 → (post (0 : Int32))) ∧ (r_5 = v1 → (post (1 : Int32)))))))
def P_X5_holds (s0 : StoS) (v1 : Int32) (post : Int32 → Prop) : Prop :=
  P_X4_holds s0.bySubject v1 (fun (r_2 : Int32) => bo r_2 ∧ post r_2)
def P_X4_size (s0 : SorS) (post : Int32 → Prop) : Prop :=
  post s0.size
def P_X5_size (s0 : StoS) (post : Int32 → Prop) : Prop :=
  P_X4_size s0.bySubject (fun (r_2 : Int32) => post r_2)
def P_X0_sizeWith_j33 (s0 : DicS) (v1 : Int32) (v2 : Int32) (v3 : Int32) (v4 : Int32) (post : Int32 → Prop) : Prop :=
  P_X0_knows s0 v3 (fun (r_3 : Int32) => (¬ r_3 = 0 → (post v4)) ∧ (r_3 = 0 → ((v3 = v1 → (post v4)) ∧ (¬ (v3 = v1) → ((v3 = v2 → (post v4)) ∧ (¬ (v3 = v2) → (post (v4 + (1 : Int32)))))))))
def P_X0_sizeWith_j17 (s0 : DicS) (v1 : Int32) (v2 : Int32) (v3 : Int32) (v4 : Int32) (post : Int32 → Prop) : Prop :=
  P_X0_knows s0 v2 (fun (r_9 : Int32) => (¬ r_9 = 0 → (P_X0_sizeWith_j33 s0 v1 v2 v3 v4 post)) ∧ (r_9 = 0 → ((v2 = v1 → (P_X0_sizeWith_j33 s0 v1 v2 v3 v4 post)) ∧ (¬ (v2 = v1) → (P_X0_sizeWith_j33 s0 v1 v2 v3 (v4 + (1 : Int32)) post)))))
def P_X0_sizeWith (s0 : DicS) (v1 : Int32) (v2 : Int32) (v3 : Int32) (post : Int32 → Prop) : Prop :=
  P_X0_knows s0 v1 (fun (r_13 : Int32) => (¬ r_13 = 0 → (P_X0_sizeWith_j17 s0 v1 v2 v3 s0.size post)) ∧ (r_13 = 0 → (P_X0_sizeWith_j17 s0 v1 v2 v3 (s0.size + (1 : Int32)) post)))
def P_X7_put (n0 : Nat) (s0 : (Nat → Int32)) (v1 : Int32) (v2 : Int32) (post : (Nat → Int32) → Prop) : Prop :=
  (v1 < 0 → (post s0)) ∧ (¬ (v1 < 0) → (((Int32.ofNat n0) ≤ v1 → (post s0)) ∧ (¬ ((Int32.ofNat n0) ≤ v1) → (vp_in v1 n0 ∧ (post (upd s0 (v1).toNatClampNeg v2))))))
def P_X0_learn (s0 : DicS) (v1 : Int32) (post : DicS → Prop) : Prop :=
  P_X0_knows s0 v1 (fun (r_2 : Int32) => (¬ r_2 = 0 → (post s0)) ∧ (r_2 = 0 → (((40 : Int32) ≤ s0.size → (post s0)) ∧ (¬ ((40 : Int32) ≤ s0.size) → (P_X7_put 40 s0.termByNumber s0.size v1 (fun (u_5 : (Nat → Int32)) => P_X7_put 100 s0.nextNumberByTerm v1 (s0.size + (1 : Int32)) (fun (u_7 : (Nat → Int32)) => post (u_5, u_7, (s0.size + (1 : Int32))))))))))
def P_X5_in (s0 : StoS) (v1 : Int32) (post : Nat → Prop) : Prop :=
  (¬ v1 = (1 : Int32) → ((¬ v1 = (2 : Int32) → (post 0)) ∧ (v1 = (2 : Int32) → (post 2)))) ∧ (v1 = (1 : Int32) → (post 1))
def P_X7_rolled (v0 : Int32) (v1 : Int32) (post : Int32 → Prop) : Prop :=
  post (((v0 <<< (((6 : Int32) * v1) &&& 31)) ||| (v0 >>> (((18 : Int32) - ((6 : Int32) * v1)) &&& 31))) &&& (262143 : Int32))
def P_X4_insert_B21 (v1 : Int32) (v2 : Int32) (post : SorS → Prop) (k21 : (Int32 × SorS) → Prop) (w21 : Int32 × SorS) : Prop :=
  (w21.1 ≤ v2 → (P_X7_put 60 w21.2.keys v2 v1 (fun (u_8 : (Nat → Int32)) => post (u_8, (w21.2.size + (1 : Int32)))))) ∧ (¬ (w21.1 ≤ v2) → (P_X7_at 60 w21.2.keys (w21.1 - (1 : Int32)) (fun (r_11 : Int32) => P_X7_put 60 w21.2.keys w21.1 r_11 (fun (u_12 : (Nat → Int32)) => k21 ((w21.1 + (-1 : Int32)), (u_12, w21.2.size))))))
def P_X4_insert (s0 : SorS) (v1 : Int32) (post : SorS → Prop) : Prop :=
  (s0.size < (60 : Int32) → (P_X4_placeOf s0 v1 (fun (r_3 : Int32) => wloop (P_X4_insert_B21 v1 r_3 post) (s0.size, s0)))) ∧ (¬ (s0.size < (60 : Int32)) → (post s0))
def P_X5_insert_B2 (v1 : Int32) (post : StoS → Prop) (k2 : (Int32 × StoS) → Prop) (w2 : Int32 × StoS) : Prop :=
  ((3 : Int32) ≤ w2.1 → (post w2.2)) ∧ (¬ ((3 : Int32) ≤ w2.1) → (P_X5_in w2.2 w2.1 (fun (k : Nat) => (k = 0 → P_X7_rolled v1 w2.1 (fun (r_8 : Int32) => P_X4_insert w2.2.bySubject r_8 (fun (u_9 : SorS) => k2 ((w2.1 + (1 : Int32)), (u_9, w2.2.byPredicate, w2.2.byObject))))) ∧ (k = 1 → P_X7_rolled v1 w2.1 (fun (r_14 : Int32) => P_X4_insert w2.2.byPredicate r_14 (fun (u_15 : SorS) => k2 ((w2.1 + (1 : Int32)), (w2.2.bySubject, u_15, w2.2.byObject))))) ∧ (k = 2 → P_X7_rolled v1 w2.1 (fun (r_20 : Int32) => P_X4_insert w2.2.byObject r_20 (fun (u_21 : SorS) => k2 ((w2.1 + (1 : Int32)), (w2.2.bySubject, w2.2.byPredicate, u_21))))))))
def P_X5_insert (s0 : StoS) (v1 : Int32) (post : StoS → Prop) : Prop :=
  wloop (P_X5_insert_B2 v1 post) ((0 : Int32), s0)
def P_X7_state_j21 (s0 : TriS) (post : Int32 → TriS → Prop) (postX : Nat → TriS → Prop) : Prop :=
  postX 1 s0
def P_X7_state (s0 : TriS) (v1 : Int32) (v2 : Int32) (v3 : Int32) (post : Int32 → TriS → Prop) (postX : Nat → TriS → Prop) : Prop :=
  P_X7_isTerm v1 (fun (r_8 : Int32) => (r_8 = 0 → (P_X7_state_j21 s0 post postX)) ∧ (¬ (r_8 = 0) → (P_X7_isTerm v2 (fun (r_11 : Int32) => (r_11 = 0 → (P_X7_state_j21 s0 post postX)) ∧ (¬ (r_11 = 0) → (P_X7_isTerm v3 (fun (r_14 : Int32) => (¬ r_14 = 0 → (P_X0_pack s0.dictionary v1 v2 v3 (fun (r_17 : Int32) => P_X5_holds s0.store r_17 (fun (r_19 : Int32) => (r_19 = 0 → (P_X5_size s0.store (fun (r_22 : Int32) => (r_22 < (60 : Int32) → (P_X0_sizeWith s0.dictionary v1 v2 v3 (fun (r_25 : Int32) => (r_25 ≤ (40 : Int32) → (P_X0_learn s0.dictionary v1 (fun (u_27 : DicS) => P_X0_learn u_27 v2 (fun (u_29 : DicS) => P_X0_learn u_29 v3 (fun (u_31 : DicS) => P_X0_pack u_31 v1 v2 v3 (fun (r_34 : Int32) => P_X5_insert s0.store r_34 (fun (u_35 : StoS) => post (1 : Int32) (u_31, u_35, s0.query, s0.joins, s0.kept, s0.keptSize, s0.keptVariables)))))))) ∧ (¬ (r_25 ≤ (40 : Int32)) → (postX 2 s0))))) ∧ (¬ (r_22 < (60 : Int32)) → (postX 2 s0))))) ∧ (¬ (r_19 = 0) → (post (0 : Int32) s0)))))) ∧ (r_14 = 0 → (P_X7_state_j21 s0 post postX)))))))))
def P_X4_remove_B25 (post : SorS → Prop) (k25 : (Int32 × SorS) → Prop) (w25 : Int32 × SorS) : Prop :=
  (w25.2.size ≤ w25.1 → (post w25.2)) ∧ (¬ (w25.2.size ≤ w25.1) → (P_X7_at 60 w25.2.keys (w25.1 + (1 : Int32)) (fun (r_11 : Int32) => P_X7_put 60 w25.2.keys w25.1 r_11 (fun (u_12 : (Nat → Int32)) => k25 ((w25.1 + (1 : Int32)), (u_12, w25.2.size))))))
def P_X4_remove (s0 : SorS) (v1 : Int32) (post : SorS → Prop) : Prop :=
  P_X4_holds s0 v1 (fun (r_2 : Int32) => (¬ r_2 = 0 → (P_X4_placeOf (s0.keys, (s0.size - (1 : Int32))) v1 (fun (r_5 : Int32) => wloop (P_X4_remove_B25 post) (r_5, (s0.keys, (s0.size - (1 : Int32))))))) ∧ (r_2 = 0 → (post s0)))
def P_X5_remove_B2 (v1 : Int32) (post : StoS → Prop) (k2 : (Int32 × StoS) → Prop) (w2 : Int32 × StoS) : Prop :=
  ((3 : Int32) ≤ w2.1 → (post w2.2)) ∧ (¬ ((3 : Int32) ≤ w2.1) → (P_X5_in w2.2 w2.1 (fun (k : Nat) => (k = 0 → P_X7_rolled v1 w2.1 (fun (r_8 : Int32) => P_X4_remove w2.2.bySubject r_8 (fun (u_9 : SorS) => k2 ((w2.1 + (1 : Int32)), (u_9, w2.2.byPredicate, w2.2.byObject))))) ∧ (k = 1 → P_X7_rolled v1 w2.1 (fun (r_14 : Int32) => P_X4_remove w2.2.byPredicate r_14 (fun (u_15 : SorS) => k2 ((w2.1 + (1 : Int32)), (w2.2.bySubject, u_15, w2.2.byObject))))) ∧ (k = 2 → P_X7_rolled v1 w2.1 (fun (r_20 : Int32) => P_X4_remove w2.2.byObject r_20 (fun (u_21 : SorS) => k2 ((w2.1 + (1 : Int32)), (w2.2.bySubject, w2.2.byPredicate, u_21))))))))
def P_X5_remove (s0 : StoS) (v1 : Int32) (post : StoS → Prop) : Prop :=
  wloop (P_X5_remove_B2 v1 post) ((0 : Int32), s0)
def P_X7_takeBack_j21 (s0 : TriS) (post : Int32 → TriS → Prop) (postX : Nat → TriS → Prop) : Prop :=
  postX 1 s0
def P_X7_takeBack (s0 : TriS) (v1 : Int32) (v2 : Int32) (v3 : Int32) (post : Int32 → TriS → Prop) (postX : Nat → TriS → Prop) : Prop :=
  P_X7_isTerm v1 (fun (r_8 : Int32) => (r_8 = 0 → (P_X7_takeBack_j21 s0 post postX)) ∧ (¬ (r_8 = 0) → (P_X7_isTerm v2 (fun (r_11 : Int32) => (r_11 = 0 → (P_X7_takeBack_j21 s0 post postX)) ∧ (¬ (r_11 = 0) → (P_X7_isTerm v3 (fun (r_14 : Int32) => (¬ r_14 = 0 → (P_X0_pack s0.dictionary v1 v2 v3 (fun (r_17 : Int32) => P_X5_holds s0.store r_17 (fun (r_19 : Int32) => (¬ r_19 = 0 → (P_X5_remove s0.store r_17 (fun (u_21 : StoS) => post (1 : Int32) (s0.dictionary, u_21, s0.query, s0.joins, s0.kept, s0.keptSize, s0.keptVariables)))) ∧ (r_19 = 0 → (post (0 : Int32) s0)))))) ∧ (r_14 = 0 → (P_X7_takeBack_j21 s0 post postX)))))))))
def P_X7_triples (s0 : TriS) (post : Int32 → Prop) : Prop :=
  P_X5_size s0.store (fun (r_2 : Int32) => post r_2)
def P_X7_isOrder (v0 : Int32) (post : Int32 → Prop) : Prop :=
  (v0 < 0 → (post (0 : Int32))) ∧ (¬ (v0 < 0) → (((3 : Int32) ≤ v0 → (post (0 : Int32))) ∧ (¬ ((3 : Int32) ≤ v0) → (post (1 : Int32)))))
def P_X4_key (s0 : SorS) (v1 : Int32) (post : Int32 → Prop) : Prop :=
  P_X7_at 60 s0.keys v1 (fun (r_2 : Int32) => post r_2)
def P_X7_rolledBack (v0 : Int32) (v1 : Int32) (post : Int32 → Prop) : Prop :=
  post (((v0 >>> (((6 : Int32) * v1) &&& 31)) ||| (v0 <<< (((18 : Int32) - ((6 : Int32) * v1)) &&& 31))) &&& (262143 : Int32))
def P_X5_triple_j9 (s0 : StoS) (v1 : Int32) (x0 : Int32) (post : Int32 → Prop) : Prop :=
  P_X7_rolledBack x0 v1 (fun (r_3 : Int32) => post r_3)
def P_X5_triple (s0 : StoS) (v1 : Int32) (v2 : Int32) (post : Int32 → Prop) : Prop :=
  P_X5_in s0 v1 (fun (k : Nat) => (k = 0 → P_X4_key s0.bySubject v2 (fun (r_7 : Int32) => P_X5_triple_j9 s0 v1 r_7 post)) ∧ (k = 1 → P_X4_key s0.byPredicate v2 (fun (r_9 : Int32) => P_X5_triple_j9 s0 v1 r_9 post)) ∧ (k = 2 → P_X4_key s0.byObject v2 (fun (r_11 : Int32) => P_X5_triple_j9 s0 v1 r_11 post)))
def P_X7_partOf (v0 : Int32) (v1 : Int32) (post : Int32 → Prop) : Prop :=
  P_X7_partShift v1 (fun (r_2 : Int32) => post ((v0 >>> (r_2 &&& 31)) &&& (63 : Int32)))
def P_X0_term (s0 : DicS) (v1 : Int32) (post : Int32 → Prop) : Prop :=
  P_X7_at 40 s0.termByNumber v1 (fun (r_2 : Int32) => post r_2)
def P_X7_termAt_j51 (s0 : TriS) (post : Int32 → Prop) (postX : Nat → Prop) : Prop :=
  postX 3
def P_X7_termAt_j26 (s0 : TriS) (post : Int32 → Prop) (postX : Nat → Prop) : Prop :=
  postX 1
def P_X7_termAt (s0 : TriS) (v1 : Int32) (v2 : Int32) (v3 : Int32) (post : Int32 → Prop) (postX : Nat → Prop) : Prop :=
  P_X7_isOrder v1 (fun (r_4 : Int32) => (¬ r_4 = 0 → ((v3 < 0 → (P_X7_termAt_j26 s0 post postX)) ∧ (¬ (v3 < 0) → ((v3 < (3 : Int32) → ((v2 < 0 → (P_X7_termAt_j51 s0 post postX)) ∧ (¬ (v2 < 0) → (P_X5_size s0.store (fun (r_10 : Int32) => (v2 < r_10 → (P_X5_triple s0.store v1 v2 (fun (r_13 : Int32) => P_X7_partOf r_13 v3 (fun (r_15 : Int32) => P_X0_term s0.dictionary r_15 (fun (r_17 : Int32) => post r_17))))) ∧ (¬ (v2 < r_10) → (P_X7_termAt_j51 s0 post postX))))))) ∧ (¬ (v3 < (3 : Int32)) → (P_X7_termAt_j26 s0 post postX)))))) ∧ (r_4 = 0 → (postX 1)))
def P_X0_size (s0 : DicS) (post : Int32 → Prop) : Prop :=
  post s0.size
def P_X7_terms (s0 : TriS) (post : Int32 → Prop) : Prop :=
  P_X0_size s0.dictionary (fun (r_2 : Int32) => post r_2)
def P_X7_numberOf (s0 : TriS) (v1 : Int32) (post : Int32 → Prop) (postX : Nat → Prop) : Prop :=
  P_X7_isTerm v1 (fun (r_2 : Int32) => (¬ r_2 = 0 → (P_X0_knows s0.dictionary v1 (fun (r_5 : Int32) => (r_5 = 0 → (post (-1 : Int32))) ∧ (¬ (r_5 = 0) → (P_X0_number s0.dictionary v1 (fun (r_8 : Int32) => post r_8)))))) ∧ (r_2 = 0 → (postX 1)))
def P_X7_termOf_j15 (s0 : TriS) (post : Int32 → Prop) (postX : Nat → Prop) : Prop :=
  postX 3
def P_X7_termOf (s0 : TriS) (v1 : Int32) (post : Int32 → Prop) (postX : Nat → Prop) : Prop :=
  (v1 < 0 → (P_X7_termOf_j15 s0 post postX)) ∧ (¬ (v1 < 0) → (P_X0_size s0.dictionary (fun (r_4 : Int32) => (v1 < r_4 → (P_X0_term s0.dictionary v1 (fun (r_7 : Int32) => post r_7))) ∧ (¬ (v1 < r_4) → (P_X7_termOf_j15 s0 post postX)))))
def P_X7_isTermOrAny (v0 : Int32) (post : Int32 → Prop) : Prop :=
  (v0 < (-1 : Int32) → (post (0 : Int32))) ∧ (¬ (v0 < (-1 : Int32)) → (((100 : Int32) ≤ v0 → (post (0 : Int32))) ∧ (¬ ((100 : Int32) ≤ v0) → (post (1 : Int32)))))
def P_X7_maskFor_j30 (v2 : Int32) (x0 : Int32) (x1 : Int32) (post : Int32 → Prop) : Prop :=
  (v2 = 0 → (post ((x1 ||| x0) ||| (0 : Int32)))) ∧ (¬ (v2 = 0) → (P_X7_partShift (2 : Int32) (fun (r_5 : Int32) => post ((x1 ||| x0) ||| ((63 : Int32) <<< (r_5 &&& 31))))))
def P_X7_maskFor_j15 (v1 : Int32) (v2 : Int32) (x0 : Int32) (post : Int32 → Prop) : Prop :=
  (v1 = 0 → (P_X7_maskFor_j30 v2 (0 : Int32) x0 post)) ∧ (¬ (v1 = 0) → (P_X7_partShift (1 : Int32) (fun (r_9 : Int32) => P_X7_maskFor_j30 v2 ((63 : Int32) <<< (r_9 &&& 31)) x0 post)))
def P_X7_maskFor (v0 : Int32) (v1 : Int32) (v2 : Int32) (post : Int32 → Prop) : Prop :=
  (v0 = 0 → (P_X7_maskFor_j15 v1 v2 (0 : Int32) post)) ∧ (¬ (v0 = 0) → (P_X7_partShift (0 : Int32) (fun (r_12 : Int32) => P_X7_maskFor_j15 v1 v2 ((63 : Int32) <<< (r_12 &&& 31)) post)))
def P_X7_orderOf_j52 (v1 : Int32) (v2 : Int32) (post : Int32 → Prop) : Prop :=
  (v2 = 0 → (post (0 : Int32))) ∧ (¬ (v2 = 0) → ((¬ v1 = 0 → (post (0 : Int32))) ∧ (v1 = 0 → (post (1 : Int32)))))
def P_X7_orderOf_j41 (v1 : Int32) (v2 : Int32) (x0 : Int32) (post : Int32 → Prop) : Prop :=
  (x0 = 0 → (P_X7_orderOf_j52 v1 v2 post)) ∧ (¬ (x0 = 0) → ((¬ v2 = 0 → (P_X7_orderOf_j52 v1 v2 post)) ∧ (v2 = 0 → (post (2 : Int32)))))
def P_X7_orderOf_j27 (v0 : Int32) (v1 : Int32) (x0 : Int32) (post : Int32 → Prop) : Prop :=
  P_X7_partOf v0 (2 : Int32) (fun (r_13 : Int32) => (r_13 = 0 → (P_X7_orderOf_j41 v1 x0 (0 : Int32) post)) ∧ (¬ (r_13 = 0) → (P_X7_orderOf_j41 v1 x0 (1 : Int32) post)))
def P_X7_orderOf_j13 (v0 : Int32) (x0 : Int32) (post : Int32 → Prop) : Prop :=
  P_X7_partOf v0 (1 : Int32) (fun (r_17 : Int32) => (r_17 = 0 → (P_X7_orderOf_j27 v0 x0 (0 : Int32) post)) ∧ (¬ (r_17 = 0) → (P_X7_orderOf_j27 v0 x0 (1 : Int32) post)))
def P_X7_orderOf (v0 : Int32) (post : Int32 → Prop) : Prop :=
  P_X7_partOf v0 (0 : Int32) (fun (r_20 : Int32) => (r_20 = 0 → (P_X7_orderOf_j13 v0 (0 : Int32) post)) ∧ (¬ (r_20 = 0) → (P_X7_orderOf_j13 v0 (1 : Int32) post)))
def P_X5_end (s0 : StoS) (v1 : Int32) (v2 : Int32) (v3 : Int32) (post : Int32 → Prop) : Prop :=
  P_X5_in s0 v1 (fun (k : Nat) => (k = 0 → P_X7_rolled (v3 ||| ((262143 : Int32) &&& (v2 ^^^ (-1 : Int32)))) v1 (fun (r_4 : Int32) => P_X4_placeOf s0.bySubject (r_4 + (1 : Int32)) (fun (r_6 : Int32) => post r_6))) ∧ (k = 1 → P_X7_rolled (v3 ||| ((262143 : Int32) &&& (v2 ^^^ (-1 : Int32)))) v1 (fun (r_8 : Int32) => P_X4_placeOf s0.byPredicate (r_8 + (1 : Int32)) (fun (r_10 : Int32) => post r_10))) ∧ (k = 2 → P_X7_rolled (v3 ||| ((262143 : Int32) &&& (v2 ^^^ (-1 : Int32)))) v1 (fun (r_12 : Int32) => P_X4_placeOf s0.byObject (r_12 + (1 : Int32)) (fun (r_14 : Int32) => post r_14))))
def P_X5_begin (s0 : StoS) (v1 : Int32) (v2 : Int32) (post : Int32 → Prop) : Prop :=
  P_X5_in s0 v1 (fun (k : Nat) => (k = 0 → P_X7_rolled v2 v1 (fun (r_4 : Int32) => P_X4_placeOf s0.bySubject r_4 (fun (r_6 : Int32) => post r_6))) ∧ (k = 1 → P_X7_rolled v2 v1 (fun (r_8 : Int32) => P_X4_placeOf s0.byPredicate r_8 (fun (r_10 : Int32) => post r_10))) ∧ (k = 2 → P_X7_rolled v2 v1 (fun (r_12 : Int32) => P_X4_placeOf s0.byObject r_12 (fun (r_14 : Int32) => post r_14))))
def P_X7_count_j58 (s0 : TriS) (v1 : Int32) (v2 : Int32) (v3 : Int32) (x0 : Int32) (x1 : Int32) (x2 : Int32) (post : Int32 → Prop) (postX : Nat → Prop) : Prop :=
  P_X7_maskFor x2 x1 x0 (fun (r_5 : Int32) => P_X0_pack s0.dictionary v1 v2 v3 (fun (r_7 : Int32) => P_X7_orderOf r_5 (fun (r_9 : Int32) => P_X5_end s0.store r_9 r_5 (r_7 &&& r_5) (fun (r_11 : Int32) => P_X5_begin s0.store r_9 (r_7 &&& r_5) (fun (r_13 : Int32) => post (r_11 - r_13))))))
def P_X7_count_j49 (s0 : TriS) (v1 : Int32) (v2 : Int32) (v3 : Int32) (x0 : Int32) (x1 : Int32) (post : Int32 → Prop) (postX : Nat → Prop) : Prop :=
  (v3 < 0 → (P_X7_count_j58 s0 v1 v2 v3 (0 : Int32) x0 x1 post postX)) ∧ (¬ (v3 < 0) → (P_X7_count_j58 s0 v1 v2 v3 (1 : Int32) x0 x1 post postX))
def P_X7_count_j40 (s0 : TriS) (v1 : Int32) (v2 : Int32) (v3 : Int32) (x0 : Int32) (post : Int32 → Prop) (postX : Nat → Prop) : Prop :=
  (v2 < 0 → (P_X7_count_j49 s0 v1 v2 v3 (0 : Int32) x0 post postX)) ∧ (¬ (v2 < 0) → (P_X7_count_j49 s0 v1 v2 v3 (1 : Int32) x0 post postX))
def P_X7_count_j21 (s0 : TriS) (post : Int32 → Prop) (postX : Nat → Prop) : Prop :=
  postX 1
def P_X7_count (s0 : TriS) (v1 : Int32) (v2 : Int32) (v3 : Int32) (post : Int32 → Prop) (postX : Nat → Prop) : Prop :=
  P_X7_isTermOrAny v1 (fun (r_21 : Int32) => (r_21 = 0 → (P_X7_count_j21 s0 post postX)) ∧ (¬ (r_21 = 0) → (P_X7_isTermOrAny v2 (fun (r_24 : Int32) => (r_24 = 0 → (P_X7_count_j21 s0 post postX)) ∧ (¬ (r_24 = 0) → (P_X7_isTermOrAny v3 (fun (r_27 : Int32) => (¬ r_27 = 0 → ((v1 < 0 → (P_X7_count_j40 s0 v1 v2 v3 (0 : Int32) post postX)) ∧ (¬ (v1 < 0) → (P_X7_count_j40 s0 v1 v2 v3 (1 : Int32) post postX)))) ∧ (r_27 = 0 → (P_X7_count_j21 s0 post postX)))))))))
def P_X7_orderFor (s0 : TriS) (v1 : Int32) (v2 : Int32) (v3 : Int32) (post : Int32 → Prop) : Prop :=
  P_X7_maskFor v1 v2 v3 (fun (r_2 : Int32) => P_X7_orderOf r_2 (fun (r_4 : Int32) => post r_4))
def P_X7_seek (s0 : TriS) (v1 : Int32) (v2 : Int32) (post : Int32 → Prop) (postX : Nat → Prop) : Prop :=
  P_X7_isOrder v1 (fun (r_2 : Int32) => (¬ r_2 = 0 → (P_X7_isTerm v2 (fun (r_5 : Int32) => (¬ r_5 = 0 → (P_X0_knows s0.dictionary v2 (fun (r_8 : Int32) => (¬ r_8 = 0 → (P_X0_number s0.dictionary v2 (fun (r_11 : Int32) => P_X7_partShift v1 (fun (r_13 : Int32) => P_X5_begin s0.store v1 (r_11 <<< (r_13 &&& 31)) (fun (r_15 : Int32) => post r_15))))) ∧ (r_8 = 0 → (postX 2))))) ∧ (r_5 = 0 → (postX 1))))) ∧ (r_2 = 0 → (postX 1)))
def P_X3_clear (s0 : QueS) (post : Int32 → QueS → Prop) : Prop :=
  post s0.size (s0.first, s0.second, s0.third, (0 : Int32))
def P_X7_forget (s0 : TriS) (post : Int32 → TriS → Prop) : Prop :=
  P_X3_clear s0.query (fun (r_2 : Int32) (u_1 : QueS) => post r_2 (s0.dictionary, s0.store, u_1, s0.joins, s0.kept, s0.keptSize, s0.keptVariables))
def P_X7_isTermOrVariable (v0 : Int32) (post : Int32 → Prop) : Prop :=
  (v0 < (-4 : Int32) → (post (0 : Int32))) ∧ (¬ (v0 < (-4 : Int32)) → (((100 : Int32) ≤ v0 → (post (0 : Int32))) ∧ (¬ ((100 : Int32) ≤ v0) → (post (1 : Int32)))))
def P_X3_size (s0 : QueS) (post : Int32 → Prop) : Prop :=
  post s0.size
def P_X3_pattern (s0 : QueS) (v1 : Int32) (post : Nat → Prop) : Prop :=
  (¬ v1 = (1 : Int32) → ((¬ v1 = (2 : Int32) → (post 0)) ∧ (v1 = (2 : Int32) → (post 2)))) ∧ (v1 = (1 : Int32) → (post 1))
def P_X2_bitOf (s0 : PatS) (v1 : Int32) (post : Int32 → Prop) : Prop :=
  (0 ≤ v1 → (post (0 : Int32))) ∧ (¬ (0 ≤ v1) → (post ((1 : Int32) <<< (((-1 : Int32) - v1) &&& 31))))
def P_X2_tell (s0 : PatS) (v1 : Int32) (v2 : Int32) (v3 : Int32) (post : PatS → Prop) : Prop :=
  P_X7_put 3 s0.told (0 : Int32) v1 (fun (u_1 : (Nat → Int32)) => P_X7_put 3 u_1 (1 : Int32) v2 (fun (u_3 : (Nat → Int32)) => P_X7_put 3 u_3 (2 : Int32) v3 (fun (u_5 : (Nat → Int32)) => P_X2_bitOf (u_5, s0.numbers, s0.variableBits, s0.found) v1 (fun (r_8 : Int32) => P_X2_bitOf (u_5, s0.numbers, s0.variableBits, s0.found) v2 (fun (r_10 : Int32) => P_X2_bitOf (u_5, s0.numbers, s0.variableBits, s0.found) v3 (fun (r_12 : Int32) => post (u_5, s0.numbers, ((r_8 ||| r_10) ||| r_12), s0.found)))))))
def P_X3_add_j18 (s0 : QueS) (v4 : Int32) (post : Int32 → QueS → Prop) : Prop :=
  post v4 (s0.first, s0.second, s0.third, (s0.size + (1 : Int32)))
def P_X3_add (s0 : QueS) (v1 : Int32) (v2 : Int32) (v3 : Int32) (post : Int32 → QueS → Prop) : Prop :=
  P_X3_pattern s0 s0.size (fun (k : Nat) => (k = 0 → P_X2_tell s0.first v1 v2 v3 (fun (u_5 : PatS) => P_X3_add_j18 (u_5, s0.second, s0.third, s0.size) s0.size post)) ∧ (k = 1 → P_X2_tell s0.second v1 v2 v3 (fun (u_7 : PatS) => P_X3_add_j18 (s0.first, u_7, s0.third, s0.size) s0.size post)) ∧ (k = 2 → P_X2_tell s0.third v1 v2 v3 (fun (u_9 : PatS) => P_X3_add_j18 (s0.first, s0.second, u_9, s0.size) s0.size post)))
def P_X7_addPattern_j21 (s0 : TriS) (post : Int32 → TriS → Prop) (postX : Nat → TriS → Prop) : Prop :=
  postX 1 s0
def P_X7_addPattern (s0 : TriS) (v1 : Int32) (v2 : Int32) (v3 : Int32) (post : Int32 → TriS → Prop) (postX : Nat → TriS → Prop) : Prop :=
  P_X7_isTermOrVariable v1 (fun (r_8 : Int32) => (r_8 = 0 → (P_X7_addPattern_j21 s0 post postX)) ∧ (¬ (r_8 = 0) → (P_X7_isTermOrVariable v2 (fun (r_11 : Int32) => (r_11 = 0 → (P_X7_addPattern_j21 s0 post postX)) ∧ (¬ (r_11 = 0) → (P_X7_isTermOrVariable v3 (fun (r_14 : Int32) => (¬ r_14 = 0 → (P_X3_size s0.query (fun (r_17 : Int32) => (r_17 < (3 : Int32) → (P_X3_add s0.query v1 v2 v3 (fun (r_20 : Int32) (u_19 : QueS) => post r_20 (s0.dictionary, s0.store, u_19, s0.joins, s0.kept, s0.keptSize, s0.keptVariables)))) ∧ (¬ (r_17 < (3 : Int32)) → (postX 2 s0))))) ∧ (r_14 = 0 → (P_X7_addPattern_j21 s0 post postX)))))))))
def P_X7_patterns (s0 : TriS) (post : Int32 → Prop) : Prop :=
  P_X3_size s0.query (fun (r_2 : Int32) => post r_2)
def P_X7_hasBit (v0 : Int32) (v1 : Int32) (post : Int32 → Prop) : Prop :=
  (((v0 >>> (v1 &&& 31)) &&& (1 : Int32)) = 0 → (post (0 : Int32))) ∧ (¬ (((v0 >>> (v1 &&& 31)) &&& (1 : Int32)) = 0) → (post (1 : Int32)))
def P_X2_maskWith_j35 (s0 : PatS) (v1 : Int32) (v2 : Int32) (v3 : Int32) (k4 : (Int32 × Int32) → Prop) (post : Int32 → Prop) : Prop :=
  P_X7_partShift v3 (fun (r_7 : Int32) => k4 ((v2 ||| ((63 : Int32) <<< (r_7 &&& 31))), (v3 + (1 : Int32))))
def P_X2_maskWith_B4 (s0 : PatS) (v1 : Int32) (post : Int32 → Prop) (k4 : (Int32 × Int32) → Prop) (w4 : Int32 × Int32) : Prop :=
  ((3 : Int32) ≤ w4.2 → (post w4.1)) ∧ (¬ ((3 : Int32) ≤ w4.2) → (P_X7_at 3 s0.told w4.2 (fun (r_12 : Int32) => (0 ≤ r_12 → (P_X2_maskWith_j35 s0 v1 w4.1 w4.2 k4 post)) ∧ (¬ (0 ≤ r_12) → (P_X7_hasBit v1 ((-1 : Int32) - r_12) (fun (r_15 : Int32) => (r_15 = 0 → (k4 (w4.1, (w4.2 + (1 : Int32))))) ∧ (¬ (r_15 = 0) → (P_X2_maskWith_j35 s0 v1 w4.1 w4.2 k4 post))))))))
def P_X2_maskWith (s0 : PatS) (v1 : Int32) (post : Int32 → Prop) : Prop :=
  wloop (P_X2_maskWith_B4 s0 v1 post) ((0 : Int32), (0 : Int32))
def P_X7_cellShift (v0 : Int32) (post : Int32 → Prop) : Prop :=
  post ((6 : Int32) * ((3 : Int32) - v0))
def P_X7_cellOf (v0 : Int32) (v1 : Int32) (post : Int32 → Prop) : Prop :=
  P_X7_cellShift v1 (fun (r_2 : Int32) => post ((v0 >>> (r_2 &&& 31)) &&& (63 : Int32)))
def P_X2_valueWith_B5 (s0 : PatS) (v1 : Int32) (v2 : Int32) (post : Int32 → Prop) (k5 : (Int32 × Int32) → Prop) (w5 : Int32 × Int32) : Prop :=
  ((3 : Int32) ≤ w5.2 → (post w5.1)) ∧ (¬ ((3 : Int32) ≤ w5.2) → (P_X7_at 3 s0.told w5.2 (fun (r_6 : Int32) => (r_6 < 0 → (P_X7_hasBit v1 ((-1 : Int32) - r_6) (fun (r_9 : Int32) => (r_9 = 0 → (k5 (w5.1, (w5.2 + (1 : Int32))))) ∧ (¬ (r_9 = 0) → (P_X7_cellOf v2 ((-1 : Int32) - r_6) (fun (r_14 : Int32) => P_X7_partShift w5.2 (fun (r_16 : Int32) => k5 ((w5.1 ||| (r_14 <<< (r_16 &&& 31))), (w5.2 + (1 : Int32)))))))))) ∧ (¬ (r_6 < 0) → (P_X7_at 3 s0.numbers w5.2 (fun (r_20 : Int32) => P_X7_partShift w5.2 (fun (r_22 : Int32) => k5 ((w5.1 ||| (r_20 <<< (r_22 &&& 31))), (w5.2 + (1 : Int32))))))))))
def P_X2_valueWith (s0 : PatS) (v1 : Int32) (v2 : Int32) (post : Int32 → Prop) : Prop :=
  wloop (P_X2_valueWith_B5 s0 v1 v2 post) ((0 : Int32), (0 : Int32))
def P_X2_widen_B9 (s0 : PatS) (v3 : Int32) (post : Int32 → Prop) (k9 : (Int32 × Int32 × Int32) → Prop) (w9 : Int32 × Int32 × Int32) : Prop :=
  ((3 : Int32) ≤ w9.2.2 → (post w9.1)) ∧ (¬ ((3 : Int32) ≤ w9.2.2) → (P_X7_at 3 s0.told w9.2.2 (fun (r_7 : Int32) => (((-1 : Int32) - r_7) < 0 → (k9 (w9.1, w9.2.1, (w9.2.2 + (1 : Int32))))) ∧ (¬ (((-1 : Int32) - r_7) < 0) → (P_X7_partOf v3 w9.2.2 (fun (r_12 : Int32) => P_X7_hasBit w9.2.1 ((-1 : Int32) - r_7) (fun (r_14 : Int32) => (¬ r_14 = 0 → (P_X7_cellOf w9.1 ((-1 : Int32) - r_7) (fun (r_17 : Int32) => (r_17 = r_12 → (k9 (w9.1, w9.2.1, (w9.2.2 + (1 : Int32))))) ∧ (¬ (r_17 = r_12) → (post (-1 : Int32)))))) ∧ (r_14 = 0 → (P_X7_cellShift ((-1 : Int32) - r_7) (fun (r_22 : Int32) => k9 ((w9.1 ||| (r_12 <<< (r_22 &&& 31))), (w9.2.1 ||| ((1 : Int32) <<< (((-1 : Int32) - r_7) &&& 31))), (w9.2.2 + (1 : Int32)))))))))))))
def P_X2_widen (s0 : PatS) (v1 : Int32) (v2 : Int32) (v3 : Int32) (post : Int32 → Prop) : Prop :=
  wloop (P_X2_widen_B9 s0 v3 post) (v2, v1, (0 : Int32))
def P_X2_look_j39 (s0 : PatS) (s1 : DicS) (s2 : StoS) (v3 : Int32) (x0 : Int32) (x1 : Int32) (k2 : (Int32 × PatS) → Prop) (post : PatS → Prop) : Prop :=
  P_X7_put 3 s0.numbers x1 x0 (fun (u_8 : (Nat → Int32)) => k2 ((v3 + (1 : Int32)), (s0.told, u_8, s0.variableBits, s0.found)))
def P_X2_look_B94 (s1 : DicS) (s2 : StoS) (v5 : Int32) (v6 : Int32) (post : PatS → Prop) (k94 : (Int32 × PatS) → Prop) (w94 : Int32 × PatS) : Prop :=
  (v6 ≤ w94.1 → (post w94.2)) ∧ (¬ (v6 ≤ w94.1) → (P_X5_triple s2 v5 w94.1 (fun (r_28 : Int32) => P_X2_widen w94.2 (0 : Int32) (0 : Int32) r_28 (fun (r_30 : Int32) => (r_30 = (-1 : Int32) → (k94 ((w94.1 + (1 : Int32)), w94.2))) ∧ (¬ (r_30 = (-1 : Int32)) → (k94 ((w94.1 + (1 : Int32)), (w94.2.told, w94.2.numbers, w94.2.variableBits, (w94.2.found + (1 : Int32))))))))))
def P_X2_look_B2 (s1 : DicS) (s2 : StoS) (post : PatS → Prop) (k2 : (Int32 × PatS) → Prop) (w2 : Int32 × PatS) : Prop :=
  ((3 : Int32) ≤ w2.1 → (P_X2_maskWith w2.2 (0 : Int32) (fun (r_14 : Int32) => P_X2_valueWith w2.2 (0 : Int32) (0 : Int32) (fun (r_16 : Int32) => P_X7_orderOf r_14 (fun (r_18 : Int32) => P_X5_end s2 r_18 r_14 r_16 (fun (r_20 : Int32) => P_X5_begin s2 r_18 r_16 (fun (r_22 : Int32) => wloop (P_X2_look_B94 s1 s2 r_18 r_20 post) (r_22, (w2.2.told, w2.2.numbers, w2.2.variableBits, (0 : Int32)))))))))) ∧ (¬ ((3 : Int32) ≤ w2.1) → (P_X7_at 3 w2.2.told w2.1 (fun (r_37 : Int32) => (0 ≤ r_37 → (P_X7_at 3 w2.2.told w2.1 (fun (r_40 : Int32) => P_X0_number s1 r_40 (fun (r_42 : Int32) => P_X2_look_j39 w2.2 s1 s2 w2.1 r_42 w2.1 k2 post)))) ∧ (¬ (0 ≤ r_37) → (P_X2_look_j39 w2.2 s1 s2 w2.1 (0 : Int32) w2.1 k2 post)))))
def P_X2_look (s0 : PatS) (s1 : DicS) (s2 : StoS) (post : PatS → Prop) : Prop :=
  wloop (P_X2_look_B2 s1 s2 post) ((0 : Int32), s0)
def P_X3_look_B2 (s1 : DicS) (s2 : StoS) (post : QueS → Prop) (k2 : (Int32 × QueS) → Prop) (w2 : Int32 × QueS) : Prop :=
  (w2.2.size ≤ w2.1 → (post w2.2)) ∧ (¬ (w2.2.size ≤ w2.1) → (P_X3_pattern w2.2 w2.1 (fun (k : Nat) => (k = 0 → P_X2_look w2.2.first s1 s2 (fun (u_7 : PatS) => k2 ((w2.1 + (1 : Int32)), (u_7, w2.2.second, w2.2.third, w2.2.size)))) ∧ (k = 1 → P_X2_look w2.2.second s1 s2 (fun (u_11 : PatS) => k2 ((w2.1 + (1 : Int32)), (w2.2.first, u_11, w2.2.third, w2.2.size)))) ∧ (k = 2 → P_X2_look w2.2.third s1 s2 (fun (u_15 : PatS) => k2 ((w2.1 + (1 : Int32)), (w2.2.first, w2.2.second, u_15, w2.2.size)))))))
def P_X3_look (s0 : QueS) (s1 : DicS) (s2 : StoS) (post : QueS → Prop) : Prop :=
  wloop (P_X3_look_B2 s1 s2 post) ((0 : Int32), s0)
def P_X2_found (s0 : PatS) (post : Int32 → Prop) : Prop :=
  post s0.found
def P_X7_matches_j15 (s0 : TriS) (post : Int32 → TriS → Prop) (postX : Nat → TriS → Prop) : Prop :=
  postX 3 s0
def P_X7_matches (s0 : TriS) (v1 : Int32) (post : Int32 → TriS → Prop) (postX : Nat → TriS → Prop) : Prop :=
  (v1 < 0 → (P_X7_matches_j15 s0 post postX)) ∧ (¬ (v1 < 0) → (P_X3_size s0.query (fun (r_9 : Int32) => (v1 < r_9 → (P_X3_look s0.query s0.dictionary s0.store (fun (u_11 : QueS) => P_X3_pattern u_11 v1 (fun (k : Nat) => (k = 0 → P_X2_found u_11.first (fun (r_16 : Int32) => post r_16 (s0.dictionary, s0.store, u_11, s0.joins, s0.kept, s0.keptSize, s0.keptVariables))) ∧ (k = 1 → P_X2_found u_11.second (fun (r_18 : Int32) => post r_18 (s0.dictionary, s0.store, u_11, s0.joins, s0.kept, s0.keptSize, s0.keptVariables))) ∧ (k = 2 → P_X2_found u_11.third (fun (r_20 : Int32) => post r_20 (s0.dictionary, s0.store, u_11, s0.joins, s0.kept, s0.keptSize, s0.keptVariables))))))) ∧ (¬ (v1 < r_9) → (P_X7_matches_j15 s0 post postX)))))
def P_X2_variableBits (s0 : PatS) (post : Int32 → Prop) : Prop :=
  post s0.variableBits
def P_X3_variableBits_B4 (s0 : QueS) (post : Int32 → Prop) (k4 : (Int32 × Int32) → Prop) (w4 : Int32 × Int32) : Prop :=
  (s0.size ≤ w4.2 → (post w4.1)) ∧ (¬ (s0.size ≤ w4.2) → (P_X3_pattern s0 w4.2 (fun (k : Nat) => (k = 0 → P_X2_variableBits s0.first (fun (r_8 : Int32) => k4 ((w4.1 ||| r_8), (w4.2 + (1 : Int32))))) ∧ (k = 1 → P_X2_variableBits s0.second (fun (r_12 : Int32) => k4 ((w4.1 ||| r_12), (w4.2 + (1 : Int32))))) ∧ (k = 2 → P_X2_variableBits s0.third (fun (r_16 : Int32) => k4 ((w4.1 ||| r_16), (w4.2 + (1 : Int32))))))))
def P_X3_variableBits (s0 : QueS) (post : Int32 → Prop) : Prop :=
  wloop (P_X3_variableBits_B4 s0 post) ((0 : Int32), (0 : Int32))
def P_X7_variables (s0 : TriS) (post : Int32 → Prop) : Prop :=
  P_X3_variableBits s0.query (fun (r_2 : Int32) => post r_2)
def P_X2_part (s0 : PatS) (v1 : Int32) (post : Int32 → Prop) : Prop :=
  P_X7_at 3 s0.told v1 (fun (r_2 : Int32) => post r_2)
def P_X3_isStar_j48 (s0 : QueS) (v2 : Int32) (x0 : Int32) (k27 : (Int32 × Int32) → Prop) (post : Int32 → Prop) : Prop :=
  P_X2_part s0.first (0 : Int32) (fun (r_8 : Int32) => (¬ x0 = r_8 → (k27 ((0 : Int32), (v2 + (1 : Int32))))) ∧ (x0 = r_8 → (k27 ((1 : Int32), (v2 + (1 : Int32))))))
def P_X3_isStar_B27 (s0 : QueS) (post : Int32 → Prop) (k27 : (Int32 × Int32) → Prop) (w27 : Int32 × Int32) : Prop :=
  (s0.size ≤ w27.2 → (bo w27.1 ∧ post w27.1)) ∧ (¬ (s0.size ≤ w27.2) → ((w27.1 = 0 → (k27 ((0 : Int32), (w27.2 + (1 : Int32))))) ∧ (¬ (w27.1 = 0) → (P_X3_pattern s0 w27.2 (fun (k : Nat) => (k = 0 → P_X2_part s0.first (0 : Int32) (fun (r_21 : Int32) => P_X3_isStar_j48 s0 w27.2 r_21 k27 post)) ∧ (k = 1 → P_X2_part s0.second (0 : Int32) (fun (r_23 : Int32) => P_X3_isStar_j48 s0 w27.2 r_23 k27 post)) ∧ (k = 2 → P_X2_part s0.third (0 : Int32) (fun (r_25 : Int32) => P_X3_isStar_j48 s0 w27.2 r_25 k27 post)))))))
def P_X3_isStar_j24 (s0 : QueS) (x0 : Int32) (post : Int32 → Prop) : Prop :=
  wloop (P_X3_isStar_B27 s0 post) (x0, (1 : Int32))
def P_X3_isStar_j23 (s0 : QueS) (post : Int32 → Prop) : Prop :=
  P_X3_isStar_j24 s0 (0 : Int32) post
def P_X3_isStar (s0 : QueS) (post : Int32 → Prop) : Prop :=
  (s0.size < (2 : Int32) → (P_X3_isStar_j23 s0 post)) ∧ (¬ (s0.size < (2 : Int32)) → (P_X2_part s0.first (0 : Int32) (fun (r_28 : Int32) => (0 ≤ r_28 → (P_X3_isStar_j23 s0 post)) ∧ (¬ (0 ≤ r_28) → (P_X3_isStar_j24 s0 (1 : Int32) post)))))
def P_X3_isChain_j54 (s0 : QueS) (v2 : Int32) (x0 : Int32) (x1 : Int32) (k16 : (Int32 × Int32) → Prop) (post : Int32 → Prop) : Prop :=
  (¬ x1 = x0 → (k16 ((0 : Int32), (v2 + (1 : Int32))))) ∧ (x1 = x0 → (k16 ((1 : Int32), (v2 + (1 : Int32)))))
def P_X3_isChain_j35 (s0 : QueS) (v1 : Int32) (v2 : Int32) (x0 : Int32) (k16 : (Int32 × Int32) → Prop) (post : Int32 → Prop) : Prop :=
  (v1 = 0 → (k16 ((0 : Int32), (v2 + (1 : Int32))))) ∧ (¬ (v1 = 0) → ((0 ≤ x0 → (k16 ((0 : Int32), (v2 + (1 : Int32))))) ∧ (¬ (0 ≤ x0) → (P_X3_pattern s0 v2 (fun (k : Nat) => (k = 0 → P_X2_part s0.first (0 : Int32) (fun (r_25 : Int32) => P_X3_isChain_j54 s0 v2 r_25 x0 k16 post)) ∧ (k = 1 → P_X2_part s0.second (0 : Int32) (fun (r_27 : Int32) => P_X3_isChain_j54 s0 v2 r_27 x0 k16 post)) ∧ (k = 2 → P_X2_part s0.third (0 : Int32) (fun (r_29 : Int32) => P_X3_isChain_j54 s0 v2 r_29 x0 k16 post)))))))
def P_X3_isChain_B16 (s0 : QueS) (post : Int32 → Prop) (k16 : (Int32 × Int32) → Prop) (w16 : Int32 × Int32) : Prop :=
  (s0.size ≤ w16.2 → (bo w16.1 ∧ post w16.1)) ∧ (¬ (s0.size ≤ w16.2) → (P_X3_pattern s0 (w16.2 - (1 : Int32)) (fun (k : Nat) => (k = 0 → P_X2_part s0.first (2 : Int32) (fun (r_34 : Int32) => P_X3_isChain_j35 s0 w16.1 w16.2 r_34 k16 post)) ∧ (k = 1 → P_X2_part s0.second (2 : Int32) (fun (r_36 : Int32) => P_X3_isChain_j35 s0 w16.1 w16.2 r_36 k16 post)) ∧ (k = 2 → P_X2_part s0.third (2 : Int32) (fun (r_38 : Int32) => P_X3_isChain_j35 s0 w16.1 w16.2 r_38 k16 post)))))
def P_X3_isChain_j13 (s0 : QueS) (x0 : Int32) (post : Int32 → Prop) : Prop :=
  wloop (P_X3_isChain_B16 s0 post) (x0, (1 : Int32))
def P_X3_isChain (s0 : QueS) (post : Int32 → Prop) : Prop :=
  (s0.size < (2 : Int32) → (P_X3_isChain_j13 s0 (0 : Int32) post)) ∧ (¬ (s0.size < (2 : Int32)) → (P_X3_isChain_j13 s0 (1 : Int32) post))
def P_X7_shape_j15 (s0 : TriS) (x0 : Int32) (post : Int32 → Prop) : Prop :=
  P_X3_isChain s0.query (fun (r_3 : Int32) => (r_3 = 0 → (post (x0 + (0 : Int32)))) ∧ (¬ (r_3 = 0) → (post (x0 + (2 : Int32)))))
def P_X7_shape (s0 : TriS) (post : Int32 → Prop) : Prop :=
  P_X3_isStar s0.query (fun (r_6 : Int32) => (r_6 = 0 → (P_X7_shape_j15 s0 (0 : Int32) post)) ∧ (¬ (r_6 = 0) → (P_X7_shape_j15 s0 (1 : Int32) post)))
def P_X3_goesAhead_j63 (s0 : QueS) (x0 : Int32) (x1 : Int32) (post : Int32 → Prop) : Prop :=
  (x0 ≤ x1 → (post (0 : Int32))) ∧ (¬ (x0 ≤ x1) → (post (1 : Int32)))
def P_X3_goesAhead_j55 (s0 : QueS) (v2 : Int32) (x0 : Int32) (post : Int32 → Prop) : Prop :=
  P_X3_pattern s0 v2 (fun (k : Nat) => (k = 0 → P_X2_found s0.first (fun (r_8 : Int32) => P_X3_goesAhead_j63 s0 r_8 x0 post)) ∧ (k = 1 → P_X2_found s0.second (fun (r_10 : Int32) => P_X3_goesAhead_j63 s0 r_10 x0 post)) ∧ (k = 2 → P_X2_found s0.third (fun (r_12 : Int32) => P_X3_goesAhead_j63 s0 r_12 x0 post)))
def P_X3_goesAhead_j38 (s0 : QueS) (v1 : Int32) (v2 : Int32) (v4 : Int32) (x0 : Int32) (post : Int32 → Prop) : Prop :=
  (¬ v4 = x0 → (bo v4 ∧ post v4)) ∧ (v4 = x0 → (P_X3_pattern s0 v1 (fun (k : Nat) => (k = 0 → P_X2_found s0.first (fun (r_19 : Int32) => P_X3_goesAhead_j55 s0 v2 r_19 post)) ∧ (k = 1 → P_X2_found s0.second (fun (r_21 : Int32) => P_X3_goesAhead_j55 s0 v2 r_21 post)) ∧ (k = 2 → P_X2_found s0.third (fun (r_23 : Int32) => P_X3_goesAhead_j55 s0 v2 r_23 post)))))
def P_X3_goesAhead_j28 (s0 : QueS) (v1 : Int32) (v2 : Int32) (v3 : Int32) (v4 : Int32) (x0 : Int32) (post : Int32 → Prop) : Prop :=
  ((x0 &&& v3) = 0 → (P_X3_goesAhead_j38 s0 v1 v2 v4 (0 : Int32) post)) ∧ (¬ ((x0 &&& v3) = 0) → (P_X3_goesAhead_j38 s0 v1 v2 v4 (1 : Int32) post))
def P_X3_goesAhead_j18 (s0 : QueS) (v1 : Int32) (v2 : Int32) (v3 : Int32) (x0 : Int32) (post : Int32 → Prop) : Prop :=
  P_X3_pattern s0 v2 (fun (k : Nat) => (k = 0 → P_X2_variableBits s0.first (fun (r_31 : Int32) => P_X3_goesAhead_j28 s0 v1 v2 v3 x0 r_31 post)) ∧ (k = 1 → P_X2_variableBits s0.second (fun (r_33 : Int32) => P_X3_goesAhead_j28 s0 v1 v2 v3 x0 r_33 post)) ∧ (k = 2 → P_X2_variableBits s0.third (fun (r_35 : Int32) => P_X3_goesAhead_j28 s0 v1 v2 v3 x0 r_35 post)))
def P_X3_goesAhead_j8 (s0 : QueS) (v1 : Int32) (v2 : Int32) (v3 : Int32) (x0 : Int32) (post : Int32 → Prop) : Prop :=
  ((x0 &&& v3) = 0 → (P_X3_goesAhead_j18 s0 v1 v2 v3 (0 : Int32) post)) ∧ (¬ ((x0 &&& v3) = 0) → (P_X3_goesAhead_j18 s0 v1 v2 v3 (1 : Int32) post))
def P_X3_goesAhead (s0 : QueS) (v1 : Int32) (v2 : Int32) (v3 : Int32) (post : Int32 → Prop) : Prop :=
  P_X3_pattern s0 v1 (fun (k : Nat) => (k = 0 → P_X2_variableBits s0.first (fun (r_41 : Int32) => P_X3_goesAhead_j8 s0 v1 v2 v3 r_41 post)) ∧ (k = 1 → P_X2_variableBits s0.second (fun (r_43 : Int32) => P_X3_goesAhead_j8 s0 v1 v2 v3 r_43 post)) ∧ (k = 2 → P_X2_variableBits s0.third (fun (r_45 : Int32) => P_X3_goesAhead_j8 s0 v1 v2 v3 r_45 post)))
def P_X3_bestLeft_B5 (s0 : QueS) (v1 : Int32) (v2 : Int32) (post : Int32 → Prop) (k5 : (Int32 × Int32) → Prop) (w5 : Int32 × Int32) : Prop :=
  (s0.size ≤ w5.2 → (post (if w5.1 < (0 : Int32) then (0 : Int32) else w5.1))) ∧ (¬ (s0.size ≤ w5.2) → (P_X7_hasBit v1 w5.2 (fun (r_6 : Int32) => (¬ r_6 = 0 → (k5 (w5.1, (w5.2 + (1 : Int32))))) ∧ (r_6 = 0 → ((w5.1 < 0 → (k5 (w5.2, (w5.2 + (1 : Int32))))) ∧ (¬ (w5.1 < 0) → (P_X3_goesAhead s0 w5.2 w5.1 v2 (fun (r_14 : Int32) => (r_14 = 0 → (k5 (w5.1, (w5.2 + (1 : Int32))))) ∧ (¬ (r_14 = 0) → (k5 (w5.2, (w5.2 + (1 : Int32)))))))))))))
def P_X3_bestLeft (s0 : QueS) (v1 : Int32) (v2 : Int32) (post : Int32 → Prop) : Prop :=
  wloop (P_X3_bestLeft_B5 s0 v1 v2 post) ((-1 : Int32), (0 : Int32))
def P_X3_inJoinOrder_B10 (s0 : QueS) (v1 : Int32) (post : Int32 → Prop) (k10 : (Int32 × Int32 × Int32 × Int32) → Prop) (w10 : Int32 × Int32 × Int32 × Int32) : Prop :=
  (v1 < w10.2.2.2 → (post w10.2.2.1)) ∧ (¬ (v1 < w10.2.2.2) → ((s0.size ≤ w10.2.2.2 → (post w10.2.2.1)) ∧ (¬ (s0.size ≤ w10.2.2.2) → (P_X3_bestLeft s0 w10.1 w10.2.1 (fun (r_9 : Int32) => P_X3_pattern s0 r_9 (fun (k : Nat) => (k = 0 → P_X2_variableBits s0.first (fun (r_13 : Int32) => k10 ((w10.1 ||| ((1 : Int32) <<< (r_9 &&& 31))), (w10.2.1 ||| r_13), r_9, (w10.2.2.2 + (1 : Int32))))) ∧ (k = 1 → P_X2_variableBits s0.second (fun (r_17 : Int32) => k10 ((w10.1 ||| ((1 : Int32) <<< (r_9 &&& 31))), (w10.2.1 ||| r_17), r_9, (w10.2.2.2 + (1 : Int32))))) ∧ (k = 2 → P_X2_variableBits s0.third (fun (r_21 : Int32) => k10 ((w10.1 ||| ((1 : Int32) <<< (r_9 &&& 31))), (w10.2.1 ||| r_21), r_9, (w10.2.2.2 + (1 : Int32)))))))))))
def P_X3_inJoinOrder (s0 : QueS) (v1 : Int32) (post : Int32 → Prop) : Prop :=
  wloop (P_X3_inJoinOrder_B10 s0 v1 post) ((0 : Int32), (0 : Int32), (0 : Int32), (0 : Int32))
def P_X7_joined_j15 (s0 : TriS) (post : Int32 → TriS → Prop) (postX : Nat → TriS → Prop) : Prop :=
  postX 3 s0
def P_X7_joined (s0 : TriS) (v1 : Int32) (post : Int32 → TriS → Prop) (postX : Nat → TriS → Prop) : Prop :=
  (v1 < 0 → (P_X7_joined_j15 s0 post postX)) ∧ (¬ (v1 < 0) → (P_X3_size s0.query (fun (r_9 : Int32) => (v1 < r_9 → (P_X3_look s0.query s0.dictionary s0.store (fun (u_11 : QueS) => P_X3_inJoinOrder u_11 v1 (fun (r_14 : Int32) => post r_14 (s0.dictionary, s0.store, u_11, s0.joins, s0.kept, s0.keptSize, s0.keptVariables))))) ∧ (¬ (v1 < r_9) → (P_X7_joined_j15 s0 post postX)))))
def P_X7_beginAnswering (s0 : TriS) (post : TriS → Prop) (postX : Nat → TriS → Prop) : Prop :=
  P_X3_size s0.query (fun (r_2 : Int32) => (¬ r_2 = 0 → (P_X3_look s0.query s0.dictionary s0.store (fun (u_4 : QueS) => post (s0.dictionary, s0.store, u_4, s0.joins, s0.kept, s0.keptSize, s0.keptVariables)))) ∧ (r_2 = 0 → (postX 2 s0)))
def P_X6_beginEmpty (n0 : Nat) (s0 : TabS) (post : TabS → Prop) : Prop :=
  post (s0.rows, s0.next_, s0.starts, (0 : Int32), (0 : Int32), (0 : Int32))
def P_X6_add (n0 : Nat) (s0 : TabS) (v1 : Int32) (post : TabS → Prop) : Prop :=
  ((Int32.ofNat n0) ≤ s0.nextSize → (post (s0.rows, s0.next_, s0.starts, s0.size, s0.nextSize, (1 : Int32)))) ∧ (¬ ((Int32.ofNat n0) ≤ s0.nextSize) → (P_X7_put n0 s0.next_ s0.nextSize v1 (fun (u_2 : (Nat → Int32)) => post (s0.rows, u_2, s0.starts, s0.size, (s0.nextSize + (1 : Int32)), s0.over))))
def P_X6_turn (n0 : Nat) (s0 : TabS) (post : TabS → Prop) : Prop :=
  post (s0.next_, s0.rows, s0.starts, s0.nextSize, (0 : Int32), s0.over)
def P_X6_beginWithNothingBound (n0 : Nat) (s0 : TabS) (post : TabS → Prop) : Prop :=
  P_X6_beginEmpty n0 s0 (fun (u_1 : TabS) => P_X6_add n0 u_1 (0 : Int32) (fun (u_5 : TabS) => P_X6_turn n0 u_5 (fun (u_9 : TabS) => post u_9)))
def P_X1_gather_B52 (s1 : PatS) (s2 : StoS) (v3 : Int32) (v4 : Int32) (v7 : Int32) (v8 : Int32) (post : JoiS → Prop) (k52 : (Int32 × JoiS) → Prop) (w52 : Int32 × JoiS) : Prop :=
  (v8 ≤ w52.1 → (P_X6_turn 60 w52.2.side (fun (u_23 : TabS) => post (w52.2.made, u_23)))) ∧ (¬ (v8 ≤ w52.1) → (P_X5_triple s2 v7 w52.1 (fun (r_28 : Int32) => P_X2_widen s1 v3 v4 r_28 (fun (r_30 : Int32) => (r_30 = (-1 : Int32) → (k52 ((w52.1 + (1 : Int32)), w52.2))) ∧ (¬ (r_30 = (-1 : Int32)) → (P_X6_add 60 w52.2.side r_30 (fun (u_34 : TabS) => k52 ((w52.1 + (1 : Int32)), (w52.2.made, u_34)))))))))
def P_X1_gather (s0 : JoiS) (s1 : PatS) (s2 : StoS) (v3 : Int32) (v4 : Int32) (post : JoiS → Prop) : Prop :=
  P_X2_maskWith s1 v3 (fun (r_2 : Int32) => P_X2_valueWith s1 v3 v4 (fun (r_4 : Int32) => P_X7_orderOf r_2 (fun (r_6 : Int32) => P_X5_end s2 r_6 r_2 r_4 (fun (r_8 : Int32) => P_X6_beginEmpty 60 s0.side (fun (u_9 : TabS) => P_X5_begin s2 r_6 r_4 (fun (r_14 : Int32) => wloop (P_X1_gather_B52 s1 s2 v3 v4 r_6 r_8 post) (r_14, (s0.made, u_9))))))))
def P_X6_sortByOne_B112 (n0 : Nat) (v1 : Int32) (post : TabS → Prop) (k112 : (Int32 × TabS) → Prop) (w112 : Int32 × TabS) : Prop :=
  (w112.2.size ≤ w112.1 → (P_X6_turn n0 (w112.2.rows, w112.2.next_, w112.2.starts, w112.2.size, w112.2.size, w112.2.over) (fun (u_26 : TabS) => post u_26))) ∧ (¬ (w112.2.size ≤ w112.1) → (P_X7_at n0 w112.2.rows w112.1 (fun (r_31 : Int32) => P_X7_cellOf r_31 v1 (fun (r_33 : Int32) => P_X7_at 64 w112.2.starts r_33 (fun (r_35 : Int32) => P_X7_at n0 w112.2.rows w112.1 (fun (r_37 : Int32) => P_X7_put n0 w112.2.next_ r_35 r_37 (fun (u_38 : (Nat → Int32)) => P_X7_at 64 w112.2.starts r_33 (fun (r_41 : Int32) => P_X7_put 64 w112.2.starts r_33 (r_41 + (1 : Int32)) (fun (u_42 : (Nat → Int32)) => k112 ((w112.1 + (1 : Int32)), (w112.2.rows, u_38, u_42, w112.2.size, w112.2.nextSize, w112.2.over)))))))))))
def P_X6_sortByOne_B74 (n0 : Nat) (v1 : Int32) (post : TabS → Prop) (k74 : (Int32 × Int32 × TabS) → Prop) (w74 : Int32 × Int32 × TabS) : Prop :=
  ((63 : Int32) < w74.2.1 → (wloop (P_X6_sortByOne_B112 n0 v1 post) ((0 : Int32), w74.2.2))) ∧ (¬ ((63 : Int32) < w74.2.1) → (P_X7_at 64 w74.2.2.starts w74.2.1 (fun (r_47 : Int32) => P_X7_put 64 w74.2.2.starts w74.2.1 w74.1 (fun (u_48 : (Nat → Int32)) => k74 ((w74.1 + r_47), (w74.2.1 + (1 : Int32)), (w74.2.2.rows, w74.2.2.next_, u_48, w74.2.2.size, w74.2.2.nextSize, w74.2.2.over))))))
def P_X6_sortByOne_B25 (n0 : Nat) (v1 : Int32) (post : TabS → Prop) (k25 : (Int32 × TabS) → Prop) (w25 : Int32 × TabS) : Prop :=
  (w25.2.size ≤ w25.1 → (wloop (P_X6_sortByOne_B74 n0 v1 post) ((0 : Int32), (0 : Int32), w25.2))) ∧ (¬ (w25.2.size ≤ w25.1) → (P_X7_at n0 w25.2.rows w25.1 (fun (r_53 : Int32) => P_X7_cellOf r_53 v1 (fun (r_55 : Int32) => P_X7_at 64 w25.2.starts r_55 (fun (r_57 : Int32) => P_X7_put 64 w25.2.starts r_55 (r_57 + (1 : Int32)) (fun (u_58 : (Nat → Int32)) => k25 ((w25.1 + (1 : Int32)), (w25.2.rows, w25.2.next_, u_58, w25.2.size, w25.2.nextSize, w25.2.over))))))))
def P_X6_sortByOne_B2 (n0 : Nat) (v1 : Int32) (post : TabS → Prop) (k2 : (Int32 × TabS) → Prop) (w2 : Int32 × TabS) : Prop :=
  ((63 : Int32) < w2.1 → (wloop (P_X6_sortByOne_B25 n0 v1 post) ((0 : Int32), w2.2))) ∧ (¬ ((63 : Int32) < w2.1) → (P_X7_put 64 w2.2.starts w2.1 (0 : Int32) (fun (u_62 : (Nat → Int32)) => k2 ((w2.1 + (1 : Int32)), (w2.2.rows, w2.2.next_, u_62, w2.2.size, w2.2.nextSize, w2.2.over)))))
def P_X6_sortByOne (n0 : Nat) (s0 : TabS) (v1 : Int32) (post : TabS → Prop) : Prop :=
  wloop (P_X6_sortByOne_B2 n0 v1 post) ((0 : Int32), s0)
def P_X6_sort_B2 (n0 : Nat) (v1 : Int32) (post : TabS → Prop) (k2 : (Int32 × TabS) → Prop) (w2 : Int32 × TabS) : Prop :=
  (w2.1 < 0 → (post w2.2)) ∧ (¬ (w2.1 < 0) → (P_X7_hasBit v1 w2.1 (fun (r_8 : Int32) => (r_8 = 0 → (k2 ((w2.1 + (-1 : Int32)), w2.2))) ∧ (¬ (r_8 = 0) → (P_X6_sortByOne n0 w2.2 w2.1 (fun (u_12 : TabS) => k2 ((w2.1 + (-1 : Int32)), u_12)))))))
def P_X6_sort (n0 : Nat) (s0 : TabS) (v1 : Int32) (post : TabS → Prop) : Prop :=
  wloop (P_X6_sort_B2 n0 v1 post) ((3 : Int32), s0)
def P_X7_rowMask_B4 (v0 : Int32) (post : Int32 → Prop) (k4 : (Int32 × Int32) → Prop) (w4 : Int32 × Int32) : Prop :=
  ((4 : Int32) ≤ w4.2 → (post w4.1)) ∧ (¬ ((4 : Int32) ≤ w4.2) → (P_X7_hasBit v0 w4.2 (fun (r_6 : Int32) => (r_6 = 0 → (k4 (w4.1, (w4.2 + (1 : Int32))))) ∧ (¬ (r_6 = 0) → (P_X7_cellShift w4.2 (fun (r_11 : Int32) => k4 ((w4.1 ||| ((63 : Int32) <<< (r_11 &&& 31))), (w4.2 + (1 : Int32)))))))))
def P_X7_rowMask (v0 : Int32) (post : Int32 → Prop) : Prop :=
  wloop (P_X7_rowMask_B4 v0 post) ((0 : Int32), (0 : Int32))
def P_X6_size (n0 : Nat) (s0 : TabS) (post : Int32 → Prop) : Prop :=
  post s0.size
def P_X6_isOver (n0 : Nat) (s0 : TabS) (post : Int32 → Prop) : Prop :=
  bo s0.over ∧ post s0.over
def P_X6_row (n0 : Nat) (s0 : TabS) (v1 : Int32) (post : Int32 → Prop) : Prop :=
  P_X7_at n0 s0.rows v1 (fun (r_2 : Int32) => post r_2)
def P_X1_mergeSide_j135 (s0 : JoiS) (post : JoiS → Prop) : Prop :=
  P_X6_turn 3600 s0.made (fun (u_6 : TabS) => post (u_6, s0.side))
def P_X1_mergeSide_B76 (v1 : Int32) (v2 : Int32) (v3 : Int32) (v4 : Int32) (v5 : Int32) (k4 : (Int32 × Int32 × JoiS) → Prop) (post : JoiS → Prop) (k76 : (Int32 × JoiS) → Prop) (w76 : Int32 × JoiS) : Prop :=
  P_X6_size 60 w76.2.side (fun (r_35 : Int32) => (r_35 ≤ w76.1 → (k4 (v2, (v3 + (1 : Int32)), w76.2))) ∧ (¬ (r_35 ≤ w76.1) → (P_X6_row 60 w76.2.side w76.1 (fun (r_40 : Int32) => (¬ (r_40 &&& v1) = v5 → (k4 (v2, (v3 + (1 : Int32)), w76.2))) ∧ ((r_40 &&& v1) = v5 → (P_X6_row 60 w76.2.side w76.1 (fun (r_45 : Int32) => P_X6_add 3600 w76.2.made (v4 ||| r_45) (fun (u_46 : TabS) => k76 ((w76.1 + (1 : Int32)), (u_46, w76.2.side))))))))))
def P_X1_mergeSide_j73 (s0 : JoiS) (v1 : Int32) (v2 : Int32) (v3 : Int32) (v4 : Int32) (v5 : Int32) (k4 : (Int32 × Int32 × JoiS) → Prop) (post : JoiS → Prop) : Prop :=
  wloop (P_X1_mergeSide_B76 v1 v2 v3 v4 v5 k4 post) (v2, s0)
def P_X1_mergeSide_B41 (s0 : JoiS) (v1 : Int32) (v3 : Int32) (v4 : Int32) (v5 : Int32) (k4 : (Int32 × Int32 × JoiS) → Prop) (post : JoiS → Prop) (k41 : (Int32) → Prop) (w41 : Int32) : Prop :=
  P_X6_size 60 s0.side (fun (r_63 : Int32) => (r_63 ≤ w41 → (P_X1_mergeSide_j73 s0 v1 w41 v3 v4 v5 k4 post)) ∧ (¬ (r_63 ≤ w41) → (P_X6_row 60 s0.side w41 (fun (r_66 : Int32) => (v5 ≤ (r_66 &&& v1) → (P_X1_mergeSide_j73 s0 v1 w41 v3 v4 v5 k4 post)) ∧ (¬ (v5 ≤ (r_66 &&& v1)) → (k41 (w41 + (1 : Int32))))))))
def P_X1_mergeSide_B4 (v1 : Int32) (post : JoiS → Prop) (k4 : (Int32 × Int32 × JoiS) → Prop) (w4 : Int32 × Int32 × JoiS) : Prop :=
  P_X6_size 3600 w4.2.2.made (fun (r_53 : Int32) => (r_53 ≤ w4.2.1 → (P_X1_mergeSide_j135 w4.2.2 post)) ∧ (¬ (r_53 ≤ w4.2.1) → (P_X6_isOver 3600 w4.2.2.made (fun (r_56 : Int32) => (¬ r_56 = 0 → (P_X1_mergeSide_j135 w4.2.2 post)) ∧ (r_56 = 0 → (P_X6_row 3600 w4.2.2.made w4.2.1 (fun (r_59 : Int32) => wloop (P_X1_mergeSide_B41 w4.2.2 v1 w4.2.1 r_59 (r_59 &&& v1) k4 post) w4.1)))))))
def P_X1_mergeSide (s0 : JoiS) (v1 : Int32) (post : JoiS → Prop) : Prop :=
  wloop (P_X1_mergeSide_B4 v1 post) ((0 : Int32), (0 : Int32), s0)
def P_X1_merge_B12 (s1 : QueS) (s2 : StoS) (post : JoiS → Prop) (k12 : (Int32 × Int32 × JoiS) → Prop) (w12 : Int32 × Int32 × JoiS) : Prop :=
  P_X3_size s1 (fun (r_14 : Int32) => (r_14 ≤ w12.2.1 → (post w12.2.2)) ∧ (¬ (r_14 ≤ w12.2.1) → (P_X3_inJoinOrder s1 w12.2.1 (fun (r_17 : Int32) => P_X3_pattern s1 r_17 (fun (k : Nat) => (k = 0 → P_X2_variableBits s1.first (fun (r_21 : Int32) => P_X1_gather w12.2.2 s1.first s2 (0 : Int32) (0 : Int32) (fun (u_22 : JoiS) => P_X6_sort 60 u_22.side (w12.1 &&& r_21) (fun (u_28 : TabS) => P_X6_sort 3600 u_22.made (w12.1 &&& r_21) (fun (u_32 : TabS) => P_X7_rowMask (w12.1 &&& r_21) (fun (r_37 : Int32) => P_X1_mergeSide (u_32, u_28) r_37 (fun (u_38 : JoiS) => P_X2_variableBits s1.first (fun (r_45 : Int32) => k12 ((w12.1 ||| r_45), (w12.2.1 + (1 : Int32)), u_38))))))))) ∧ (k = 1 → P_X2_variableBits s1.second (fun (r_49 : Int32) => P_X1_gather w12.2.2 s1.second s2 (0 : Int32) (0 : Int32) (fun (u_50 : JoiS) => P_X6_sort 60 u_50.side (w12.1 &&& r_49) (fun (u_56 : TabS) => P_X6_sort 3600 u_50.made (w12.1 &&& r_49) (fun (u_60 : TabS) => P_X7_rowMask (w12.1 &&& r_49) (fun (r_65 : Int32) => P_X1_mergeSide (u_60, u_56) r_65 (fun (u_66 : JoiS) => P_X2_variableBits s1.second (fun (r_73 : Int32) => k12 ((w12.1 ||| r_73), (w12.2.1 + (1 : Int32)), u_66))))))))) ∧ (k = 2 → P_X2_variableBits s1.third (fun (r_77 : Int32) => P_X1_gather w12.2.2 s1.third s2 (0 : Int32) (0 : Int32) (fun (u_78 : JoiS) => P_X6_sort 60 u_78.side (w12.1 &&& r_77) (fun (u_84 : TabS) => P_X6_sort 3600 u_78.made (w12.1 &&& r_77) (fun (u_88 : TabS) => P_X7_rowMask (w12.1 &&& r_77) (fun (r_93 : Int32) => P_X1_mergeSide (u_88, u_84) r_93 (fun (u_94 : JoiS) => P_X2_variableBits s1.third (fun (r_101 : Int32) => k12 ((w12.1 ||| r_101), (w12.2.1 + (1 : Int32)), u_94))))))))))))))
def P_X1_merge (s0 : JoiS) (s1 : QueS) (s2 : StoS) (post : JoiS → Prop) : Prop :=
  P_X6_beginWithNothingBound 3600 s0.made (fun (u_1 : TabS) => wloop (P_X1_merge_B12 s1 s2 post) ((0 : Int32), (0 : Int32), (u_1, s0.side)))
def P_X1_made (s0 : JoiS) (post : Nat → Prop) : Prop :=
  post 0
def P_X7_keepAnswers_j25 (s0 : TriS) (post : Int32 → TriS → Prop) (postX : Nat → TriS → Prop) : Prop :=
  postX 2 s0
def P_X7_keepAnswers_B64 (post : Int32 → TriS → Prop) (postX : Nat → TriS → Prop) (k64 : (Int32 × TriS) → Prop) (w64 : Int32 × TriS) : Prop :=
  (w64.2.keptSize ≤ w64.1 → (post w64.2.keptSize w64.2)) ∧ (¬ (w64.2.keptSize ≤ w64.1) → (P_X6_row 3600 w64.2.joins.made w64.1 (fun (r_32 : Int32) => P_X7_put 2000 w64.2.kept w64.1 r_32 (fun (u_33 : (Nat → Int32)) => k64 ((w64.1 + (1 : Int32)), (w64.2.dictionary, w64.2.store, w64.2.query, w64.2.joins, u_33, w64.2.keptSize, w64.2.keptVariables))))))
def P_X7_keepAnswers (s0 : TriS) (post : Int32 → TriS → Prop) (postX : Nat → TriS → Prop) : Prop :=
  P_X1_made s0.joins (fun (k : Nat) => k = 0 → P_X6_isOver 3600 s0.joins.made (fun (r_10 : Int32) => (¬ r_10 = 0 → (P_X7_keepAnswers_j25 s0 post postX)) ∧ (r_10 = 0 → (P_X6_size 3600 s0.joins.made (fun (r_13 : Int32) => (r_13 ≤ (2000 : Int32) → (P_X3_variableBits s0.query (fun (r_16 : Int32) => P_X6_size 3600 s0.joins.made (fun (r_18 : Int32) => P_X6_sort 3600 s0.joins.made r_16 (fun (u_19 : TabS) => wloop (P_X7_keepAnswers_B64 post postX) ((0 : Int32), (s0.dictionary, s0.store, s0.query, (u_19, s0.joins.side), s0.kept, r_18, r_16))))))) ∧ (¬ (r_13 ≤ (2000 : Int32)) → (P_X7_keepAnswers_j25 s0 post postX)))))))
def P_X7_answerByMerging (s0 : TriS) (post : Int32 → TriS → Prop) (postX : Nat → TriS → Prop) : Prop :=
  P_X7_beginAnswering s0 (fun (u_1 : TriS) => P_X1_merge u_1.joins u_1.query u_1.store (fun (u_11 : JoiS) => P_X7_keepAnswers (u_1.dictionary, u_1.store, u_1.query, u_11, u_1.kept, u_1.keptSize, u_1.keptVariables) (fun (r_18 : Int32) (u_17 : TriS) => post r_18 u_17) (fun (u_17k : Nat) (u_17u : TriS) => postX u_17k u_17u))) (fun (u_1k : Nat) (u_1u : TriS) => postX u_1k u_1u)
def P_X3_hasPatternWithoutMatch_B2 (s0 : QueS) (post : Int32 → Prop) (k2 : (Int32) → Prop) (w2 : Int32) : Prop :=
  (s0.size ≤ w2 → (post (0 : Int32))) ∧ (¬ (s0.size ≤ w2) → (P_X3_pattern s0 w2 (fun (k : Nat) => (k = 0 → P_X2_found s0.first (fun (r_7 : Int32) => (¬ r_7 = 0 → (k2 (w2 + (1 : Int32)))) ∧ (r_7 = 0 → (post (1 : Int32))))) ∧ (k = 1 → P_X2_found s0.second (fun (r_12 : Int32) => (¬ r_12 = 0 → (k2 (w2 + (1 : Int32)))) ∧ (r_12 = 0 → (post (1 : Int32))))) ∧ (k = 2 → P_X2_found s0.third (fun (r_17 : Int32) => (¬ r_17 = 0 → (k2 (w2 + (1 : Int32)))) ∧ (r_17 = 0 → (post (1 : Int32))))))))
def P_X3_hasPatternWithoutMatch (s0 : QueS) (post : Int32 → Prop) : Prop :=
  wloop (P_X3_hasPatternWithoutMatch_B2 s0 post) (0 : Int32)
def P_X1_numbersAside_B5 (s0 : JoiS) (v1 : Int32) (post : Int64 → Prop) (k5 : (Int64 × Int32) → Prop) (w5 : Int64 × Int32) : Prop :=
  P_X6_size 60 s0.side (fun (r_5 : Int32) => (r_5 ≤ w5.2 → (post w5.1)) ∧ (¬ (r_5 ≤ w5.2) → (P_X6_row 60 s0.side w5.2 (fun (r_8 : Int32) => P_X7_cellOf r_8 v1 (fun (r_10 : Int32) => k5 ((w5.1 ||| ((1 : Int64) <<< ((r_10).toInt64 &&& 63))), (w5.2 + (1 : Int32))))))))
def P_X1_numbersAside (s0 : JoiS) (v1 : Int32) (post : Int64 → Prop) : Prop :=
  wloop (P_X1_numbersAside_B5 s0 v1 post) ((0 : Int64), (0 : Int32))
def P_X1_addEach_B3 (v1 : Int32) (v2 : Int32) (v3 : Int64) (post : JoiS → Prop) (k3 : (Int32 × JoiS) → Prop) (w3 : Int32 × JoiS) : Prop :=
  ((40 : Int32) ≤ w3.1 → (post w3.2)) ∧ (¬ ((40 : Int32) ≤ w3.1) → (((lg_cmp ((v3 >>> ((w3.1).toInt64 &&& 63)) &&& (1 : Int64)) (0 : Int64)) = 0 → (k3 ((w3.1 + (1 : Int32)), w3.2))) ∧ (¬ ((lg_cmp ((v3 >>> ((w3.1).toInt64 &&& 63)) &&& (1 : Int64)) (0 : Int64)) = 0) → (P_X7_cellShift v2 (fun (r_13 : Int32) => P_X6_add 3600 w3.2.made (v1 ||| (w3.1 <<< (r_13 &&& 31))) (fun (u_14 : TabS) => k3 ((w3.1 + (1 : Int32)), (u_14, w3.2.side))))))))
def P_X1_addEach (s0 : JoiS) (v1 : Int32) (v2 : Int32) (v3 : Int64) (post : JoiS → Prop) : Prop :=
  wloop (P_X1_addEach_B3 v1 v2 v3 post) ((0 : Int32), s0)
def P_X1_takeVariable_j117 (s0 : JoiS) (s1 : QueS) (s2 : StoS) (post : JoiS → Prop) : Prop :=
  P_X6_turn 3600 s0.made (fun (u_6 : TabS) => post (u_6, s0.side))
def P_X1_takeVariable_j84 (s0 : JoiS) (s1 : QueS) (s2 : StoS) (v3 : Int32) (v4 : Int32) (v5 : Int32) (v6 : Int32) (v7 : Int64) (v9 : Int32) (k3 : (Int32 × JoiS) → Prop) (k44 : (Int64 × Int32 × JoiS) → Prop) (post : JoiS → Prop) : Prop :=
  P_X1_numbersAside s0 v4 (fun (r_41 : Int64) => k44 ((v7 &&& r_41), (v9 + (1 : Int32)), s0))
def P_X1_takeVariable_B44 (s1 : QueS) (s2 : StoS) (v3 : Int32) (v4 : Int32) (v5 : Int32) (v6 : Int32) (k3 : (Int32 × JoiS) → Prop) (post : JoiS → Prop) (k44 : (Int64 × Int32 × JoiS) → Prop) (w44 : Int64 × Int32 × JoiS) : Prop :=
  P_X3_size s1 (fun (r_45 : Int32) => (r_45 ≤ w44.2.1 → (P_X1_addEach w44.2.2 v6 v4 w44.1 (fun (u_47 : JoiS) => k3 ((v5 + (1 : Int32)), u_47)))) ∧ (¬ (r_45 ≤ w44.2.1) → (P_X3_pattern s1 w44.2.1 (fun (k : Nat) => (k = 0 → P_X2_variableBits s1.first (fun (r_58 : Int32) => P_X7_hasBit r_58 v4 (fun (r_60 : Int32) => (r_60 = 0 → (k44 (w44.1, (w44.2.1 + (1 : Int32)), w44.2.2))) ∧ (¬ (r_60 = 0) → (P_X1_gather w44.2.2 s1.first s2 v3 v6 (fun (u_64 : JoiS) => P_X1_takeVariable_j84 u_64 s1 s2 v3 v4 v5 v6 w44.1 w44.2.1 k3 k44 post)))))) ∧ (k = 1 → P_X2_variableBits s1.second (fun (r_71 : Int32) => P_X7_hasBit r_71 v4 (fun (r_73 : Int32) => (r_73 = 0 → (k44 (w44.1, (w44.2.1 + (1 : Int32)), w44.2.2))) ∧ (¬ (r_73 = 0) → (P_X1_gather w44.2.2 s1.second s2 v3 v6 (fun (u_77 : JoiS) => P_X1_takeVariable_j84 u_77 s1 s2 v3 v4 v5 v6 w44.1 w44.2.1 k3 k44 post)))))) ∧ (k = 2 → P_X2_variableBits s1.third (fun (r_84 : Int32) => P_X7_hasBit r_84 v4 (fun (r_86 : Int32) => (r_86 = 0 → (k44 (w44.1, (w44.2.1 + (1 : Int32)), w44.2.2))) ∧ (¬ (r_86 = 0) → (P_X1_gather w44.2.2 s1.third s2 v3 v6 (fun (u_90 : JoiS) => P_X1_takeVariable_j84 u_90 s1 s2 v3 v4 v5 v6 w44.1 w44.2.1 k3 k44 post))))))))))
def P_X1_takeVariable_B3 (s1 : QueS) (s2 : StoS) (v3 : Int32) (v4 : Int32) (post : JoiS → Prop) (k3 : (Int32 × JoiS) → Prop) (w3 : Int32 × JoiS) : Prop :=
  P_X6_size 3600 w3.2.made (fun (r_18 : Int32) => (r_18 ≤ w3.1 → (P_X1_takeVariable_j117 w3.2 s1 s2 post)) ∧ (¬ (r_18 ≤ w3.1) → (P_X6_isOver 3600 w3.2.made (fun (r_21 : Int32) => (¬ r_21 = 0 → (P_X1_takeVariable_j117 w3.2 s1 s2 post)) ∧ (r_21 = 0 → (P_X6_row 3600 w3.2.made w3.1 (fun (r_24 : Int32) => wloop (P_X1_takeVariable_B44 s1 s2 v3 v4 w3.1 r_24 k3 post) ((-1 : Int64), (0 : Int32), w3.2))))))))
def P_X1_takeVariable (s0 : JoiS) (s1 : QueS) (s2 : StoS) (v3 : Int32) (v4 : Int32) (post : JoiS → Prop) : Prop :=
  wloop (P_X1_takeVariable_B3 s1 s2 v3 v4 post) ((0 : Int32), s0)
def P_X1_goByVariables_B53 (s1 : QueS) (s2 : StoS) (v4 : Int32) (v5 : Int32) (k26 : (Int32 × Int32 × JoiS) → Prop) (post : JoiS → Prop) (k53 : (Int32 × Int32 × JoiS) → Prop) (w53 : Int32 × Int32 × JoiS) : Prop :=
  ((4 : Int32) ≤ w53.2.1 → (k26 (w53.1, (v4 + (1 : Int32)), w53.2.2))) ∧ (¬ ((4 : Int32) ≤ w53.2.1) → (P_X7_hasBit (v5 &&& (w53.1 ^^^ (-1 : Int32))) w53.2.1 (fun (r_34 : Int32) => (r_34 = 0 → (k53 (w53.1, (w53.2.1 + (1 : Int32)), w53.2.2))) ∧ (¬ (r_34 = 0) → (P_X1_takeVariable w53.2.2 s1 s2 w53.1 w53.2.1 (fun (u_38 : JoiS) => k53 ((w53.1 ||| ((1 : Int32) <<< (w53.2.1 &&& 31))), (w53.2.1 + (1 : Int32)), u_38)))))))
def P_X1_goByVariables_j48 (s0 : JoiS) (s1 : QueS) (s2 : StoS) (v3 : Int32) (v4 : Int32) (x0 : Int32) (k26 : (Int32 × Int32 × JoiS) → Prop) (post : JoiS → Prop) : Prop :=
  wloop (P_X1_goByVariables_B53 s1 s2 v4 x0 k26 post) (v3, (0 : Int32), s0)
def P_X1_goByVariables_B26 (s1 : QueS) (s2 : StoS) (post : JoiS → Prop) (k26 : (Int32 × Int32 × JoiS) → Prop) (w26 : Int32 × Int32 × JoiS) : Prop :=
  P_X3_size s1 (fun (r_47 : Int32) => (r_47 ≤ w26.2.1 → (post w26.2.2)) ∧ (¬ (r_47 ≤ w26.2.1) → (P_X3_inJoinOrder s1 w26.2.1 (fun (r_50 : Int32) => P_X3_pattern s1 r_50 (fun (k : Nat) => (k = 0 → P_X2_variableBits s1.first (fun (r_54 : Int32) => P_X1_goByVariables_j48 w26.2.2 s1 s2 w26.1 w26.2.1 r_54 k26 post)) ∧ (k = 1 → P_X2_variableBits s1.second (fun (r_56 : Int32) => P_X1_goByVariables_j48 w26.2.2 s1 s2 w26.1 w26.2.1 r_56 k26 post)) ∧ (k = 2 → P_X2_variableBits s1.third (fun (r_58 : Int32) => P_X1_goByVariables_j48 w26.2.2 s1 s2 w26.1 w26.2.1 r_58 k26 post)))))))
def P_X1_goByVariables_j21 (s0 : JoiS) (s1 : QueS) (s2 : StoS) (post : JoiS → Prop) : Prop :=
  wloop (P_X1_goByVariables_B26 s1 s2 post) ((0 : Int32), (0 : Int32), s0)
def P_X1_goByVariables (s0 : JoiS) (s1 : QueS) (s2 : StoS) (post : JoiS → Prop) : Prop :=
  P_X6_beginWithNothingBound 3600 s0.made (fun (u_59 : TabS) => P_X3_hasPatternWithoutMatch s1 (fun (r_64 : Int32) => (r_64 = 0 → (P_X1_goByVariables_j21 (u_59, s0.side) s1 s2 post)) ∧ (¬ (r_64 = 0) → (P_X6_beginEmpty 3600 u_59 (fun (u_66 : TabS) => P_X1_goByVariables_j21 (u_66, s0.side) s1 s2 post)))))
def P_X7_answerByVariables (s0 : TriS) (post : Int32 → TriS → Prop) (postX : Nat → TriS → Prop) : Prop :=
  P_X7_beginAnswering s0 (fun (u_1 : TriS) => P_X1_goByVariables u_1.joins u_1.query u_1.store (fun (u_11 : JoiS) => P_X7_keepAnswers (u_1.dictionary, u_1.store, u_1.query, u_11, u_1.kept, u_1.keptSize, u_1.keptVariables) (fun (r_18 : Int32) (u_17 : TriS) => post r_18 u_17) (fun (u_17k : Nat) (u_17u : TriS) => postX u_17k u_17u))) (fun (u_1k : Nat) (u_1u : TriS) => postX u_1k u_1u)
def P_X5_all (s0 : StoS) (post : Nat → Prop) : Prop :=
  post 0
def P_X1_tryAllTriples_B32 (s1 : PatS) (s2 : StoS) (v3 : Int32) (v4 : Int32) (v5 : Int32) (v6 : Int32) (v8 : Int32) (post : JoiS → Prop) (k32 : (Int32 × JoiS) → Prop) (w32 : Int32 × JoiS) : Prop :=
  (v8 ≤ w32.1 → (post w32.2)) ∧ (¬ (v8 ≤ w32.1) → (P_X4_key s2.bySubject w32.1 (fun (r_18 : Int32) => (¬ (r_18 &&& v5) = v6 → (k32 ((w32.1 + (1 : Int32)), w32.2))) ∧ ((r_18 &&& v5) = v6 → (P_X2_widen s1 v3 v4 r_18 (fun (r_23 : Int32) => (r_23 = (-1 : Int32) → (k32 ((w32.1 + (1 : Int32)), w32.2))) ∧ (¬ (r_23 = (-1 : Int32)) → (P_X6_add 3600 w32.2.made r_23 (fun (u_27 : TabS) => k32 ((w32.1 + (1 : Int32)), (u_27, w32.2.side)))))))))))
def P_X1_tryAllTriples (s0 : JoiS) (s1 : PatS) (s2 : StoS) (v3 : Int32) (v4 : Int32) (post : JoiS → Prop) : Prop :=
  P_X2_maskWith s1 v3 (fun (r_2 : Int32) => P_X2_valueWith s1 v3 v4 (fun (r_4 : Int32) => P_X5_all s2 (fun (k : Nat) => k = 0 → P_X4_size s2.bySubject (fun (r_8 : Int32) => wloop (P_X1_tryAllTriples_B32 s1 s2 v3 v4 r_2 r_4 r_8 post) ((0 : Int32), s0)))))
def P_X1_loop_B32 (s1 : QueS) (s2 : StoS) (v3 : Int32) (v4 : Int32) (k12 : (Int32 × Int32 × JoiS) → Prop) (post : JoiS → Prop) (k32 : (Int32 × JoiS) → Prop) (w32 : Int32 × JoiS) : Prop :=
  P_X6_size 3600 w32.2.made (fun (r_26 : Int32) => (r_26 ≤ w32.1 → (P_X6_turn 3600 w32.2.made (fun (u_28 : TabS) => P_X2_variableBits s1.first (fun (r_33 : Int32) => k12 ((v3 ||| r_33), (v4 + (1 : Int32)), (u_28, w32.2.side)))))) ∧ (¬ (r_26 ≤ w32.1) → (P_X6_isOver 3600 w32.2.made (fun (r_37 : Int32) => (¬ r_37 = 0 → (P_X6_turn 3600 w32.2.made (fun (u_39 : TabS) => P_X2_variableBits s1.first (fun (r_44 : Int32) => k12 ((v3 ||| r_44), (v4 + (1 : Int32)), (u_39, w32.2.side)))))) ∧ (r_37 = 0 → (P_X6_row 3600 w32.2.made w32.1 (fun (r_48 : Int32) => P_X1_tryAllTriples w32.2 s1.first s2 v3 r_48 (fun (u_49 : JoiS) => k32 ((w32.1 + (1 : Int32)), u_49)))))))))
def P_X1_loop_B32b (s1 : QueS) (s2 : StoS) (v3 : Int32) (v4 : Int32) (k12 : (Int32 × Int32 × JoiS) → Prop) (post : JoiS → Prop) (k32 : (Int32 × JoiS) → Prop) (w32 : Int32 × JoiS) : Prop :=
  P_X6_size 3600 w32.2.made (fun (r_65 : Int32) => (r_65 ≤ w32.1 → (P_X6_turn 3600 w32.2.made (fun (u_67 : TabS) => P_X2_variableBits s1.second (fun (r_72 : Int32) => k12 ((v3 ||| r_72), (v4 + (1 : Int32)), (u_67, w32.2.side)))))) ∧ (¬ (r_65 ≤ w32.1) → (P_X6_isOver 3600 w32.2.made (fun (r_76 : Int32) => (¬ r_76 = 0 → (P_X6_turn 3600 w32.2.made (fun (u_78 : TabS) => P_X2_variableBits s1.second (fun (r_83 : Int32) => k12 ((v3 ||| r_83), (v4 + (1 : Int32)), (u_78, w32.2.side)))))) ∧ (r_76 = 0 → (P_X6_row 3600 w32.2.made w32.1 (fun (r_87 : Int32) => P_X1_tryAllTriples w32.2 s1.second s2 v3 r_87 (fun (u_88 : JoiS) => k32 ((w32.1 + (1 : Int32)), u_88)))))))))
def P_X1_loop_B32c (s1 : QueS) (s2 : StoS) (v3 : Int32) (v4 : Int32) (k12 : (Int32 × Int32 × JoiS) → Prop) (post : JoiS → Prop) (k32 : (Int32 × JoiS) → Prop) (w32 : Int32 × JoiS) : Prop :=
  P_X6_size 3600 w32.2.made (fun (r_104 : Int32) => (r_104 ≤ w32.1 → (P_X6_turn 3600 w32.2.made (fun (u_106 : TabS) => P_X2_variableBits s1.third (fun (r_111 : Int32) => k12 ((v3 ||| r_111), (v4 + (1 : Int32)), (u_106, w32.2.side)))))) ∧ (¬ (r_104 ≤ w32.1) → (P_X6_isOver 3600 w32.2.made (fun (r_115 : Int32) => (¬ r_115 = 0 → (P_X6_turn 3600 w32.2.made (fun (u_117 : TabS) => P_X2_variableBits s1.third (fun (r_122 : Int32) => k12 ((v3 ||| r_122), (v4 + (1 : Int32)), (u_117, w32.2.side)))))) ∧ (r_115 = 0 → (P_X6_row 3600 w32.2.made w32.1 (fun (r_126 : Int32) => P_X1_tryAllTriples w32.2 s1.third s2 v3 r_126 (fun (u_127 : JoiS) => k32 ((w32.1 + (1 : Int32)), u_127)))))))))
def P_X1_loop_B12 (s1 : QueS) (s2 : StoS) (post : JoiS → Prop) (k12 : (Int32 × Int32 × JoiS) → Prop) (w12 : Int32 × Int32 × JoiS) : Prop :=
  P_X3_size s1 (fun (r_14 : Int32) => (r_14 ≤ w12.2.1 → (post w12.2.2)) ∧ (¬ (r_14 ≤ w12.2.1) → (P_X3_pattern s1 w12.2.1 (fun (k : Nat) => (k = 0 → wloop (P_X1_loop_B32 s1 s2 w12.1 w12.2.1 k12 post) ((0 : Int32), w12.2.2)) ∧ (k = 1 → wloop (P_X1_loop_B32b s1 s2 w12.1 w12.2.1 k12 post) ((0 : Int32), w12.2.2)) ∧ (k = 2 → wloop (P_X1_loop_B32c s1 s2 w12.1 w12.2.1 k12 post) ((0 : Int32), w12.2.2))))))
def P_X1_loop (s0 : JoiS) (s1 : QueS) (s2 : StoS) (post : JoiS → Prop) : Prop :=
  P_X6_beginWithNothingBound 3600 s0.made (fun (u_1 : TabS) => wloop (P_X1_loop_B12 s1 s2 post) ((0 : Int32), (0 : Int32), (u_1, s0.side)))
def P_X7_answerByLoops (s0 : TriS) (post : Int32 → TriS → Prop) (postX : Nat → TriS → Prop) : Prop :=
  P_X7_beginAnswering s0 (fun (u_1 : TriS) => P_X1_loop u_1.joins u_1.query u_1.store (fun (u_11 : JoiS) => P_X7_keepAnswers (u_1.dictionary, u_1.store, u_1.query, u_11, u_1.kept, u_1.keptSize, u_1.keptVariables) (fun (r_18 : Int32) (u_17 : TriS) => post r_18 u_17) (fun (u_17k : Nat) (u_17u : TriS) => postX u_17k u_17u))) (fun (u_1k : Nat) (u_1u : TriS) => postX u_1k u_1u)
def P_X7_answers (s0 : TriS) (post : Int32 → Prop) : Prop :=
  post s0.keptSize
def P_X7_isVariable (v0 : Int32) (post : Int32 → Prop) : Prop :=
  (v0 < 0 → (post (0 : Int32))) ∧ (¬ (v0 < 0) → (((4 : Int32) ≤ v0 → (post (0 : Int32))) ∧ (¬ ((4 : Int32) ≤ v0) → (post (1 : Int32)))))
def P_X7_answer_j12 (s0 : TriS) (post : Int32 → Prop) (postX : Nat → Prop) : Prop :=
  postX 3
def P_X7_answer (s0 : TriS) (v1 : Int32) (v2 : Int32) (post : Int32 → Prop) (postX : Nat → Prop) : Prop :=
  (v1 < 0 → (P_X7_answer_j12 s0 post postX)) ∧ (¬ (v1 < 0) → ((v1 < s0.keptSize → (P_X7_isVariable v2 (fun (r_5 : Int32) => (¬ r_5 = 0 → (P_X7_hasBit s0.keptVariables v2 (fun (r_8 : Int32) => (¬ r_8 = 0 → (P_X7_at 2000 s0.kept v1 (fun (r_11 : Int32) => P_X7_cellOf r_11 v2 (fun (r_13 : Int32) => P_X0_term s0.dictionary r_13 (fun (r_15 : Int32) => post r_15))))) ∧ (r_8 = 0 → (postX 1))))) ∧ (r_5 = 0 → (postX 1))))) ∧ (¬ (v1 < s0.keptSize) → (P_X7_answer_j12 s0 post postX))))
def P_J13_bitCount_95d88 (v0 : Int64) (post : Int32 → Prop) : Prop :=
  ∀ (y_1 : Int64), y_1 = (((v0 - ((jlushr v0 (1 : Int32)) &&& (6148914691236517205 : Int64))) &&& (3689348814741910323 : Int64)) + ((jlushr (v0 - ((jlushr v0 (1 : Int32)) &&& (6148914691236517205 : Int64))) (2 : Int32)) &&& (3689348814741910323 : Int64))) → (∀ (y_2 : Int64), y_2 = (((y_1 + (jlushr y_1 (4 : Int32))) &&& (1085102592571150095 : Int64)) + (jlushr ((y_1 + (jlushr y_1 (4 : Int32))) &&& (1085102592571150095 : Int64)) (8 : Int32))) → (post ((((y_2 + (jlushr y_2 (16 : Int32))) + (jlushr (y_2 + (jlushr y_2 (16 : Int32))) (32 : Int32)))).toInt32 &&& (127 : Int32))))
def P_X7_termsFor_B35 (s0 : TriS) (v1 : Int32) (post : Int32 → Prop) (postX : Nat → Prop) (k35 : (Int64 × Int32) → Prop) (w35 : Int64 × Int32) : Prop :=
  (s0.keptSize ≤ w35.2 → (P_J13_bitCount_95d88 w35.1 (fun (r_12 : Int32) => post r_12))) ∧ (¬ (s0.keptSize ≤ w35.2) → (P_X7_at 2000 s0.kept w35.2 (fun (r_14 : Int32) => P_X7_cellOf r_14 v1 (fun (r_16 : Int32) => k35 ((w35.1 ||| ((1 : Int64) <<< ((r_16).toInt64 &&& 63))), (w35.2 + (1 : Int32)))))))
def P_X7_termsFor (s0 : TriS) (v1 : Int32) (post : Int32 → Prop) (postX : Nat → Prop) : Prop :=
  P_X7_isVariable v1 (fun (r_2 : Int32) => (¬ r_2 = 0 → (P_X7_hasBit s0.keptVariables v1 (fun (r_5 : Int32) => (¬ r_5 = 0 → (wloop (P_X7_termsFor_B35 s0 v1 post postX) ((0 : Int64), (0 : Int32)))) ∧ (r_5 = 0 → (post (0 : Int32)))))) ∧ (r_2 = 0 → (postX 1)))
