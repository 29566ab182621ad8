/-! PURE SIDE: orders -/
set_option maxHeartbeats 4000000 in
set_option maxRecDepth 100000 in
theorem pf_L_orders_8 {c : TriS} {post : Int32 → Prop} (hc : cls [5, 1, 7, 9, 2] [66, 259, 12352] [] [] 0 c) (ha : ansOK [5, 1, 7, 9, 2] [] 0) (h : post (1 : Int32)) : P_L_orders_8 c post := by
  refine D_terms 5 hc (by decide +kernel) ?_
  refine ⟨fun q => absurd q (by decide), fun _ => ?_⟩
  refine D_termAt 0 2 0 [66, 259, 12352] 9 hc (by decide) (by decide) (by decide) (by decide +kernel) (by decide +kernel) (by decide +kernel) (by decide +kernel) ?_
  refine ⟨fun q => absurd q (by decide), fun _ => ?_⟩
  refine D_seek 0 7 2 hc (by decide) (by decide) (by decide +kernel) (by decide +kernel) ?_
  refine ⟨fun q => absurd q (by decide), fun _ => ?_⟩
  refine D_count 2 hc (Or.inl rfl) (Or.inr ⟨1, by decide, rfl⟩) (Or.inl rfl) (by decide +kernel) ?_
  refine ⟨fun q => absurd q (by decide), fun _ => ?_⟩
  refine pf_L_refuses hc ha (fun c hc => ?_)
  refine ⟨fun q => absurd q (by decide), fun _ => ?_⟩
  exact h
set_option maxHeartbeats 4000000 in
set_option maxRecDepth 100000 in
theorem pf_L_orders_7 {c : TriS} {post : Int32 → Prop} (hc : cls [5, 1, 7, 9, 2] [66, 8259, 259, 12352] [] [] 0 c) (ha : ansOK [5, 1, 7, 9, 2] [] 0) (h : post (1 : Int32)) : P_L_orders_7 c post := by
  refine D_orderFor false false true 2 (by decide) (by decide) (by decide) (by decide +kernel) ?_
  refine ⟨fun _ => ?_, fun q => absurd q (by decide)⟩
  refine D_orderFor true false true 2 (by decide) (by decide) (by decide) (by decide +kernel) ?_
  refine ⟨fun _ => ?_, fun q => absurd q (by decide)⟩
  refine D_orderFor false true true 1 (by decide) (by decide) (by decide) (by decide +kernel) ?_
  refine ⟨fun _ => ?_, fun q => absurd q (by decide)⟩
  refine D_orderFor true true true 0 (by decide) (by decide) (by decide) (by decide +kernel) ?_
  refine ⟨fun _ => ?_, fun q => absurd q (by decide)⟩
  refine D_takeBack1 7 1 9 [66, 259, 12352] hc (by decide) (by decide) (by decide) (by decide +kernel) (by decide +kernel) (fun c hc => ?_)
  refine ⟨fun q => absurd q (by decide), fun _ => ?_⟩
  refine D_takeBack0 7 1 9 hc (by decide) (by decide) (by decide) (by decide +kernel) (fun c hc => ?_)
  refine ⟨fun q => absurd q (by decide), fun _ => ?_⟩
  refine D_triples 3 hc (by decide +kernel) ?_
  refine ⟨fun q => absurd q (by decide), fun _ => ?_⟩
  exact pf_L_orders_8 hc ha h
set_option maxHeartbeats 4000000 in
set_option maxRecDepth 100000 in
theorem pf_L_orders_6 {c : TriS} {post : Int32 → Prop} (hc : cls [5, 1, 7, 9, 2] [66, 8259, 259, 12352] [] [] 0 c) (ha : ansOK [5, 1, 7, 9, 2] [] 0) (h : post (1 : Int32)) : P_L_orders_6 c post := by
  refine D_seek 2 1 1 hc (by decide) (by decide) (by decide +kernel) (by decide +kernel) ?_
  refine ⟨fun q => absurd q (by decide), fun _ => ?_⟩
  refine D_seek 0 2 4 hc (by decide) (by decide) (by decide +kernel) (by decide +kernel) ?_
  refine ⟨fun q => absurd q (by decide), fun _ => ?_⟩
  refine ar_6s (o0 := 0) (a0 := 8) hc (by decide) (by decide) (by decide +kernel) (fun c hc => ?_)
  refine ⟨fun _ => ?_, fun q => absurd q (by decide)⟩
  refine D_orderFor false false false 0 (by decide) (by decide) (by decide) (by decide +kernel) ?_
  refine ⟨fun _ => ?_, fun q => absurd q (by decide)⟩
  refine D_orderFor true false false 0 (by decide) (by decide) (by decide) (by decide +kernel) ?_
  refine ⟨fun _ => ?_, fun q => absurd q (by decide)⟩
  refine D_orderFor false true false 1 (by decide) (by decide) (by decide) (by decide +kernel) ?_
  refine ⟨fun _ => ?_, fun q => absurd q (by decide)⟩
  refine D_orderFor true true false 0 (by decide) (by decide) (by decide) (by decide +kernel) ?_
  refine ⟨fun _ => ?_, fun q => absurd q (by decide)⟩
  exact pf_L_orders_7 hc ha h
set_option maxHeartbeats 4000000 in
set_option maxRecDepth 100000 in
theorem pf_L_orders_5 {c : TriS} {post : Int32 → Prop} (hc : cls [5, 1, 7, 9, 2] [66, 8259, 259, 12352] [] [] 0 c) (ha : ansOK [5, 1, 7, 9, 2] [] 0) (h : post (1 : Int32)) : P_L_orders_5 c post := by
  refine D_count 1 hc (Or.inr ⟨5, by decide, rfl⟩) (Or.inr ⟨1, by decide, rfl⟩) (Or.inr ⟨7, by decide, rfl⟩) (by decide +kernel) ?_
  refine ⟨fun q => absurd q (by decide), fun _ => ?_⟩
  refine D_count 0 hc (Or.inr ⟨8, by decide, rfl⟩) (Or.inl rfl) (Or.inl rfl) (by decide +kernel) ?_
  refine ⟨fun q => absurd q (by decide), fun _ => ?_⟩
  refine D_count 2 hc (Or.inl rfl) (Or.inl rfl) (Or.inr ⟨9, by decide, rfl⟩) (by decide +kernel) ?_
  refine ⟨fun q => absurd q (by decide), fun _ => ?_⟩
  refine D_count 4 hc (Or.inl rfl) (Or.inl rfl) (Or.inl rfl) (by decide +kernel) ?_
  refine ⟨fun q => absurd q (by decide), fun _ => ?_⟩
  refine D_count 0 hc (Or.inr ⟨5, by decide, rfl⟩) (Or.inr ⟨1, by decide, rfl⟩) (Or.inr ⟨9, by decide, rfl⟩) (by decide +kernel) ?_
  refine ⟨fun q => absurd q (by decide), fun _ => ?_⟩
  refine D_seek 0 7 2 hc (by decide) (by decide) (by decide +kernel) (by decide +kernel) ?_
  refine ⟨fun q => absurd q (by decide), fun _ => ?_⟩
  refine D_seek 1 2 3 hc (by decide) (by decide) (by decide +kernel) (by decide +kernel) ?_
  refine ⟨fun q => absurd q (by decide), fun _ => ?_⟩
  exact pf_L_orders_6 hc ha h
set_option maxHeartbeats 4000000 in
set_option maxRecDepth 100000 in
theorem pf_L_orders_4 {c : TriS} {post : Int32 → Prop} (hc : cls [5, 1, 7, 9, 2] [66, 8259, 259, 12352] [] [] 0 c) (ha : ansOK [5, 1, 7, 9, 2] [] 0) (h : post (1 : Int32)) : P_L_orders_4 c post := by
  refine D_termAt 2 0 2 [193, 8193, 12292, 12417] 5 hc (by decide) (by decide) (by decide) (by decide +kernel) (by decide +kernel) (by decide +kernel) (by decide +kernel) ?_
  refine ⟨fun q => absurd q (by decide), fun _ => ?_⟩
  refine D_termAt 2 1 2 [193, 8193, 12292, 12417] 7 hc (by decide) (by decide) (by decide) (by decide +kernel) (by decide +kernel) (by decide +kernel) (by decide +kernel) ?_
  refine ⟨fun q => absurd q (by decide), fun _ => ?_⟩
  refine D_termAt 2 2 0 [193, 8193, 12292, 12417] 5 hc (by decide) (by decide) (by decide) (by decide +kernel) (by decide +kernel) (by decide +kernel) (by decide +kernel) ?_
  refine ⟨fun q => absurd q (by decide), fun _ => ?_⟩
  refine D_termAt 2 2 1 [193, 8193, 12292, 12417] 2 hc (by decide) (by decide) (by decide) (by decide +kernel) (by decide +kernel) (by decide +kernel) (by decide +kernel) ?_
  refine ⟨fun q => absurd q (by decide), fun _ => ?_⟩
  refine D_termAt 2 3 0 [193, 8193, 12292, 12417] 7 hc (by decide) (by decide) (by decide) (by decide +kernel) (by decide +kernel) (by decide +kernel) (by decide +kernel) ?_
  refine ⟨fun _ => ?_, fun q => absurd q (by decide)⟩
  refine D_count 3 hc (Or.inl rfl) (Or.inr ⟨1, by decide, rfl⟩) (Or.inl rfl) (by decide +kernel) ?_
  refine ⟨fun q => absurd q (by decide), fun _ => ?_⟩
  refine D_count 2 hc (Or.inr ⟨5, by decide, rfl⟩) (Or.inl rfl) (Or.inl rfl) (by decide +kernel) ?_
  refine ⟨fun q => absurd q (by decide), fun _ => ?_⟩
  exact pf_L_orders_5 hc ha h
set_option maxHeartbeats 4000000 in
set_option maxRecDepth 100000 in
theorem pf_L_orders_3 {c : TriS} {post : Int32 → Prop} (hc : cls [5, 1, 7, 9, 2] [66, 8259, 259, 12352] [] [] 0 c) (ha : ansOK [5, 1, 7, 9, 2] [] 0) (h : post (1 : Int32)) : P_L_orders_3 c post := by
  refine D_termAt 0 1 1 [66, 259, 8259, 12352] 2 hc (by decide) (by decide) (by decide) (by decide +kernel) (by decide +kernel) (by decide +kernel) (by decide +kernel) ?_
  refine ⟨fun q => absurd q (by decide), fun _ => ?_⟩
  refine D_termAt 0 2 0 [66, 259, 8259, 12352] 7 hc (by decide) (by decide) (by decide) (by decide +kernel) (by decide +kernel) (by decide +kernel) (by decide +kernel) ?_
  refine ⟨fun q => absurd q (by decide), fun _ => ?_⟩
  refine D_termAt 0 3 0 [66, 259, 8259, 12352] 9 hc (by decide) (by decide) (by decide) (by decide +kernel) (by decide +kernel) (by decide +kernel) (by decide +kernel) ?_
  refine ⟨fun q => absurd q (by decide), fun _ => ?_⟩
  refine D_termAt 1 0 0 [4099, 4224, 4290, 16576] 9 hc (by decide) (by decide) (by decide) (by decide +kernel) (by decide +kernel) (by decide +kernel) (by decide +kernel) ?_
  refine ⟨fun q => absurd q (by decide), fun _ => ?_⟩
  refine D_termAt 1 1 0 [4099, 4224, 4290, 16576] 5 hc (by decide) (by decide) (by decide) (by decide +kernel) (by decide +kernel) (by decide +kernel) (by decide +kernel) ?_
  refine ⟨fun q => absurd q (by decide), fun _ => ?_⟩
  refine D_termAt 1 2 0 [4099, 4224, 4290, 16576] 7 hc (by decide) (by decide) (by decide) (by decide +kernel) (by decide +kernel) (by decide +kernel) (by decide +kernel) ?_
  refine ⟨fun q => absurd q (by decide), fun _ => ?_⟩
  refine D_termAt 1 3 1 [4099, 4224, 4290, 16576] 2 hc (by decide) (by decide) (by decide) (by decide +kernel) (by decide +kernel) (by decide +kernel) (by decide +kernel) ?_
  refine ⟨fun q => absurd q (by decide), fun _ => ?_⟩
  exact pf_L_orders_4 hc ha h
set_option maxHeartbeats 4000000 in
set_option maxRecDepth 100000 in
theorem pf_L_orders_2 {c : TriS} {post : Int32 → Prop} (hc : cls [5, 1, 7, 9, 2] [66, 8259, 259, 12352] [] [] 0 c) (ha : ansOK [5, 1, 7, 9, 2] [] 0) (h : post (1 : Int32)) : P_L_orders_2 c post := by
  refine D_terms 5 hc (by decide +kernel) ?_
  refine ⟨fun q => absurd q (by decide), fun _ => ?_⟩
  refine D_numberOf 5 (0 : Int32) hc (by decide) (by decide +kernel) ?_
  refine ⟨fun q => absurd q (by decide), fun _ => ?_⟩
  refine D_numberOf 7 (2 : Int32) hc (by decide) (by decide +kernel) ?_
  refine ⟨fun q => absurd q (by decide), fun _ => ?_⟩
  refine D_numberOf 9 (3 : Int32) hc (by decide) (by decide +kernel) ?_
  refine ⟨fun q => absurd q (by decide), fun _ => ?_⟩
  refine D_termOf 4 2 hc (by decide +kernel) ?_
  refine ⟨fun q => absurd q (by decide), fun _ => ?_⟩
  refine D_numberOf 8 (-1 : Int32) hc (by decide) (by decide +kernel) ?_
  refine ⟨fun _ => ?_, fun q => absurd q (by decide)⟩
  refine D_termAt 0 0 2 [66, 259, 8259, 12352] 7 hc (by decide) (by decide) (by decide) (by decide +kernel) (by decide +kernel) (by decide +kernel) (by decide +kernel) ?_
  refine ⟨fun q => absurd q (by decide), fun _ => ?_⟩
  exact pf_L_orders_3 hc ha h
set_option maxHeartbeats 4000000 in
set_option maxRecDepth 100000 in
theorem pf_L_orders_1 {c : TriS} {post : Int32 → Prop} (hc : cls [] [] [] [] 0 c) (ha : ansOK [] [] 0) (h : post (1 : Int32)) : P_L_orders_1 c post := by
  refine pf_L_refuses hc ha (fun c hc => ?_)
  refine ⟨fun q => absurd q (by decide), fun _ => ?_⟩
  refine D_state1 5 1 7 [5, 1, 7] [66] hc (by decide) (by decide) (by decide) (by decide +kernel) (by decide +kernel) (by decide +kernel) (by decide +kernel) (fun c hc => ?_)
  have ha : ansOK [5, 1, 7] [] 0 := ans_more ha (by decide)
  refine ⟨fun q => absurd q (by decide), fun _ => ?_⟩
  refine D_state0 5 1 7 hc (by decide) (by decide) (by decide) (by decide +kernel) (fun c hc => ?_)
  refine ⟨fun q => absurd q (by decide), fun _ => ?_⟩
  refine D_state1 7 1 9 [5, 1, 7, 9] [66, 8259] hc (by decide) (by decide) (by decide) (by decide +kernel) (by decide +kernel) (by decide +kernel) (by decide +kernel) (fun c hc => ?_)
  have ha : ansOK [5, 1, 7, 9] [] 0 := ans_more ha (by decide)
  refine ⟨fun q => absurd q (by decide), fun _ => ?_⟩
  refine D_state1 5 2 9 [5, 1, 7, 9, 2] [66, 8259, 259] hc (by decide) (by decide) (by decide) (by decide +kernel) (by decide +kernel) (by decide +kernel) (by decide +kernel) (fun c hc => ?_)
  have ha : ansOK [5, 1, 7, 9, 2] [] 0 := ans_more ha (by decide)
  refine ⟨fun q => absurd q (by decide), fun _ => ?_⟩
  refine D_state1 9 1 5 [5, 1, 7, 9, 2] [66, 8259, 259, 12352] hc (by decide) (by decide) (by decide) (by decide +kernel) (by decide +kernel) (by decide +kernel) (by decide +kernel) (fun c hc => ?_)
  have ha : ansOK [5, 1, 7, 9, 2] [] 0 := ans_more ha (by decide)
  refine ⟨fun q => absurd q (by decide), fun _ => ?_⟩
  refine D_triples 4 hc (by decide +kernel) ?_
  refine ⟨fun q => absurd q (by decide), fun _ => ?_⟩
  exact pf_L_orders_2 hc ha h
set_option maxHeartbeats 4000000 in
set_option maxRecDepth 100000 in
theorem pf_L_orders {post : Int32 → Prop} (h : post (1 : Int32)) : P_L_orders post := by
  refine C_init (fun c hc => ?_)
  have ha := ansOK0 []
  refine D_triples 0 hc (by decide +kernel) ?_
  refine ⟨fun q => absurd q (by decide), fun _ => ?_⟩
  refine D_terms 0 hc (by decide +kernel) ?_
  refine ⟨fun q => absurd q (by decide), fun _ => ?_⟩
  refine D_answers 0 hc (by decide +kernel) ?_
  refine ⟨fun q => absurd q (by decide), fun _ => ?_⟩
  refine D_forget 0 hc (by decide +kernel) (fun c hc => ?_)
  refine ⟨fun q => absurd q (by decide), fun _ => ?_⟩
  refine D_termsFor 3 0 hc ha (by decide) (by decide +kernel) ?_
  refine ⟨fun q => absurd q (by decide), fun _ => ?_⟩
  refine D_comesX hc ha (Or.inl rfl) (fun c hc => ?_)
  refine ⟨fun q => absurd q (by decide), fun _ => ?_⟩
  exact pf_L_orders_1 hc ha h
