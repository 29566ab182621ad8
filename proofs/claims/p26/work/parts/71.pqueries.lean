/-! PURE SIDE: queries -/
set_option maxHeartbeats 4000000 in
set_option maxRecDepth 100000 in
theorem pf_L_queries_12 {c : TriS} {post : Int32 → Prop} (hc : cls [5, 1, 7, 9, 2] [66, 8259, 259, 8322] [pat3 5 1 7] [0] 0 c) (ha : ansOK [5, 1, 7, 9, 2] [0] 0) (h : post (1 : Int32)) : P_L_queries_12 c post := by
  refine D_add 5 1 8 1 [pat3 5 1 7, pat3 5 1 8] hc (by decide) (by decide) (by decide) (by decide) (by decide) (by decide) (by decide) rfl rfl (fun c hc => ?_)
  refine ⟨fun q => absurd q (by decide), fun _ => ?_⟩
  refine D_comes [] 0 0 hc ha (by decide) ⟨(by decide +kernel), (by decide +kernel)⟩ (by decide +kernel) (by decide) (by decide +kernel) rfl (fun c hc ha => ?_)
  refine ⟨fun q => absurd q (by decide), fun _ => ?_⟩
  refine D_shape 0 hc (by decide +kernel) ?_
  refine ⟨fun q => absurd q (by decide), fun _ => ?_⟩
  refine pf_L_refuses hc ha (fun c hc => ?_)
  refine ⟨fun q => absurd q (by decide), fun _ => ?_⟩
  exact h
set_option maxHeartbeats 4000000 in
set_option maxRecDepth 100000 in
theorem pf_L_queries_11 {c : TriS} {post : Int32 → Prop} (hc : cls [5, 1, 7, 9, 2] [66, 8259, 259, 8322] [pat3 100 101 100, pat3 100 102 103] [532547, 532610] 15 c) (ha : ansOK [5, 1, 7, 9, 2] [532547, 532610] 15) (h : post (1 : Int32)) : P_L_queries_11 c post := by
  refine D_termsFor 0 1 hc ha (by decide) (by decide +kernel) ?_
  refine ⟨fun _ => ?_, fun q => absurd q (by decide)⟩
  refine D_forget 2 hc (by decide +kernel) (fun c hc => ?_)
  refine ⟨fun q => absurd q (by decide), fun _ => ?_⟩
  refine D_add 5 1 7 0 [pat3 5 1 7] hc (by decide) (by decide) (by decide) (by decide) (by decide) (by decide) (by decide) rfl rfl (fun c hc => ?_)
  refine ⟨fun q => absurd q (by decide), fun _ => ?_⟩
  refine D_variables 0 hc (by decide +kernel) ?_
  refine ⟨fun q => absurd q (by decide), fun _ => ?_⟩
  refine D_comes [0] 1 0 hc ha (by decide) ⟨(by decide +kernel), (by decide +kernel)⟩ (by decide +kernel) (by decide) (by decide +kernel) rfl (fun c hc ha => ?_)
  refine ⟨fun q => absurd q (by decide), fun _ => ?_⟩
  refine ar_13v hc ha ⟨0, by decide, rfl⟩ (fun v hv e => by obtain rfl := nI_i (a := 0) (by omega) (by omega) e; decide) (fun c hc => ?_)
  refine ⟨fun q => absurd q (by decide), fun _ => ?_⟩
  refine ar_13 hc ha (nN (by decide) (Or.inr (by decide))) (fun c hc => ?_)
  refine ⟨fun q => absurd q (by decide), fun _ => ?_⟩
  exact pf_L_queries_12 hc ha h
set_option maxHeartbeats 4000000 in
set_option maxRecDepth 100000 in
theorem pf_L_queries_10 {c : TriS} {post : Int32 → Prop} (hc : cls [5, 1, 7, 9, 2] [66, 8259, 259, 8322] [pat3 100 101 100] [532480] 3 c) (ha : ansOK [5, 1, 7, 9, 2] [532480] 3) (h : post (1 : Int32)) : P_L_queries_10 c post := by
  refine D_add 100 102 103 1 [pat3 100 101 100, pat3 100 102 103] hc (by decide) (by decide) (by decide) (by decide) (by decide) (by decide) (by decide) rfl rfl (fun c hc => ?_)
  refine ⟨fun q => absurd q (by decide), fun _ => ?_⟩
  refine D_shape 3 hc (by decide +kernel) ?_
  refine ⟨fun q => absurd q (by decide), fun _ => ?_⟩
  refine D_comes [532547, 532610] 2 15 hc ha (by decide) ⟨(by decide +kernel), (by decide +kernel)⟩ (by decide +kernel) (by decide) (by decide +kernel) rfl (fun c hc ha => ?_)
  refine ⟨fun q => absurd q (by decide), fun _ => ?_⟩
  refine D_answer 0 2 1 hc ha (by decide +kernel) (by decide) (by decide +kernel) (by decide +kernel) ?_
  refine ⟨fun q => absurd q (by decide), fun _ => ?_⟩
  refine D_answer 0 3 9 hc ha (by decide +kernel) (by decide) (by decide +kernel) (by decide +kernel) ?_
  refine ⟨fun q => absurd q (by decide), fun _ => ?_⟩
  refine D_answer 1 2 7 hc ha (by decide +kernel) (by decide) (by decide +kernel) (by decide +kernel) ?_
  refine ⟨fun q => absurd q (by decide), fun _ => ?_⟩
  refine D_termsFor 3 2 hc ha (by decide) (by decide +kernel) ?_
  refine ⟨fun q => absurd q (by decide), fun _ => ?_⟩
  exact pf_L_queries_11 hc ha h
set_option maxHeartbeats 4000000 in
set_option maxRecDepth 100000 in
theorem pf_L_queries_9 {c : TriS} {post : Int32 → Prop} (hc : cls [5, 1, 7, 9, 2] [66, 8259, 259] [pat3 100 101 100] [] 7 c) (ha : ansOK [5, 1, 7, 9, 2] [] 7) (h : post (1 : Int32)) : P_L_queries_9 c post := by
  refine D_matches 0 0 hc (by decide) (fun X eX => by cases eX; decide +kernel) (fun c hc => ?_)
  refine ⟨fun q => absurd q (by decide), fun _ => ?_⟩
  refine D_comes [] 0 3 hc ha (by decide) ⟨(by decide +kernel), (by decide +kernel)⟩ (by decide +kernel) (by decide) (by decide +kernel) rfl (fun c hc ha => ?_)
  refine ⟨fun q => absurd q (by decide), fun _ => ?_⟩
  refine D_state1 7 7 7 [5, 1, 7, 9, 2] [66, 8259, 259, 8322] hc (by decide) (by decide) (by decide) (by decide +kernel) (by decide +kernel) (by decide +kernel) (by decide +kernel) (fun c hc => ?_)
  have ha : ansOK [5, 1, 7, 9, 2] [] 3 := ans_more ha (by decide)
  refine ⟨fun q => absurd q (by decide), fun _ => ?_⟩
  refine D_matches 0 1 hc (by decide) (fun X eX => by cases eX; decide +kernel) (fun c hc => ?_)
  refine ⟨fun q => absurd q (by decide), fun _ => ?_⟩
  refine D_comes [532480] 1 3 hc ha (by decide) ⟨(by decide +kernel), (by decide +kernel)⟩ (by decide +kernel) (by decide) (by decide +kernel) rfl (fun c hc ha => ?_)
  refine ⟨fun q => absurd q (by decide), fun _ => ?_⟩
  refine D_answer 0 0 7 hc ha (by decide +kernel) (by decide) (by decide +kernel) (by decide +kernel) ?_
  refine ⟨fun q => absurd q (by decide), fun _ => ?_⟩
  refine D_answer 0 1 7 hc ha (by decide +kernel) (by decide) (by decide +kernel) (by decide +kernel) ?_
  refine ⟨fun q => absurd q (by decide), fun _ => ?_⟩
  exact pf_L_queries_10 hc ha h
set_option maxHeartbeats 4000000 in
set_option maxRecDepth 100000 in
theorem pf_L_queries_8 {c : TriS} {post : Int32 → Prop} (hc : cls [5, 1, 7, 9, 2] [66, 8259, 259] [pat3 100 1 101, pat3 100 2 102, pat3 9 1 5] [8384] 7 c) (ha : ansOK [5, 1, 7, 9, 2] [8384] 7) (h : post (1 : Int32)) : P_L_queries_8 c post := by
  refine D_answers 1 hc (by decide +kernel) ?_
  refine ⟨fun q => absurd q (by decide), fun _ => ?_⟩
  refine D_matches 2 0 hc (by decide) (fun X eX => by cases eX; decide +kernel) (fun c hc => ?_)
  refine ⟨fun q => absurd q (by decide), fun _ => ?_⟩
  refine D_joined 0 2 hc (by decide) (by decide +kernel) (fun c hc => ?_)
  refine ⟨fun q => absurd q (by decide), fun _ => ?_⟩
  refine D_comes [] 0 7 hc ha (by decide) ⟨(by decide +kernel), (by decide +kernel)⟩ (by decide +kernel) (by decide) (by decide +kernel) rfl (fun c hc ha => ?_)
  refine ⟨fun q => absurd q (by decide), fun _ => ?_⟩
  refine ar_13 hc ha (nN (by decide) (Or.inr (by decide))) (fun c hc => ?_)
  refine ⟨fun _ => ?_, fun q => absurd q (by decide)⟩
  refine D_forget 3 hc (by decide +kernel) (fun c hc => ?_)
  refine ⟨fun q => absurd q (by decide), fun _ => ?_⟩
  refine D_add 100 101 100 0 [pat3 100 101 100] hc (by decide) (by decide) (by decide) (by decide) (by decide) (by decide) (by decide) rfl rfl (fun c hc => ?_)
  refine ⟨fun q => absurd q (by decide), fun _ => ?_⟩
  exact pf_L_queries_9 hc ha h
set_option maxHeartbeats 4000000 in
set_option maxRecDepth 100000 in
theorem pf_L_queries_7 {c : TriS} {post : Int32 → Prop} (hc : cls [5, 1, 7, 9, 2] [66, 8259, 259, 12352] [pat3 100 1 101, pat3 100 2 102] [8384] 7 c) (ha : ansOK [5, 1, 7, 9, 2] [8384] 7) (h : post (1 : Int32)) : P_L_queries_7 c post := by
  refine D_add 9 1 5 2 [pat3 100 1 101, pat3 100 2 102, pat3 9 1 5] hc (by decide) (by decide) (by decide) (by decide) (by decide) (by decide) (by decide) rfl rfl (fun c hc => ?_)
  refine ⟨fun q => absurd q (by decide), fun _ => ?_⟩
  refine D_shape 0 hc (by decide +kernel) ?_
  refine ⟨fun q => absurd q (by decide), fun _ => ?_⟩
  refine D_joined 0 1 hc (by decide) (by decide +kernel) (fun c hc => ?_)
  refine ⟨fun q => absurd q (by decide), fun _ => ?_⟩
  refine D_joined 1 0 hc (by decide) (by decide +kernel) (fun c hc => ?_)
  refine ⟨fun q => absurd q (by decide), fun _ => ?_⟩
  refine D_joined 2 2 hc (by decide) (by decide +kernel) (fun c hc => ?_)
  refine ⟨fun q => absurd q (by decide), fun _ => ?_⟩
  refine D_comes [8384] 1 7 hc ha (by decide) ⟨(by decide +kernel), (by decide +kernel)⟩ (by decide +kernel) (by decide) (by decide +kernel) rfl (fun c hc ha => ?_)
  refine ⟨fun q => absurd q (by decide), fun _ => ?_⟩
  refine D_takeBack1 9 1 5 [66, 8259, 259] hc (by decide) (by decide) (by decide) (by decide +kernel) (by decide +kernel) (fun c hc => ?_)
  refine ⟨fun q => absurd q (by decide), fun _ => ?_⟩
  exact pf_L_queries_8 hc ha h
set_option maxHeartbeats 4000000 in
set_option maxRecDepth 100000 in
theorem pf_L_queries_6 {c : TriS} {post : Int32 → Prop} (hc : cls [5, 1, 7, 9, 2] [66, 8259, 259, 12352] [pat3 100 1 101, pat3 100 2 102] [8384, 536576, 786560] 7 c) (ha : ansOK [5, 1, 7, 9, 2] [8384, 536576, 786560] 7) (h : post (1 : Int32)) : P_L_queries_6 c post := by
  refine D_matches 1 1 hc (by decide) (fun X eX => by cases eX; decide +kernel) (fun c hc => ?_)
  refine ⟨fun q => absurd q (by decide), fun _ => ?_⟩
  refine D_joined 0 1 hc (by decide) (by decide +kernel) (fun c hc => ?_)
  refine ⟨fun q => absurd q (by decide), fun _ => ?_⟩
  refine D_joined 1 0 hc (by decide) (by decide +kernel) (fun c hc => ?_)
  refine ⟨fun q => absurd q (by decide), fun _ => ?_⟩
  refine D_comes [8384] 1 7 hc ha (by decide) ⟨(by decide +kernel), (by decide +kernel)⟩ (by decide +kernel) (by decide) (by decide +kernel) rfl (fun c hc ha => ?_)
  refine ⟨fun q => absurd q (by decide), fun _ => ?_⟩
  refine D_answer 0 0 5 hc ha (by decide +kernel) (by decide) (by decide +kernel) (by decide +kernel) ?_
  refine ⟨fun q => absurd q (by decide), fun _ => ?_⟩
  refine D_answer 0 1 7 hc ha (by decide +kernel) (by decide) (by decide +kernel) (by decide +kernel) ?_
  refine ⟨fun q => absurd q (by decide), fun _ => ?_⟩
  refine D_answer 0 2 9 hc ha (by decide +kernel) (by decide) (by decide +kernel) (by decide +kernel) ?_
  refine ⟨fun q => absurd q (by decide), fun _ => ?_⟩
  exact pf_L_queries_7 hc ha h
set_option maxHeartbeats 4000000 in
set_option maxRecDepth 100000 in
theorem pf_L_queries_5 {c : TriS} {post : Int32 → Prop} (hc : cls [5, 1, 7, 9, 2] [66, 8259, 259, 12352] [] [8384, 536576, 786560] 7 c) (ha : ansOK [5, 1, 7, 9, 2] [8384, 536576, 786560] 7) (h : post (1 : Int32)) : P_L_queries_5 c post := by
  refine D_answers 3 hc (by decide +kernel) ?_
  refine ⟨fun q => absurd q (by decide), fun _ => ?_⟩
  refine D_comesX hc ha (Or.inl rfl) (fun c hc => ?_)
  refine ⟨fun q => absurd q (by decide), fun _ => ?_⟩
  refine D_answers 3 hc (by decide +kernel) ?_
  refine ⟨fun q => absurd q (by decide), fun _ => ?_⟩
  refine D_answer 0 2 9 hc ha (by decide +kernel) (by decide) (by decide +kernel) (by decide +kernel) ?_
  refine ⟨fun _ => ?_, fun q => absurd q (by decide)⟩
  refine D_add 100 1 101 0 [pat3 100 1 101] hc (by decide) (by decide) (by decide) (by decide) (by decide) (by decide) (by decide) rfl rfl (fun c hc => ?_)
  refine ⟨fun q => absurd q (by decide), fun _ => ?_⟩
  refine D_add 100 2 102 1 [pat3 100 1 101, pat3 100 2 102] hc (by decide) (by decide) (by decide) (by decide) (by decide) (by decide) (by decide) rfl rfl (fun c hc => ?_)
  refine ⟨fun q => absurd q (by decide), fun _ => ?_⟩
  refine D_shape 1 hc (by decide +kernel) ?_
  refine ⟨fun q => absurd q (by decide), fun _ => ?_⟩
  exact pf_L_queries_6 hc ha h
set_option maxHeartbeats 4000000 in
set_option maxRecDepth 100000 in
theorem pf_L_queries_4 {c : TriS} {post : Int32 → Prop} (hc : cls [5, 1, 7, 9, 2] [66, 8259, 259, 12352] [pat3 100 1 101, pat3 101 1 102] [8384, 536576, 786560] 7 c) (ha : ansOK [5, 1, 7, 9, 2] [8384, 536576, 786560] 7) (h : post (1 : Int32)) : P_L_queries_4 c post := by
  refine D_answer 2 2 7 hc ha (by decide +kernel) (by decide) (by decide +kernel) (by decide +kernel) ?_
  refine ⟨fun q => absurd q (by decide), fun _ => ?_⟩
  refine D_add 102 1 100 2 [pat3 100 1 101, pat3 101 1 102, pat3 102 1 100] hc (by decide) (by decide) (by decide) (by decide) (by decide) (by decide) (by decide) rfl rfl (fun c hc => ?_)
  refine ⟨fun q => absurd q (by decide), fun _ => ?_⟩
  refine D_shape 2 hc (by decide +kernel) ?_
  refine ⟨fun q => absurd q (by decide), fun _ => ?_⟩
  refine D_comes [8384, 536576, 786560] 3 7 hc ha (by decide) ⟨(by decide +kernel), (by decide +kernel)⟩ (by decide +kernel) (by decide) (by decide +kernel) rfl (fun c hc ha => ?_)
  refine ⟨fun q => absurd q (by decide), fun _ => ?_⟩
  refine D_answer 2 1 5 hc ha (by decide +kernel) (by decide) (by decide +kernel) (by decide +kernel) ?_
  refine ⟨fun q => absurd q (by decide), fun _ => ?_⟩
  refine ar_7s hc ⟨⟨0, by decide, rfl⟩, ⟨0, by decide, rfl⟩, ⟨0, by decide, rfl⟩⟩ rfl (fun c hc => ?_)
  refine ⟨fun q => absurd q (by decide), fun _ => ?_⟩
  refine D_forget 3 hc (by decide +kernel) (fun c hc => ?_)
  refine ⟨fun q => absurd q (by decide), fun _ => ?_⟩
  exact pf_L_queries_5 hc ha h
set_option maxHeartbeats 4000000 in
set_option maxRecDepth 100000 in
theorem pf_L_queries_3 {c : TriS} {post : Int32 → Prop} (hc : cls [5, 1, 7, 9, 2] [66, 8259, 259, 12352] [pat3 100 1 101, pat3 101 1 102] [8192, 536576, 786432] 3 c) (ha : ansOK [5, 1, 7, 9, 2] [8192, 536576, 786432] 3) (h : post (1 : Int32)) : P_L_queries_3 c post := by
  refine D_shape 2 hc (by decide +kernel) ?_
  refine ⟨fun q => absurd q (by decide), fun _ => ?_⟩
  refine D_variables 7 hc (by decide +kernel) ?_
  refine ⟨fun q => absurd q (by decide), fun _ => ?_⟩
  refine D_joined 0 0 hc (by decide) (by decide +kernel) (fun c hc => ?_)
  refine ⟨fun q => absurd q (by decide), fun _ => ?_⟩
  refine D_joined 1 1 hc (by decide) (by decide +kernel) (fun c hc => ?_)
  refine ⟨fun q => absurd q (by decide), fun _ => ?_⟩
  refine D_comes [8384, 536576, 786560] 3 7 hc ha (by decide) ⟨(by decide +kernel), (by decide +kernel)⟩ (by decide +kernel) (by decide) (by decide +kernel) rfl (fun c hc ha => ?_)
  refine ⟨fun q => absurd q (by decide), fun _ => ?_⟩
  refine D_answer 0 2 9 hc ha (by decide +kernel) (by decide) (by decide +kernel) (by decide +kernel) ?_
  refine ⟨fun q => absurd q (by decide), fun _ => ?_⟩
  refine D_answer 1 2 5 hc ha (by decide +kernel) (by decide) (by decide +kernel) (by decide +kernel) ?_
  refine ⟨fun q => absurd q (by decide), fun _ => ?_⟩
  exact pf_L_queries_4 hc ha h
set_option maxHeartbeats 4000000 in
set_option maxRecDepth 100000 in
theorem pf_L_queries_2 {c : TriS} {post : Int32 → Prop} (hc : cls [5, 1, 7, 9, 2] [66, 8259, 259, 12352] [pat3 100 1 101] [8192, 536576, 786432] 3 c) (ha : ansOK [5, 1, 7, 9, 2] [8192, 536576, 786432] 3) (h : post (1 : Int32)) : P_L_queries_2 c post := by
  refine D_answer 2 0 9 hc ha (by decide +kernel) (by decide) (by decide +kernel) (by decide +kernel) ?_
  refine ⟨fun q => absurd q (by decide), fun _ => ?_⟩
  refine D_answer 2 1 5 hc ha (by decide +kernel) (by decide) (by decide +kernel) (by decide +kernel) ?_
  refine ⟨fun q => absurd q (by decide), fun _ => ?_⟩
  refine ar_13v hc ha ⟨0, by decide, rfl⟩ (fun v hv e => by obtain rfl := nI_i (a := 2) (by omega) (by omega) e; decide) (fun c hc => ?_)
  refine ⟨fun q => absurd q (by decide), fun _ => ?_⟩
  refine D_termsFor 0 3 hc ha (by decide) (by decide +kernel) ?_
  refine ⟨fun q => absurd q (by decide), fun _ => ?_⟩
  refine D_termsFor 2 0 hc ha (by decide) (by decide +kernel) ?_
  refine ⟨fun q => absurd q (by decide), fun _ => ?_⟩
  refine pf_L_refuses hc ha (fun c hc => ?_)
  refine ⟨fun _ => ?_, fun q => absurd q (by decide)⟩
  refine D_add 101 1 102 1 [pat3 100 1 101, pat3 101 1 102] hc (by decide) (by decide) (by decide) (by decide) (by decide) (by decide) (by decide) rfl rfl (fun c hc => ?_)
  refine ⟨fun q => absurd q (by decide), fun _ => ?_⟩
  exact pf_L_queries_3 hc ha h
set_option maxHeartbeats 4000000 in
set_option maxRecDepth 100000 in
theorem pf_L_queries_1 {c : TriS} {post : Int32 → Prop} (hc : cls [5, 1, 7, 9, 2] [66, 8259, 259, 12352] [pat3 100 1 101] [] 0 c) (ha : ansOK [5, 1, 7, 9, 2] [] 0) (h : post (1 : Int32)) : P_L_queries_1 c post := by
  refine D_variables 3 hc (by decide +kernel) ?_
  refine ⟨fun q => absurd q (by decide), fun _ => ?_⟩
  refine D_shape 0 hc (by decide +kernel) ?_
  refine ⟨fun q => absurd q (by decide), fun _ => ?_⟩
  refine D_comes [8192, 536576, 786432] 3 3 hc ha (by decide) ⟨(by decide +kernel), (by decide +kernel)⟩ (by decide +kernel) (by decide) (by decide +kernel) rfl (fun c hc ha => ?_)
  refine ⟨fun q => absurd q (by decide), fun _ => ?_⟩
  refine D_answer 0 0 5 hc ha (by decide +kernel) (by decide) (by decide +kernel) (by decide +kernel) ?_
  refine ⟨fun q => absurd q (by decide), fun _ => ?_⟩
  refine D_answer 0 1 7 hc ha (by decide +kernel) (by decide) (by decide +kernel) (by decide +kernel) ?_
  refine ⟨fun q => absurd q (by decide), fun _ => ?_⟩
  refine D_answer 1 0 7 hc ha (by decide +kernel) (by decide) (by decide +kernel) (by decide +kernel) ?_
  refine ⟨fun q => absurd q (by decide), fun _ => ?_⟩
  refine D_answer 1 1 9 hc ha (by decide +kernel) (by decide) (by decide +kernel) (by decide +kernel) ?_
  refine ⟨fun q => absurd q (by decide), fun _ => ?_⟩
  exact pf_L_queries_2 hc ha h
set_option maxHeartbeats 4000000 in
set_option maxRecDepth 100000 in
theorem pf_L_queries {post : Int32 → Prop} (h : post (1 : Int32)) : P_L_queries post := by
  refine C_init (fun c hc => ?_)
  have ha := ansOK0 []
  refine D_state1 5 1 7 [5, 1, 7] [66] hc (by decide) (by decide) (by decide) (by decide +kernel) (by decide +kernel) (by decide +kernel) (by decide +kernel) (fun c hc => ?_)
  have ha : ansOK [5, 1, 7] [] 0 := ans_more ha (by decide)
  refine ⟨fun q => absurd q (by decide), fun _ => ?_⟩
  refine D_state1 7 1 9 [5, 1, 7, 9] [66, 8259] hc (by decide) (by decide) (by decide) (by decide +kernel) (by decide +kernel) (by decide +kernel) (by decide +kernel) (fun c hc => ?_)
  have ha : ansOK [5, 1, 7, 9] [] 0 := ans_more ha (by decide)
  refine ⟨fun q => absurd q (by decide), fun _ => ?_⟩
  refine D_state1 5 2 9 [5, 1, 7, 9, 2] [66, 8259, 259] hc (by decide) (by decide) (by decide) (by decide +kernel) (by decide +kernel) (by decide +kernel) (by decide +kernel) (fun c hc => ?_)
  have ha : ansOK [5, 1, 7, 9, 2] [] 0 := ans_more ha (by decide)
  refine ⟨fun q => absurd q (by decide), fun _ => ?_⟩
  refine D_state1 9 1 5 [5, 1, 7, 9, 2] [66, 8259, 259, 12352] hc (by decide) (by decide) (by decide) (by decide +kernel) (by decide +kernel) (by decide +kernel) (by decide +kernel) (fun c hc => ?_)
  have ha : ansOK [5, 1, 7, 9, 2] [] 0 := ans_more ha (by decide)
  refine ⟨fun q => absurd q (by decide), fun _ => ?_⟩
  refine D_add 100 1 101 0 [pat3 100 1 101] hc (by decide) (by decide) (by decide) (by decide) (by decide) (by decide) (by decide) rfl rfl (fun c hc => ?_)
  refine ⟨fun q => absurd q (by decide), fun _ => ?_⟩
  refine D_matches 0 3 hc (by decide) (fun X eX => by cases eX; decide +kernel) (fun c hc => ?_)
  refine ⟨fun q => absurd q (by decide), fun _ => ?_⟩
  exact pf_L_queries_1 hc ha h
