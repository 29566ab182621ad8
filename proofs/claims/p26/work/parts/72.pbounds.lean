/-! PURE SIDE: bounds -/
def A44 : List Nat := [2, 3, 4, 5, 6, 7, 8, 9, 10, 706, 707, 708, 709, 710, 711, 712, 713, 714, 770, 771, 772, 773, 774, 775, 776, 777, 778, 834, 835, 836, 837, 838, 839, 840, 841, 842, 898, 899, 900, 901, 902, 903, 904, 905].flatMap (fun p => [2, 3, 4, 5, 6, 7, 8, 9, 10, 706, 707, 708, 709, 710, 711, 712, 713, 714, 770, 771, 772, 773, 774, 775, 776, 777, 778, 834, 835, 836, 837, 838, 839, 840, 841, 842, 898, 899, 900, 901, 902, 903, 904, 905].map (fun q => p * 4096 + q))
set_option maxHeartbeats 4000000 in
set_option maxRecDepth 100000 in
theorem pf_L_bounds_17 {c : TriS} {post : Int32 → Prop} (hc : cls [0, 2, 4, 6, 8, 10, 12, 14, 16, 18, 20, 22, 24, 26, 28, 30, 32, 34, 36, 38, 40, 42, 44, 46, 48, 50, 52, 54, 56, 58, 60, 62, 64, 66, 68, 70, 72, 74, 76, 78] [0, 4161, 8322, 12483, 16644, 20805, 24966, 29127, 33288, 37449, 41610, 45771, 49932, 54093, 58254, 62415, 66576, 70737, 74898, 79059, 83220, 87381, 91542, 95703, 99864, 104025, 108186, 112347, 116508, 120669, 124830, 128991, 133152, 137313, 141474, 145635, 149796, 153957, 158118, 162279, 2497] [] [] 0 c) (ha : ansOK [0, 2, 4, 6, 8, 10, 12, 14, 16, 18, 20, 22, 24, 26, 28, 30, 32, 34, 36, 38, 40, 42, 44, 46, 48, 50, 52, 54, 56, 58, 60, 62, 64, 66, 68, 70, 72, 74, 76, 78] [] 0) (h : post (1 : Int32)) : P_L_bounds_17 c post := by
  refine D_takeBack1 0 0 0 [4161, 8322, 12483, 16644, 20805, 24966, 29127, 33288, 37449, 41610, 45771, 49932, 54093, 58254, 62415, 66576, 70737, 74898, 79059, 83220, 87381, 91542, 95703, 99864, 104025, 108186, 112347, 116508, 120669, 124830, 128991, 133152, 137313, 141474, 145635, 149796, 153957, 158118, 162279, 2497] hc (by decide) (by decide) (by decide) (by decide +kernel) (by decide +kernel) (fun c hc => ?_)
  refine ⟨fun q => absurd q (by decide), fun _ => ?_⟩
  refine D_numberOf 0 (0 : Int32) hc (by decide) (by decide +kernel) ?_
  refine ⟨fun q => absurd q (by decide), fun _ => ?_⟩
  refine D_terms 40 hc (by decide +kernel) ?_
  refine ⟨fun q => absurd q (by decide), fun _ => ?_⟩
  refine D_termAt 0 0 1 [2497, 4161, 8322, 12483, 16644, 20805, 24966, 29127, 33288, 37449, 41610, 45771, 49932, 54093, 58254, 62415, 66576, 70737, 74898, 79059, 83220, 87381, 91542, 95703, 99864, 104025, 108186, 112347, 116508, 120669, 124830, 128991, 133152, 137313, 141474, 145635, 149796, 153957, 158118, 162279] 78 hc (by decide) (by decide) (by decide) (by decide +kernel) (by decide +kernel) (by decide +kernel) (by decide +kernel) ?_
  refine ⟨fun q => absurd q (by decide), fun _ => ?_⟩
  exact h
set_option maxHeartbeats 4000000 in
set_option maxRecDepth 100000 in
theorem pf_L_bounds_16 {c : TriS} {post : Int32 → Prop} (hc : cls [0, 2, 4, 6, 8, 10, 12, 14, 16, 18, 20, 22, 24, 26, 28, 30, 32, 34, 36, 38, 40, 42, 44, 46, 48, 50, 52, 54, 56, 58, 60, 62, 64, 66, 68, 70, 72, 74] [0, 4161, 8322, 12483, 16644, 20805, 24966, 29127, 33288, 37449, 41610, 45771, 49932, 54093, 58254, 62415, 66576, 70737, 74898, 79059, 83220, 87381, 91542, 95703, 99864, 104025, 108186, 112347, 116508, 120669, 124830, 128991, 133152, 137313, 141474, 145635, 149796, 153957] [] [] 0 c) (ha : ansOK [0, 2, 4, 6, 8, 10, 12, 14, 16, 18, 20, 22, 24, 26, 28, 30, 32, 34, 36, 38, 40, 42, 44, 46, 48, 50, 52, 54, 56, 58, 60, 62, 64, 66, 68, 70, 72, 74] [] 0) (h : post (1 : Int32)) : P_L_bounds_16 c post := by
  refine D_state1 76 76 76 [0, 2, 4, 6, 8, 10, 12, 14, 16, 18, 20, 22, 24, 26, 28, 30, 32, 34, 36, 38, 40, 42, 44, 46, 48, 50, 52, 54, 56, 58, 60, 62, 64, 66, 68, 70, 72, 74, 76] [0, 4161, 8322, 12483, 16644, 20805, 24966, 29127, 33288, 37449, 41610, 45771, 49932, 54093, 58254, 62415, 66576, 70737, 74898, 79059, 83220, 87381, 91542, 95703, 99864, 104025, 108186, 112347, 116508, 120669, 124830, 128991, 133152, 137313, 141474, 145635, 149796, 153957, 158118] hc (by decide) (by decide) (by decide) (by decide +kernel) (by decide +kernel) (by decide +kernel) (by decide +kernel) (fun c hc => ?_)
  have ha : ansOK [0, 2, 4, 6, 8, 10, 12, 14, 16, 18, 20, 22, 24, 26, 28, 30, 32, 34, 36, 38, 40, 42, 44, 46, 48, 50, 52, 54, 56, 58, 60, 62, 64, 66, 68, 70, 72, 74, 76] [] 0 := ans_more ha (by decide)
  refine ⟨fun _ => ?_, fun q => absurd q (by decide)⟩
  refine D_state1 78 78 78 [0, 2, 4, 6, 8, 10, 12, 14, 16, 18, 20, 22, 24, 26, 28, 30, 32, 34, 36, 38, 40, 42, 44, 46, 48, 50, 52, 54, 56, 58, 60, 62, 64, 66, 68, 70, 72, 74, 76, 78] [0, 4161, 8322, 12483, 16644, 20805, 24966, 29127, 33288, 37449, 41610, 45771, 49932, 54093, 58254, 62415, 66576, 70737, 74898, 79059, 83220, 87381, 91542, 95703, 99864, 104025, 108186, 112347, 116508, 120669, 124830, 128991, 133152, 137313, 141474, 145635, 149796, 153957, 158118, 162279] hc (by decide) (by decide) (by decide) (by decide +kernel) (by decide +kernel) (by decide +kernel) (by decide +kernel) (fun c hc => ?_)
  have ha : ansOK [0, 2, 4, 6, 8, 10, 12, 14, 16, 18, 20, 22, 24, 26, 28, 30, 32, 34, 36, 38, 40, 42, 44, 46, 48, 50, 52, 54, 56, 58, 60, 62, 64, 66, 68, 70, 72, 74, 76, 78] [] 0 := ans_more ha (by decide)
  refine ⟨fun _ => ?_, fun q => absurd q (by decide)⟩
  refine D_terms 40 hc (by decide +kernel) ?_
  refine ⟨fun q => absurd q (by decide), fun _ => ?_⟩
  refine ar_0f (a0 := 1) (b0 := 0) (d0 := 0) hc (by decide) (by decide) (by decide) (by decide +kernel) (by decide +kernel) (fun c hc => ?_)
  refine ⟨fun q => absurd q (by decide), fun _ => ?_⟩
  refine ar_0f (a0 := 0) (b0 := 0) (d0 := 99) hc (by decide) (by decide) (by decide) (by decide +kernel) (by decide +kernel) (fun c hc => ?_)
  refine ⟨fun q => absurd q (by decide), fun _ => ?_⟩
  refine D_state1 0 78 2 [0, 2, 4, 6, 8, 10, 12, 14, 16, 18, 20, 22, 24, 26, 28, 30, 32, 34, 36, 38, 40, 42, 44, 46, 48, 50, 52, 54, 56, 58, 60, 62, 64, 66, 68, 70, 72, 74, 76, 78] [0, 4161, 8322, 12483, 16644, 20805, 24966, 29127, 33288, 37449, 41610, 45771, 49932, 54093, 58254, 62415, 66576, 70737, 74898, 79059, 83220, 87381, 91542, 95703, 99864, 104025, 108186, 112347, 116508, 120669, 124830, 128991, 133152, 137313, 141474, 145635, 149796, 153957, 158118, 162279, 2497] hc (by decide) (by decide) (by decide) (by decide +kernel) (by decide +kernel) (by decide +kernel) (by decide +kernel) (fun c hc => ?_)
  have ha : ansOK [0, 2, 4, 6, 8, 10, 12, 14, 16, 18, 20, 22, 24, 26, 28, 30, 32, 34, 36, 38, 40, 42, 44, 46, 48, 50, 52, 54, 56, 58, 60, 62, 64, 66, 68, 70, 72, 74, 76, 78] [] 0 := ans_more ha (by decide)
  refine ⟨fun q => absurd q (by decide), fun _ => ?_⟩
  refine D_triples 41 hc (by decide +kernel) ?_
  refine ⟨fun q => absurd q (by decide), fun _ => ?_⟩
  exact pf_L_bounds_17 hc ha h
set_option maxHeartbeats 4000000 in
set_option maxRecDepth 100000 in
theorem pf_L_bounds_15 {c : TriS} {post : Int32 → Prop} (hc : cls [0, 2, 4, 6, 8, 10, 12, 14, 16, 18, 20, 22, 24, 26, 28, 30, 32, 34, 36, 38, 40, 42, 44, 46, 48, 50, 52, 54, 56, 58, 60] [0, 4161, 8322, 12483, 16644, 20805, 24966, 29127, 33288, 37449, 41610, 45771, 49932, 54093, 58254, 62415, 66576, 70737, 74898, 79059, 83220, 87381, 91542, 95703, 99864, 104025, 108186, 112347, 116508, 120669, 124830] [] [] 0 c) (ha : ansOK [0, 2, 4, 6, 8, 10, 12, 14, 16, 18, 20, 22, 24, 26, 28, 30, 32, 34, 36, 38, 40, 42, 44, 46, 48, 50, 52, 54, 56, 58, 60] [] 0) (h : post (1 : Int32)) : P_L_bounds_15 c post := by
  refine D_state1 62 62 62 [0, 2, 4, 6, 8, 10, 12, 14, 16, 18, 20, 22, 24, 26, 28, 30, 32, 34, 36, 38, 40, 42, 44, 46, 48, 50, 52, 54, 56, 58, 60, 62] [0, 4161, 8322, 12483, 16644, 20805, 24966, 29127, 33288, 37449, 41610, 45771, 49932, 54093, 58254, 62415, 66576, 70737, 74898, 79059, 83220, 87381, 91542, 95703, 99864, 104025, 108186, 112347, 116508, 120669, 124830, 128991] hc (by decide) (by decide) (by decide) (by decide +kernel) (by decide +kernel) (by decide +kernel) (by decide +kernel) (fun c hc => ?_)
  have ha : ansOK [0, 2, 4, 6, 8, 10, 12, 14, 16, 18, 20, 22, 24, 26, 28, 30, 32, 34, 36, 38, 40, 42, 44, 46, 48, 50, 52, 54, 56, 58, 60, 62] [] 0 := ans_more ha (by decide)
  refine ⟨fun _ => ?_, fun q => absurd q (by decide)⟩
  refine D_state1 64 64 64 [0, 2, 4, 6, 8, 10, 12, 14, 16, 18, 20, 22, 24, 26, 28, 30, 32, 34, 36, 38, 40, 42, 44, 46, 48, 50, 52, 54, 56, 58, 60, 62, 64] [0, 4161, 8322, 12483, 16644, 20805, 24966, 29127, 33288, 37449, 41610, 45771, 49932, 54093, 58254, 62415, 66576, 70737, 74898, 79059, 83220, 87381, 91542, 95703, 99864, 104025, 108186, 112347, 116508, 120669, 124830, 128991, 133152] hc (by decide) (by decide) (by decide) (by decide +kernel) (by decide +kernel) (by decide +kernel) (by decide +kernel) (fun c hc => ?_)
  have ha : ansOK [0, 2, 4, 6, 8, 10, 12, 14, 16, 18, 20, 22, 24, 26, 28, 30, 32, 34, 36, 38, 40, 42, 44, 46, 48, 50, 52, 54, 56, 58, 60, 62, 64] [] 0 := ans_more ha (by decide)
  refine ⟨fun _ => ?_, fun q => absurd q (by decide)⟩
  refine D_state1 66 66 66 [0, 2, 4, 6, 8, 10, 12, 14, 16, 18, 20, 22, 24, 26, 28, 30, 32, 34, 36, 38, 40, 42, 44, 46, 48, 50, 52, 54, 56, 58, 60, 62, 64, 66] [0, 4161, 8322, 12483, 16644, 20805, 24966, 29127, 33288, 37449, 41610, 45771, 49932, 54093, 58254, 62415, 66576, 70737, 74898, 79059, 83220, 87381, 91542, 95703, 99864, 104025, 108186, 112347, 116508, 120669, 124830, 128991, 133152, 137313] hc (by decide) (by decide) (by decide) (by decide +kernel) (by decide +kernel) (by decide +kernel) (by decide +kernel) (fun c hc => ?_)
  have ha : ansOK [0, 2, 4, 6, 8, 10, 12, 14, 16, 18, 20, 22, 24, 26, 28, 30, 32, 34, 36, 38, 40, 42, 44, 46, 48, 50, 52, 54, 56, 58, 60, 62, 64, 66] [] 0 := ans_more ha (by decide)
  refine ⟨fun _ => ?_, fun q => absurd q (by decide)⟩
  refine D_state1 68 68 68 [0, 2, 4, 6, 8, 10, 12, 14, 16, 18, 20, 22, 24, 26, 28, 30, 32, 34, 36, 38, 40, 42, 44, 46, 48, 50, 52, 54, 56, 58, 60, 62, 64, 66, 68] [0, 4161, 8322, 12483, 16644, 20805, 24966, 29127, 33288, 37449, 41610, 45771, 49932, 54093, 58254, 62415, 66576, 70737, 74898, 79059, 83220, 87381, 91542, 95703, 99864, 104025, 108186, 112347, 116508, 120669, 124830, 128991, 133152, 137313, 141474] hc (by decide) (by decide) (by decide) (by decide +kernel) (by decide +kernel) (by decide +kernel) (by decide +kernel) (fun c hc => ?_)
  have ha : ansOK [0, 2, 4, 6, 8, 10, 12, 14, 16, 18, 20, 22, 24, 26, 28, 30, 32, 34, 36, 38, 40, 42, 44, 46, 48, 50, 52, 54, 56, 58, 60, 62, 64, 66, 68] [] 0 := ans_more ha (by decide)
  refine ⟨fun _ => ?_, fun q => absurd q (by decide)⟩
  refine D_state1 70 70 70 [0, 2, 4, 6, 8, 10, 12, 14, 16, 18, 20, 22, 24, 26, 28, 30, 32, 34, 36, 38, 40, 42, 44, 46, 48, 50, 52, 54, 56, 58, 60, 62, 64, 66, 68, 70] [0, 4161, 8322, 12483, 16644, 20805, 24966, 29127, 33288, 37449, 41610, 45771, 49932, 54093, 58254, 62415, 66576, 70737, 74898, 79059, 83220, 87381, 91542, 95703, 99864, 104025, 108186, 112347, 116508, 120669, 124830, 128991, 133152, 137313, 141474, 145635] hc (by decide) (by decide) (by decide) (by decide +kernel) (by decide +kernel) (by decide +kernel) (by decide +kernel) (fun c hc => ?_)
  have ha : ansOK [0, 2, 4, 6, 8, 10, 12, 14, 16, 18, 20, 22, 24, 26, 28, 30, 32, 34, 36, 38, 40, 42, 44, 46, 48, 50, 52, 54, 56, 58, 60, 62, 64, 66, 68, 70] [] 0 := ans_more ha (by decide)
  refine ⟨fun _ => ?_, fun q => absurd q (by decide)⟩
  refine D_state1 72 72 72 [0, 2, 4, 6, 8, 10, 12, 14, 16, 18, 20, 22, 24, 26, 28, 30, 32, 34, 36, 38, 40, 42, 44, 46, 48, 50, 52, 54, 56, 58, 60, 62, 64, 66, 68, 70, 72] [0, 4161, 8322, 12483, 16644, 20805, 24966, 29127, 33288, 37449, 41610, 45771, 49932, 54093, 58254, 62415, 66576, 70737, 74898, 79059, 83220, 87381, 91542, 95703, 99864, 104025, 108186, 112347, 116508, 120669, 124830, 128991, 133152, 137313, 141474, 145635, 149796] hc (by decide) (by decide) (by decide) (by decide +kernel) (by decide +kernel) (by decide +kernel) (by decide +kernel) (fun c hc => ?_)
  have ha : ansOK [0, 2, 4, 6, 8, 10, 12, 14, 16, 18, 20, 22, 24, 26, 28, 30, 32, 34, 36, 38, 40, 42, 44, 46, 48, 50, 52, 54, 56, 58, 60, 62, 64, 66, 68, 70, 72] [] 0 := ans_more ha (by decide)
  refine ⟨fun _ => ?_, fun q => absurd q (by decide)⟩
  refine D_state1 74 74 74 [0, 2, 4, 6, 8, 10, 12, 14, 16, 18, 20, 22, 24, 26, 28, 30, 32, 34, 36, 38, 40, 42, 44, 46, 48, 50, 52, 54, 56, 58, 60, 62, 64, 66, 68, 70, 72, 74] [0, 4161, 8322, 12483, 16644, 20805, 24966, 29127, 33288, 37449, 41610, 45771, 49932, 54093, 58254, 62415, 66576, 70737, 74898, 79059, 83220, 87381, 91542, 95703, 99864, 104025, 108186, 112347, 116508, 120669, 124830, 128991, 133152, 137313, 141474, 145635, 149796, 153957] hc (by decide) (by decide) (by decide) (by decide +kernel) (by decide +kernel) (by decide +kernel) (by decide +kernel) (fun c hc => ?_)
  have ha : ansOK [0, 2, 4, 6, 8, 10, 12, 14, 16, 18, 20, 22, 24, 26, 28, 30, 32, 34, 36, 38, 40, 42, 44, 46, 48, 50, 52, 54, 56, 58, 60, 62, 64, 66, 68, 70, 72, 74] [] 0 := ans_more ha (by decide)
  refine ⟨fun _ => ?_, fun q => absurd q (by decide)⟩
  exact pf_L_bounds_16 hc ha h
set_option maxHeartbeats 4000000 in
set_option maxRecDepth 100000 in
theorem pf_L_bounds_14 {c : TriS} {post : Int32 → Prop} (hc : cls [0, 2, 4, 6, 8, 10, 12, 14, 16, 18, 20, 22, 24, 26, 28, 30, 32, 34, 36, 38, 40, 42, 44, 46] [0, 4161, 8322, 12483, 16644, 20805, 24966, 29127, 33288, 37449, 41610, 45771, 49932, 54093, 58254, 62415, 66576, 70737, 74898, 79059, 83220, 87381, 91542, 95703] [] [] 0 c) (ha : ansOK [0, 2, 4, 6, 8, 10, 12, 14, 16, 18, 20, 22, 24, 26, 28, 30, 32, 34, 36, 38, 40, 42, 44, 46] [] 0) (h : post (1 : Int32)) : P_L_bounds_14 c post := by
  refine D_state1 48 48 48 [0, 2, 4, 6, 8, 10, 12, 14, 16, 18, 20, 22, 24, 26, 28, 30, 32, 34, 36, 38, 40, 42, 44, 46, 48] [0, 4161, 8322, 12483, 16644, 20805, 24966, 29127, 33288, 37449, 41610, 45771, 49932, 54093, 58254, 62415, 66576, 70737, 74898, 79059, 83220, 87381, 91542, 95703, 99864] hc (by decide) (by decide) (by decide) (by decide +kernel) (by decide +kernel) (by decide +kernel) (by decide +kernel) (fun c hc => ?_)
  have ha : ansOK [0, 2, 4, 6, 8, 10, 12, 14, 16, 18, 20, 22, 24, 26, 28, 30, 32, 34, 36, 38, 40, 42, 44, 46, 48] [] 0 := ans_more ha (by decide)
  refine ⟨fun _ => ?_, fun q => absurd q (by decide)⟩
  refine D_state1 50 50 50 [0, 2, 4, 6, 8, 10, 12, 14, 16, 18, 20, 22, 24, 26, 28, 30, 32, 34, 36, 38, 40, 42, 44, 46, 48, 50] [0, 4161, 8322, 12483, 16644, 20805, 24966, 29127, 33288, 37449, 41610, 45771, 49932, 54093, 58254, 62415, 66576, 70737, 74898, 79059, 83220, 87381, 91542, 95703, 99864, 104025] hc (by decide) (by decide) (by decide) (by decide +kernel) (by decide +kernel) (by decide +kernel) (by decide +kernel) (fun c hc => ?_)
  have ha : ansOK [0, 2, 4, 6, 8, 10, 12, 14, 16, 18, 20, 22, 24, 26, 28, 30, 32, 34, 36, 38, 40, 42, 44, 46, 48, 50] [] 0 := ans_more ha (by decide)
  refine ⟨fun _ => ?_, fun q => absurd q (by decide)⟩
  refine D_state1 52 52 52 [0, 2, 4, 6, 8, 10, 12, 14, 16, 18, 20, 22, 24, 26, 28, 30, 32, 34, 36, 38, 40, 42, 44, 46, 48, 50, 52] [0, 4161, 8322, 12483, 16644, 20805, 24966, 29127, 33288, 37449, 41610, 45771, 49932, 54093, 58254, 62415, 66576, 70737, 74898, 79059, 83220, 87381, 91542, 95703, 99864, 104025, 108186] hc (by decide) (by decide) (by decide) (by decide +kernel) (by decide +kernel) (by decide +kernel) (by decide +kernel) (fun c hc => ?_)
  have ha : ansOK [0, 2, 4, 6, 8, 10, 12, 14, 16, 18, 20, 22, 24, 26, 28, 30, 32, 34, 36, 38, 40, 42, 44, 46, 48, 50, 52] [] 0 := ans_more ha (by decide)
  refine ⟨fun _ => ?_, fun q => absurd q (by decide)⟩
  refine D_state1 54 54 54 [0, 2, 4, 6, 8, 10, 12, 14, 16, 18, 20, 22, 24, 26, 28, 30, 32, 34, 36, 38, 40, 42, 44, 46, 48, 50, 52, 54] [0, 4161, 8322, 12483, 16644, 20805, 24966, 29127, 33288, 37449, 41610, 45771, 49932, 54093, 58254, 62415, 66576, 70737, 74898, 79059, 83220, 87381, 91542, 95703, 99864, 104025, 108186, 112347] hc (by decide) (by decide) (by decide) (by decide +kernel) (by decide +kernel) (by decide +kernel) (by decide +kernel) (fun c hc => ?_)
  have ha : ansOK [0, 2, 4, 6, 8, 10, 12, 14, 16, 18, 20, 22, 24, 26, 28, 30, 32, 34, 36, 38, 40, 42, 44, 46, 48, 50, 52, 54] [] 0 := ans_more ha (by decide)
  refine ⟨fun _ => ?_, fun q => absurd q (by decide)⟩
  refine D_state1 56 56 56 [0, 2, 4, 6, 8, 10, 12, 14, 16, 18, 20, 22, 24, 26, 28, 30, 32, 34, 36, 38, 40, 42, 44, 46, 48, 50, 52, 54, 56] [0, 4161, 8322, 12483, 16644, 20805, 24966, 29127, 33288, 37449, 41610, 45771, 49932, 54093, 58254, 62415, 66576, 70737, 74898, 79059, 83220, 87381, 91542, 95703, 99864, 104025, 108186, 112347, 116508] hc (by decide) (by decide) (by decide) (by decide +kernel) (by decide +kernel) (by decide +kernel) (by decide +kernel) (fun c hc => ?_)
  have ha : ansOK [0, 2, 4, 6, 8, 10, 12, 14, 16, 18, 20, 22, 24, 26, 28, 30, 32, 34, 36, 38, 40, 42, 44, 46, 48, 50, 52, 54, 56] [] 0 := ans_more ha (by decide)
  refine ⟨fun _ => ?_, fun q => absurd q (by decide)⟩
  refine D_state1 58 58 58 [0, 2, 4, 6, 8, 10, 12, 14, 16, 18, 20, 22, 24, 26, 28, 30, 32, 34, 36, 38, 40, 42, 44, 46, 48, 50, 52, 54, 56, 58] [0, 4161, 8322, 12483, 16644, 20805, 24966, 29127, 33288, 37449, 41610, 45771, 49932, 54093, 58254, 62415, 66576, 70737, 74898, 79059, 83220, 87381, 91542, 95703, 99864, 104025, 108186, 112347, 116508, 120669] hc (by decide) (by decide) (by decide) (by decide +kernel) (by decide +kernel) (by decide +kernel) (by decide +kernel) (fun c hc => ?_)
  have ha : ansOK [0, 2, 4, 6, 8, 10, 12, 14, 16, 18, 20, 22, 24, 26, 28, 30, 32, 34, 36, 38, 40, 42, 44, 46, 48, 50, 52, 54, 56, 58] [] 0 := ans_more ha (by decide)
  refine ⟨fun _ => ?_, fun q => absurd q (by decide)⟩
  refine D_state1 60 60 60 [0, 2, 4, 6, 8, 10, 12, 14, 16, 18, 20, 22, 24, 26, 28, 30, 32, 34, 36, 38, 40, 42, 44, 46, 48, 50, 52, 54, 56, 58, 60] [0, 4161, 8322, 12483, 16644, 20805, 24966, 29127, 33288, 37449, 41610, 45771, 49932, 54093, 58254, 62415, 66576, 70737, 74898, 79059, 83220, 87381, 91542, 95703, 99864, 104025, 108186, 112347, 116508, 120669, 124830] hc (by decide) (by decide) (by decide) (by decide +kernel) (by decide +kernel) (by decide +kernel) (by decide +kernel) (fun c hc => ?_)
  have ha : ansOK [0, 2, 4, 6, 8, 10, 12, 14, 16, 18, 20, 22, 24, 26, 28, 30, 32, 34, 36, 38, 40, 42, 44, 46, 48, 50, 52, 54, 56, 58, 60] [] 0 := ans_more ha (by decide)
  refine ⟨fun _ => ?_, fun q => absurd q (by decide)⟩
  exact pf_L_bounds_15 hc ha h
set_option maxHeartbeats 4000000 in
set_option maxRecDepth 100000 in
theorem pf_L_bounds_13 {c : TriS} {post : Int32 → Prop} (hc : cls [0, 2, 4, 6, 8, 10, 12, 14, 16, 18, 20, 22, 24, 26, 28, 30, 32] [0, 4161, 8322, 12483, 16644, 20805, 24966, 29127, 33288, 37449, 41610, 45771, 49932, 54093, 58254, 62415, 66576] [] [] 0 c) (ha : ansOK [0, 2, 4, 6, 8, 10, 12, 14, 16, 18, 20, 22, 24, 26, 28, 30, 32] [] 0) (h : post (1 : Int32)) : P_L_bounds_13 c post := by
  refine D_state1 34 34 34 [0, 2, 4, 6, 8, 10, 12, 14, 16, 18, 20, 22, 24, 26, 28, 30, 32, 34] [0, 4161, 8322, 12483, 16644, 20805, 24966, 29127, 33288, 37449, 41610, 45771, 49932, 54093, 58254, 62415, 66576, 70737] hc (by decide) (by decide) (by decide) (by decide +kernel) (by decide +kernel) (by decide +kernel) (by decide +kernel) (fun c hc => ?_)
  have ha : ansOK [0, 2, 4, 6, 8, 10, 12, 14, 16, 18, 20, 22, 24, 26, 28, 30, 32, 34] [] 0 := ans_more ha (by decide)
  refine ⟨fun _ => ?_, fun q => absurd q (by decide)⟩
  refine D_state1 36 36 36 [0, 2, 4, 6, 8, 10, 12, 14, 16, 18, 20, 22, 24, 26, 28, 30, 32, 34, 36] [0, 4161, 8322, 12483, 16644, 20805, 24966, 29127, 33288, 37449, 41610, 45771, 49932, 54093, 58254, 62415, 66576, 70737, 74898] hc (by decide) (by decide) (by decide) (by decide +kernel) (by decide +kernel) (by decide +kernel) (by decide +kernel) (fun c hc => ?_)
  have ha : ansOK [0, 2, 4, 6, 8, 10, 12, 14, 16, 18, 20, 22, 24, 26, 28, 30, 32, 34, 36] [] 0 := ans_more ha (by decide)
  refine ⟨fun _ => ?_, fun q => absurd q (by decide)⟩
  refine D_state1 38 38 38 [0, 2, 4, 6, 8, 10, 12, 14, 16, 18, 20, 22, 24, 26, 28, 30, 32, 34, 36, 38] [0, 4161, 8322, 12483, 16644, 20805, 24966, 29127, 33288, 37449, 41610, 45771, 49932, 54093, 58254, 62415, 66576, 70737, 74898, 79059] hc (by decide) (by decide) (by decide) (by decide +kernel) (by decide +kernel) (by decide +kernel) (by decide +kernel) (fun c hc => ?_)
  have ha : ansOK [0, 2, 4, 6, 8, 10, 12, 14, 16, 18, 20, 22, 24, 26, 28, 30, 32, 34, 36, 38] [] 0 := ans_more ha (by decide)
  refine ⟨fun _ => ?_, fun q => absurd q (by decide)⟩
  refine D_state1 40 40 40 [0, 2, 4, 6, 8, 10, 12, 14, 16, 18, 20, 22, 24, 26, 28, 30, 32, 34, 36, 38, 40] [0, 4161, 8322, 12483, 16644, 20805, 24966, 29127, 33288, 37449, 41610, 45771, 49932, 54093, 58254, 62415, 66576, 70737, 74898, 79059, 83220] hc (by decide) (by decide) (by decide) (by decide +kernel) (by decide +kernel) (by decide +kernel) (by decide +kernel) (fun c hc => ?_)
  have ha : ansOK [0, 2, 4, 6, 8, 10, 12, 14, 16, 18, 20, 22, 24, 26, 28, 30, 32, 34, 36, 38, 40] [] 0 := ans_more ha (by decide)
  refine ⟨fun _ => ?_, fun q => absurd q (by decide)⟩
  refine D_state1 42 42 42 [0, 2, 4, 6, 8, 10, 12, 14, 16, 18, 20, 22, 24, 26, 28, 30, 32, 34, 36, 38, 40, 42] [0, 4161, 8322, 12483, 16644, 20805, 24966, 29127, 33288, 37449, 41610, 45771, 49932, 54093, 58254, 62415, 66576, 70737, 74898, 79059, 83220, 87381] hc (by decide) (by decide) (by decide) (by decide +kernel) (by decide +kernel) (by decide +kernel) (by decide +kernel) (fun c hc => ?_)
  have ha : ansOK [0, 2, 4, 6, 8, 10, 12, 14, 16, 18, 20, 22, 24, 26, 28, 30, 32, 34, 36, 38, 40, 42] [] 0 := ans_more ha (by decide)
  refine ⟨fun _ => ?_, fun q => absurd q (by decide)⟩
  refine D_state1 44 44 44 [0, 2, 4, 6, 8, 10, 12, 14, 16, 18, 20, 22, 24, 26, 28, 30, 32, 34, 36, 38, 40, 42, 44] [0, 4161, 8322, 12483, 16644, 20805, 24966, 29127, 33288, 37449, 41610, 45771, 49932, 54093, 58254, 62415, 66576, 70737, 74898, 79059, 83220, 87381, 91542] hc (by decide) (by decide) (by decide) (by decide +kernel) (by decide +kernel) (by decide +kernel) (by decide +kernel) (fun c hc => ?_)
  have ha : ansOK [0, 2, 4, 6, 8, 10, 12, 14, 16, 18, 20, 22, 24, 26, 28, 30, 32, 34, 36, 38, 40, 42, 44] [] 0 := ans_more ha (by decide)
  refine ⟨fun _ => ?_, fun q => absurd q (by decide)⟩
  refine D_state1 46 46 46 [0, 2, 4, 6, 8, 10, 12, 14, 16, 18, 20, 22, 24, 26, 28, 30, 32, 34, 36, 38, 40, 42, 44, 46] [0, 4161, 8322, 12483, 16644, 20805, 24966, 29127, 33288, 37449, 41610, 45771, 49932, 54093, 58254, 62415, 66576, 70737, 74898, 79059, 83220, 87381, 91542, 95703] hc (by decide) (by decide) (by decide) (by decide +kernel) (by decide +kernel) (by decide +kernel) (by decide +kernel) (fun c hc => ?_)
  have ha : ansOK [0, 2, 4, 6, 8, 10, 12, 14, 16, 18, 20, 22, 24, 26, 28, 30, 32, 34, 36, 38, 40, 42, 44, 46] [] 0 := ans_more ha (by decide)
  refine ⟨fun _ => ?_, fun q => absurd q (by decide)⟩
  exact pf_L_bounds_14 hc ha h
set_option maxHeartbeats 4000000 in
set_option maxRecDepth 100000 in
theorem pf_L_bounds_12 {c : TriS} {post : Int32 → Prop} (hc : cls [0, 2, 4, 6, 8, 10, 12, 14, 16, 18] [0, 4161, 8322, 12483, 16644, 20805, 24966, 29127, 33288, 37449] [] [] 0 c) (ha : ansOK [0, 2, 4, 6, 8, 10, 12, 14, 16, 18] [] 0) (h : post (1 : Int32)) : P_L_bounds_12 c post := by
  refine D_state1 20 20 20 [0, 2, 4, 6, 8, 10, 12, 14, 16, 18, 20] [0, 4161, 8322, 12483, 16644, 20805, 24966, 29127, 33288, 37449, 41610] hc (by decide) (by decide) (by decide) (by decide +kernel) (by decide +kernel) (by decide +kernel) (by decide +kernel) (fun c hc => ?_)
  have ha : ansOK [0, 2, 4, 6, 8, 10, 12, 14, 16, 18, 20] [] 0 := ans_more ha (by decide)
  refine ⟨fun _ => ?_, fun q => absurd q (by decide)⟩
  refine D_state1 22 22 22 [0, 2, 4, 6, 8, 10, 12, 14, 16, 18, 20, 22] [0, 4161, 8322, 12483, 16644, 20805, 24966, 29127, 33288, 37449, 41610, 45771] hc (by decide) (by decide) (by decide) (by decide +kernel) (by decide +kernel) (by decide +kernel) (by decide +kernel) (fun c hc => ?_)
  have ha : ansOK [0, 2, 4, 6, 8, 10, 12, 14, 16, 18, 20, 22] [] 0 := ans_more ha (by decide)
  refine ⟨fun _ => ?_, fun q => absurd q (by decide)⟩
  refine D_state1 24 24 24 [0, 2, 4, 6, 8, 10, 12, 14, 16, 18, 20, 22, 24] [0, 4161, 8322, 12483, 16644, 20805, 24966, 29127, 33288, 37449, 41610, 45771, 49932] hc (by decide) (by decide) (by decide) (by decide +kernel) (by decide +kernel) (by decide +kernel) (by decide +kernel) (fun c hc => ?_)
  have ha : ansOK [0, 2, 4, 6, 8, 10, 12, 14, 16, 18, 20, 22, 24] [] 0 := ans_more ha (by decide)
  refine ⟨fun _ => ?_, fun q => absurd q (by decide)⟩
  refine D_state1 26 26 26 [0, 2, 4, 6, 8, 10, 12, 14, 16, 18, 20, 22, 24, 26] [0, 4161, 8322, 12483, 16644, 20805, 24966, 29127, 33288, 37449, 41610, 45771, 49932, 54093] hc (by decide) (by decide) (by decide) (by decide +kernel) (by decide +kernel) (by decide +kernel) (by decide +kernel) (fun c hc => ?_)
  have ha : ansOK [0, 2, 4, 6, 8, 10, 12, 14, 16, 18, 20, 22, 24, 26] [] 0 := ans_more ha (by decide)
  refine ⟨fun _ => ?_, fun q => absurd q (by decide)⟩
  refine D_state1 28 28 28 [0, 2, 4, 6, 8, 10, 12, 14, 16, 18, 20, 22, 24, 26, 28] [0, 4161, 8322, 12483, 16644, 20805, 24966, 29127, 33288, 37449, 41610, 45771, 49932, 54093, 58254] hc (by decide) (by decide) (by decide) (by decide +kernel) (by decide +kernel) (by decide +kernel) (by decide +kernel) (fun c hc => ?_)
  have ha : ansOK [0, 2, 4, 6, 8, 10, 12, 14, 16, 18, 20, 22, 24, 26, 28] [] 0 := ans_more ha (by decide)
  refine ⟨fun _ => ?_, fun q => absurd q (by decide)⟩
  refine D_state1 30 30 30 [0, 2, 4, 6, 8, 10, 12, 14, 16, 18, 20, 22, 24, 26, 28, 30] [0, 4161, 8322, 12483, 16644, 20805, 24966, 29127, 33288, 37449, 41610, 45771, 49932, 54093, 58254, 62415] hc (by decide) (by decide) (by decide) (by decide +kernel) (by decide +kernel) (by decide +kernel) (by decide +kernel) (fun c hc => ?_)
  have ha : ansOK [0, 2, 4, 6, 8, 10, 12, 14, 16, 18, 20, 22, 24, 26, 28, 30] [] 0 := ans_more ha (by decide)
  refine ⟨fun _ => ?_, fun q => absurd q (by decide)⟩
  refine D_state1 32 32 32 [0, 2, 4, 6, 8, 10, 12, 14, 16, 18, 20, 22, 24, 26, 28, 30, 32] [0, 4161, 8322, 12483, 16644, 20805, 24966, 29127, 33288, 37449, 41610, 45771, 49932, 54093, 58254, 62415, 66576] hc (by decide) (by decide) (by decide) (by decide +kernel) (by decide +kernel) (by decide +kernel) (by decide +kernel) (fun c hc => ?_)
  have ha : ansOK [0, 2, 4, 6, 8, 10, 12, 14, 16, 18, 20, 22, 24, 26, 28, 30, 32] [] 0 := ans_more ha (by decide)
  refine ⟨fun _ => ?_, fun q => absurd q (by decide)⟩
  exact pf_L_bounds_13 hc ha h
set_option maxHeartbeats 4000000 in
set_option maxRecDepth 100000 in
theorem pf_L_bounds_11 {c : TriS} {post : Int32 → Prop} (hc : cls [0, 2, 4] [0, 4161, 8322] [] [] 0 c) (ha : ansOK [0, 2, 4] [] 0) (h : post (1 : Int32)) : P_L_bounds_11 c post := by
  refine D_state1 6 6 6 [0, 2, 4, 6] [0, 4161, 8322, 12483] hc (by decide) (by decide) (by decide) (by decide +kernel) (by decide +kernel) (by decide +kernel) (by decide +kernel) (fun c hc => ?_)
  have ha : ansOK [0, 2, 4, 6] [] 0 := ans_more ha (by decide)
  refine ⟨fun _ => ?_, fun q => absurd q (by decide)⟩
  refine D_state1 8 8 8 [0, 2, 4, 6, 8] [0, 4161, 8322, 12483, 16644] hc (by decide) (by decide) (by decide) (by decide +kernel) (by decide +kernel) (by decide +kernel) (by decide +kernel) (fun c hc => ?_)
  have ha : ansOK [0, 2, 4, 6, 8] [] 0 := ans_more ha (by decide)
  refine ⟨fun _ => ?_, fun q => absurd q (by decide)⟩
  refine D_state1 10 10 10 [0, 2, 4, 6, 8, 10] [0, 4161, 8322, 12483, 16644, 20805] hc (by decide) (by decide) (by decide) (by decide +kernel) (by decide +kernel) (by decide +kernel) (by decide +kernel) (fun c hc => ?_)
  have ha : ansOK [0, 2, 4, 6, 8, 10] [] 0 := ans_more ha (by decide)
  refine ⟨fun _ => ?_, fun q => absurd q (by decide)⟩
  refine D_state1 12 12 12 [0, 2, 4, 6, 8, 10, 12] [0, 4161, 8322, 12483, 16644, 20805, 24966] hc (by decide) (by decide) (by decide) (by decide +kernel) (by decide +kernel) (by decide +kernel) (by decide +kernel) (fun c hc => ?_)
  have ha : ansOK [0, 2, 4, 6, 8, 10, 12] [] 0 := ans_more ha (by decide)
  refine ⟨fun _ => ?_, fun q => absurd q (by decide)⟩
  refine D_state1 14 14 14 [0, 2, 4, 6, 8, 10, 12, 14] [0, 4161, 8322, 12483, 16644, 20805, 24966, 29127] hc (by decide) (by decide) (by decide) (by decide +kernel) (by decide +kernel) (by decide +kernel) (by decide +kernel) (fun c hc => ?_)
  have ha : ansOK [0, 2, 4, 6, 8, 10, 12, 14] [] 0 := ans_more ha (by decide)
  refine ⟨fun _ => ?_, fun q => absurd q (by decide)⟩
  refine D_state1 16 16 16 [0, 2, 4, 6, 8, 10, 12, 14, 16] [0, 4161, 8322, 12483, 16644, 20805, 24966, 29127, 33288] hc (by decide) (by decide) (by decide) (by decide +kernel) (by decide +kernel) (by decide +kernel) (by decide +kernel) (fun c hc => ?_)
  have ha : ansOK [0, 2, 4, 6, 8, 10, 12, 14, 16] [] 0 := ans_more ha (by decide)
  refine ⟨fun _ => ?_, fun q => absurd q (by decide)⟩
  refine D_state1 18 18 18 [0, 2, 4, 6, 8, 10, 12, 14, 16, 18] [0, 4161, 8322, 12483, 16644, 20805, 24966, 29127, 33288, 37449] hc (by decide) (by decide) (by decide) (by decide +kernel) (by decide +kernel) (by decide +kernel) (by decide +kernel) (fun c hc => ?_)
  have ha : ansOK [0, 2, 4, 6, 8, 10, 12, 14, 16, 18] [] 0 := ans_more ha (by decide)
  refine ⟨fun _ => ?_, fun q => absurd q (by decide)⟩
  exact pf_L_bounds_12 hc ha h
set_option maxHeartbeats 4000000 in
set_option maxRecDepth 100000 in
theorem pf_L_bounds_10 {c : TriS} {post : Int32 → Prop} (hc : cls [0, 10, 20, 21, 22, 23, 24, 25, 26, 27, 28, 1, 2, 3, 4, 5, 6] [66, 67, 68, 69, 70, 71, 72, 73, 74, 45122, 45123, 45124, 45125, 45126, 45127, 45128, 45129, 45130, 49218, 49219, 49220, 49221, 49222, 49223, 49224, 49225, 49226, 53314, 53315, 53316, 53317, 53318, 53319, 53320, 53321, 53322, 57410, 57411, 57412, 57413, 57414, 57415, 57416, 57417, 57418, 61506, 61507, 61508, 61509, 61510, 61511, 61512, 61513, 61514, 65602, 65603, 65604, 65605, 65606, 65607] [pat3 100 10 101, pat3 102 10 103] A44 15 c) (ha : ansOK [0, 10, 20, 21, 22, 23, 24, 25, 26, 27, 28, 1, 2, 3, 4, 5, 6] A44 15) (h : post (1 : Int32)) : P_L_bounds_10 c post := by
  refine ar_0f (a0 := 1) (b0 := 1) (d0 := 1) hc (by decide) (by decide) (by decide) (by decide +kernel) (by decide +kernel) (fun c hc => ?_)
  refine ⟨fun q => absurd q (by decide), fun _ => ?_⟩
  refine D_state0 0 10 20 hc (by decide) (by decide) (by decide) (by decide +kernel) (fun c hc => ?_)
  refine ⟨fun q => absurd q (by decide), fun _ => ?_⟩
  refine pf_L_refuses hc ha (fun c hc => ?_)
  refine ⟨fun _ => ?_, fun q => absurd q (by decide)⟩
  refine C_init (fun c hc => ?_)
  have ha := ansOK0 []
  refine D_state1 0 0 0 [0] [0] hc (by decide) (by decide) (by decide) (by decide +kernel) (by decide +kernel) (by decide +kernel) (by decide +kernel) (fun c hc => ?_)
  have ha : ansOK [0] [] 0 := ans_more ha (by decide)
  refine ⟨fun _ => ?_, fun q => absurd q (by decide)⟩
  refine D_state1 2 2 2 [0, 2] [0, 4161] hc (by decide) (by decide) (by decide) (by decide +kernel) (by decide +kernel) (by decide +kernel) (by decide +kernel) (fun c hc => ?_)
  have ha : ansOK [0, 2] [] 0 := ans_more ha (by decide)
  refine ⟨fun _ => ?_, fun q => absurd q (by decide)⟩
  refine D_state1 4 4 4 [0, 2, 4] [0, 4161, 8322] hc (by decide) (by decide) (by decide) (by decide +kernel) (by decide +kernel) (by decide +kernel) (by decide +kernel) (fun c hc => ?_)
  have ha : ansOK [0, 2, 4] [] 0 := ans_more ha (by decide)
  refine ⟨fun _ => ?_, fun q => absurd q (by decide)⟩
  exact pf_L_bounds_11 hc ha h
set_option maxHeartbeats 4000000 in
set_option maxRecDepth 100000 in
theorem pf_L_bounds_9 {c : TriS} {post : Int32 → Prop} (hc : cls [0, 10, 20, 21, 22, 23, 24, 25, 26, 27, 28, 1, 2, 3, 4, 5, 6] [66, 67, 68, 69, 70, 71, 72, 73, 74, 45122, 45123, 45124, 45125, 45126, 45127, 45128, 45129, 45130, 49218, 49219, 49220, 49221, 49222, 49223, 49224, 49225, 49226, 53314, 53315, 53316, 53317, 53318, 53319, 53320, 53321, 53322, 57410, 57411, 57412, 57413, 57414, 57415, 57416, 57417, 57418, 61506, 61507, 61508, 61509, 61510, 61511, 61512, 61513, 61514, 65602, 65603] [pat3 100 10 101, pat3 102 10 103] A44 15 c) (ha : ansOK [0, 10, 20, 21, 22, 23, 24, 25, 26, 27, 28, 1, 2, 3, 4, 5, 6] A44 15) (h : post (1 : Int32)) : P_L_bounds_9 c post := by
  refine D_state1 6 10 22 [0, 10, 20, 21, 22, 23, 24, 25, 26, 27, 28, 1, 2, 3, 4, 5, 6] [66, 67, 68, 69, 70, 71, 72, 73, 74, 45122, 45123, 45124, 45125, 45126, 45127, 45128, 45129, 45130, 49218, 49219, 49220, 49221, 49222, 49223, 49224, 49225, 49226, 53314, 53315, 53316, 53317, 53318, 53319, 53320, 53321, 53322, 57410, 57411, 57412, 57413, 57414, 57415, 57416, 57417, 57418, 61506, 61507, 61508, 61509, 61510, 61511, 61512, 61513, 61514, 65602, 65603, 65604] hc (by decide) (by decide) (by decide) (by decide +kernel) (by decide +kernel) (by decide +kernel) (by decide +kernel) (fun c hc => ?_)
  have ha : ansOK [0, 10, 20, 21, 22, 23, 24, 25, 26, 27, 28, 1, 2, 3, 4, 5, 6] A44 15 := ans_more ha (by decide)
  refine ⟨fun _ => ?_, fun q => absurd q (by decide)⟩
  refine D_state1 6 10 23 [0, 10, 20, 21, 22, 23, 24, 25, 26, 27, 28, 1, 2, 3, 4, 5, 6] [66, 67, 68, 69, 70, 71, 72, 73, 74, 45122, 45123, 45124, 45125, 45126, 45127, 45128, 45129, 45130, 49218, 49219, 49220, 49221, 49222, 49223, 49224, 49225, 49226, 53314, 53315, 53316, 53317, 53318, 53319, 53320, 53321, 53322, 57410, 57411, 57412, 57413, 57414, 57415, 57416, 57417, 57418, 61506, 61507, 61508, 61509, 61510, 61511, 61512, 61513, 61514, 65602, 65603, 65604, 65605] hc (by decide) (by decide) (by decide) (by decide +kernel) (by decide +kernel) (by decide +kernel) (by decide +kernel) (fun c hc => ?_)
  have ha : ansOK [0, 10, 20, 21, 22, 23, 24, 25, 26, 27, 28, 1, 2, 3, 4, 5, 6] A44 15 := ans_more ha (by decide)
  refine ⟨fun _ => ?_, fun q => absurd q (by decide)⟩
  refine D_state1 6 10 24 [0, 10, 20, 21, 22, 23, 24, 25, 26, 27, 28, 1, 2, 3, 4, 5, 6] [66, 67, 68, 69, 70, 71, 72, 73, 74, 45122, 45123, 45124, 45125, 45126, 45127, 45128, 45129, 45130, 49218, 49219, 49220, 49221, 49222, 49223, 49224, 49225, 49226, 53314, 53315, 53316, 53317, 53318, 53319, 53320, 53321, 53322, 57410, 57411, 57412, 57413, 57414, 57415, 57416, 57417, 57418, 61506, 61507, 61508, 61509, 61510, 61511, 61512, 61513, 61514, 65602, 65603, 65604, 65605, 65606] hc (by decide) (by decide) (by decide) (by decide +kernel) (by decide +kernel) (by decide +kernel) (by decide +kernel) (fun c hc => ?_)
  have ha : ansOK [0, 10, 20, 21, 22, 23, 24, 25, 26, 27, 28, 1, 2, 3, 4, 5, 6] A44 15 := ans_more ha (by decide)
  refine ⟨fun _ => ?_, fun q => absurd q (by decide)⟩
  refine D_state1 6 10 25 [0, 10, 20, 21, 22, 23, 24, 25, 26, 27, 28, 1, 2, 3, 4, 5, 6] [66, 67, 68, 69, 70, 71, 72, 73, 74, 45122, 45123, 45124, 45125, 45126, 45127, 45128, 45129, 45130, 49218, 49219, 49220, 49221, 49222, 49223, 49224, 49225, 49226, 53314, 53315, 53316, 53317, 53318, 53319, 53320, 53321, 53322, 57410, 57411, 57412, 57413, 57414, 57415, 57416, 57417, 57418, 61506, 61507, 61508, 61509, 61510, 61511, 61512, 61513, 61514, 65602, 65603, 65604, 65605, 65606, 65607] hc (by decide) (by decide) (by decide) (by decide +kernel) (by decide +kernel) (by decide +kernel) (by decide +kernel) (fun c hc => ?_)
  have ha : ansOK [0, 10, 20, 21, 22, 23, 24, 25, 26, 27, 28, 1, 2, 3, 4, 5, 6] A44 15 := ans_more ha (by decide)
  refine ⟨fun _ => ?_, fun q => absurd q (by decide)⟩
  refine D_comesX hc ha (Or.inr (by decide +kernel)) (fun c hc => ?_)
  refine ⟨fun q => absurd q (by decide), fun _ => ?_⟩
  refine D_answers 1936 hc (by decide +kernel) ?_
  refine ⟨fun q => absurd q (by decide), fun _ => ?_⟩
  refine D_termsFor 1 9 hc ha (by decide) (by decide +kernel) ?_
  refine ⟨fun q => absurd q (by decide), fun _ => ?_⟩
  exact pf_L_bounds_10 hc ha h
set_option maxHeartbeats 4000000 in
set_option maxRecDepth 100000 in
theorem pf_L_bounds_8 {c : TriS} {post : Int32 → Prop} (hc : cls [0, 10, 20, 21, 22, 23, 24, 25, 26, 27, 28, 1, 2, 3, 4, 5] [66, 67, 68, 69, 70, 71, 72, 73, 74, 45122, 45123, 45124, 45125, 45126, 45127, 45128, 45129, 45130, 49218, 49219, 49220, 49221, 49222, 49223, 49224, 49225, 49226, 53314, 53315, 53316, 53317, 53318, 53319, 53320, 53321, 53322, 57410, 57411, 57412, 57413, 57414, 57415, 57416, 57417, 57418, 61506, 61507, 61508, 61509] [pat3 100 10 101, pat3 102 10 103] A44 15 c) (ha : ansOK [0, 10, 20, 21, 22, 23, 24, 25, 26, 27, 28, 1, 2, 3, 4, 5] A44 15) (h : post (1 : Int32)) : P_L_bounds_8 c post := by
  refine D_state1 5 10 24 [0, 10, 20, 21, 22, 23, 24, 25, 26, 27, 28, 1, 2, 3, 4, 5] [66, 67, 68, 69, 70, 71, 72, 73, 74, 45122, 45123, 45124, 45125, 45126, 45127, 45128, 45129, 45130, 49218, 49219, 49220, 49221, 49222, 49223, 49224, 49225, 49226, 53314, 53315, 53316, 53317, 53318, 53319, 53320, 53321, 53322, 57410, 57411, 57412, 57413, 57414, 57415, 57416, 57417, 57418, 61506, 61507, 61508, 61509, 61510] hc (by decide) (by decide) (by decide) (by decide +kernel) (by decide +kernel) (by decide +kernel) (by decide +kernel) (fun c hc => ?_)
  have ha : ansOK [0, 10, 20, 21, 22, 23, 24, 25, 26, 27, 28, 1, 2, 3, 4, 5] A44 15 := ans_more ha (by decide)
  refine ⟨fun _ => ?_, fun q => absurd q (by decide)⟩
  refine D_state1 5 10 25 [0, 10, 20, 21, 22, 23, 24, 25, 26, 27, 28, 1, 2, 3, 4, 5] [66, 67, 68, 69, 70, 71, 72, 73, 74, 45122, 45123, 45124, 45125, 45126, 45127, 45128, 45129, 45130, 49218, 49219, 49220, 49221, 49222, 49223, 49224, 49225, 49226, 53314, 53315, 53316, 53317, 53318, 53319, 53320, 53321, 53322, 57410, 57411, 57412, 57413, 57414, 57415, 57416, 57417, 57418, 61506, 61507, 61508, 61509, 61510, 61511] hc (by decide) (by decide) (by decide) (by decide +kernel) (by decide +kernel) (by decide +kernel) (by decide +kernel) (fun c hc => ?_)
  have ha : ansOK [0, 10, 20, 21, 22, 23, 24, 25, 26, 27, 28, 1, 2, 3, 4, 5] A44 15 := ans_more ha (by decide)
  refine ⟨fun _ => ?_, fun q => absurd q (by decide)⟩
  refine D_state1 5 10 26 [0, 10, 20, 21, 22, 23, 24, 25, 26, 27, 28, 1, 2, 3, 4, 5] [66, 67, 68, 69, 70, 71, 72, 73, 74, 45122, 45123, 45124, 45125, 45126, 45127, 45128, 45129, 45130, 49218, 49219, 49220, 49221, 49222, 49223, 49224, 49225, 49226, 53314, 53315, 53316, 53317, 53318, 53319, 53320, 53321, 53322, 57410, 57411, 57412, 57413, 57414, 57415, 57416, 57417, 57418, 61506, 61507, 61508, 61509, 61510, 61511, 61512] hc (by decide) (by decide) (by decide) (by decide +kernel) (by decide +kernel) (by decide +kernel) (by decide +kernel) (fun c hc => ?_)
  have ha : ansOK [0, 10, 20, 21, 22, 23, 24, 25, 26, 27, 28, 1, 2, 3, 4, 5] A44 15 := ans_more ha (by decide)
  refine ⟨fun _ => ?_, fun q => absurd q (by decide)⟩
  refine D_state1 5 10 27 [0, 10, 20, 21, 22, 23, 24, 25, 26, 27, 28, 1, 2, 3, 4, 5] [66, 67, 68, 69, 70, 71, 72, 73, 74, 45122, 45123, 45124, 45125, 45126, 45127, 45128, 45129, 45130, 49218, 49219, 49220, 49221, 49222, 49223, 49224, 49225, 49226, 53314, 53315, 53316, 53317, 53318, 53319, 53320, 53321, 53322, 57410, 57411, 57412, 57413, 57414, 57415, 57416, 57417, 57418, 61506, 61507, 61508, 61509, 61510, 61511, 61512, 61513] hc (by decide) (by decide) (by decide) (by decide +kernel) (by decide +kernel) (by decide +kernel) (by decide +kernel) (fun c hc => ?_)
  have ha : ansOK [0, 10, 20, 21, 22, 23, 24, 25, 26, 27, 28, 1, 2, 3, 4, 5] A44 15 := ans_more ha (by decide)
  refine ⟨fun _ => ?_, fun q => absurd q (by decide)⟩
  refine D_state1 5 10 28 [0, 10, 20, 21, 22, 23, 24, 25, 26, 27, 28, 1, 2, 3, 4, 5] [66, 67, 68, 69, 70, 71, 72, 73, 74, 45122, 45123, 45124, 45125, 45126, 45127, 45128, 45129, 45130, 49218, 49219, 49220, 49221, 49222, 49223, 49224, 49225, 49226, 53314, 53315, 53316, 53317, 53318, 53319, 53320, 53321, 53322, 57410, 57411, 57412, 57413, 57414, 57415, 57416, 57417, 57418, 61506, 61507, 61508, 61509, 61510, 61511, 61512, 61513, 61514] hc (by decide) (by decide) (by decide) (by decide +kernel) (by decide +kernel) (by decide +kernel) (by decide +kernel) (fun c hc => ?_)
  have ha : ansOK [0, 10, 20, 21, 22, 23, 24, 25, 26, 27, 28, 1, 2, 3, 4, 5] A44 15 := ans_more ha (by decide)
  refine ⟨fun _ => ?_, fun q => absurd q (by decide)⟩
  refine D_state1 6 10 20 [0, 10, 20, 21, 22, 23, 24, 25, 26, 27, 28, 1, 2, 3, 4, 5, 6] [66, 67, 68, 69, 70, 71, 72, 73, 74, 45122, 45123, 45124, 45125, 45126, 45127, 45128, 45129, 45130, 49218, 49219, 49220, 49221, 49222, 49223, 49224, 49225, 49226, 53314, 53315, 53316, 53317, 53318, 53319, 53320, 53321, 53322, 57410, 57411, 57412, 57413, 57414, 57415, 57416, 57417, 57418, 61506, 61507, 61508, 61509, 61510, 61511, 61512, 61513, 61514, 65602] hc (by decide) (by decide) (by decide) (by decide +kernel) (by decide +kernel) (by decide +kernel) (by decide +kernel) (fun c hc => ?_)
  have ha : ansOK [0, 10, 20, 21, 22, 23, 24, 25, 26, 27, 28, 1, 2, 3, 4, 5, 6] A44 15 := ans_more ha (by decide)
  refine ⟨fun _ => ?_, fun q => absurd q (by decide)⟩
  refine D_state1 6 10 21 [0, 10, 20, 21, 22, 23, 24, 25, 26, 27, 28, 1, 2, 3, 4, 5, 6] [66, 67, 68, 69, 70, 71, 72, 73, 74, 45122, 45123, 45124, 45125, 45126, 45127, 45128, 45129, 45130, 49218, 49219, 49220, 49221, 49222, 49223, 49224, 49225, 49226, 53314, 53315, 53316, 53317, 53318, 53319, 53320, 53321, 53322, 57410, 57411, 57412, 57413, 57414, 57415, 57416, 57417, 57418, 61506, 61507, 61508, 61509, 61510, 61511, 61512, 61513, 61514, 65602, 65603] hc (by decide) (by decide) (by decide) (by decide +kernel) (by decide +kernel) (by decide +kernel) (by decide +kernel) (fun c hc => ?_)
  have ha : ansOK [0, 10, 20, 21, 22, 23, 24, 25, 26, 27, 28, 1, 2, 3, 4, 5, 6] A44 15 := ans_more ha (by decide)
  refine ⟨fun _ => ?_, fun q => absurd q (by decide)⟩
  exact pf_L_bounds_9 hc ha h
set_option maxHeartbeats 4000000 in
set_option maxRecDepth 100000 in
theorem pf_L_bounds_7 {c : TriS} {post : Int32 → Prop} (hc : cls [0, 10, 20, 21, 22, 23, 24, 25, 26, 27, 28, 1, 2, 3, 4] [66, 67, 68, 69, 70, 71, 72, 73, 74, 45122, 45123, 45124, 45125, 45126, 45127, 45128, 45129, 45130, 49218, 49219, 49220, 49221, 49222, 49223, 49224, 49225, 49226, 53314, 53315, 53316, 53317, 53318, 53319, 53320, 53321, 53322, 57410, 57411, 57412, 57413, 57414, 57415, 57416, 57417] [pat3 100 10 101, pat3 102 10 103] A44 15 c) (ha : ansOK [0, 10, 20, 21, 22, 23, 24, 25, 26, 27, 28, 1, 2, 3, 4] A44 15) (h : post (1 : Int32)) : P_L_bounds_7 c post := by
  refine D_answer 1935 3 27 hc ha (by decide +kernel) (by decide) (by decide +kernel) (by decide +kernel) ?_
  refine ⟨fun q => absurd q (by decide), fun _ => ?_⟩
  refine D_answer 1935 0 4 hc ha (by decide +kernel) (by decide) (by decide +kernel) (by decide +kernel) ?_
  refine ⟨fun _ => ?_, fun q => absurd q (by decide)⟩
  refine D_state1 4 10 28 [0, 10, 20, 21, 22, 23, 24, 25, 26, 27, 28, 1, 2, 3, 4] [66, 67, 68, 69, 70, 71, 72, 73, 74, 45122, 45123, 45124, 45125, 45126, 45127, 45128, 45129, 45130, 49218, 49219, 49220, 49221, 49222, 49223, 49224, 49225, 49226, 53314, 53315, 53316, 53317, 53318, 53319, 53320, 53321, 53322, 57410, 57411, 57412, 57413, 57414, 57415, 57416, 57417, 57418] hc (by decide) (by decide) (by decide) (by decide +kernel) (by decide +kernel) (by decide +kernel) (by decide +kernel) (fun c hc => ?_)
  have ha : ansOK [0, 10, 20, 21, 22, 23, 24, 25, 26, 27, 28, 1, 2, 3, 4] A44 15 := ans_more ha (by decide)
  refine ⟨fun _ => ?_, fun q => absurd q (by decide)⟩
  refine D_state1 5 10 20 [0, 10, 20, 21, 22, 23, 24, 25, 26, 27, 28, 1, 2, 3, 4, 5] [66, 67, 68, 69, 70, 71, 72, 73, 74, 45122, 45123, 45124, 45125, 45126, 45127, 45128, 45129, 45130, 49218, 49219, 49220, 49221, 49222, 49223, 49224, 49225, 49226, 53314, 53315, 53316, 53317, 53318, 53319, 53320, 53321, 53322, 57410, 57411, 57412, 57413, 57414, 57415, 57416, 57417, 57418, 61506] hc (by decide) (by decide) (by decide) (by decide +kernel) (by decide +kernel) (by decide +kernel) (by decide +kernel) (fun c hc => ?_)
  have ha : ansOK [0, 10, 20, 21, 22, 23, 24, 25, 26, 27, 28, 1, 2, 3, 4, 5] A44 15 := ans_more ha (by decide)
  refine ⟨fun _ => ?_, fun q => absurd q (by decide)⟩
  refine D_state1 5 10 21 [0, 10, 20, 21, 22, 23, 24, 25, 26, 27, 28, 1, 2, 3, 4, 5] [66, 67, 68, 69, 70, 71, 72, 73, 74, 45122, 45123, 45124, 45125, 45126, 45127, 45128, 45129, 45130, 49218, 49219, 49220, 49221, 49222, 49223, 49224, 49225, 49226, 53314, 53315, 53316, 53317, 53318, 53319, 53320, 53321, 53322, 57410, 57411, 57412, 57413, 57414, 57415, 57416, 57417, 57418, 61506, 61507] hc (by decide) (by decide) (by decide) (by decide +kernel) (by decide +kernel) (by decide +kernel) (by decide +kernel) (fun c hc => ?_)
  have ha : ansOK [0, 10, 20, 21, 22, 23, 24, 25, 26, 27, 28, 1, 2, 3, 4, 5] A44 15 := ans_more ha (by decide)
  refine ⟨fun _ => ?_, fun q => absurd q (by decide)⟩
  refine D_state1 5 10 22 [0, 10, 20, 21, 22, 23, 24, 25, 26, 27, 28, 1, 2, 3, 4, 5] [66, 67, 68, 69, 70, 71, 72, 73, 74, 45122, 45123, 45124, 45125, 45126, 45127, 45128, 45129, 45130, 49218, 49219, 49220, 49221, 49222, 49223, 49224, 49225, 49226, 53314, 53315, 53316, 53317, 53318, 53319, 53320, 53321, 53322, 57410, 57411, 57412, 57413, 57414, 57415, 57416, 57417, 57418, 61506, 61507, 61508] hc (by decide) (by decide) (by decide) (by decide +kernel) (by decide +kernel) (by decide +kernel) (by decide +kernel) (fun c hc => ?_)
  have ha : ansOK [0, 10, 20, 21, 22, 23, 24, 25, 26, 27, 28, 1, 2, 3, 4, 5] A44 15 := ans_more ha (by decide)
  refine ⟨fun _ => ?_, fun q => absurd q (by decide)⟩
  refine D_state1 5 10 23 [0, 10, 20, 21, 22, 23, 24, 25, 26, 27, 28, 1, 2, 3, 4, 5] [66, 67, 68, 69, 70, 71, 72, 73, 74, 45122, 45123, 45124, 45125, 45126, 45127, 45128, 45129, 45130, 49218, 49219, 49220, 49221, 49222, 49223, 49224, 49225, 49226, 53314, 53315, 53316, 53317, 53318, 53319, 53320, 53321, 53322, 57410, 57411, 57412, 57413, 57414, 57415, 57416, 57417, 57418, 61506, 61507, 61508, 61509] hc (by decide) (by decide) (by decide) (by decide +kernel) (by decide +kernel) (by decide +kernel) (by decide +kernel) (fun c hc => ?_)
  have ha : ansOK [0, 10, 20, 21, 22, 23, 24, 25, 26, 27, 28, 1, 2, 3, 4, 5] A44 15 := ans_more ha (by decide)
  refine ⟨fun _ => ?_, fun q => absurd q (by decide)⟩
  exact pf_L_bounds_8 hc ha h
set_option maxHeartbeats 4000000 in
set_option maxRecDepth 100000 in
theorem pf_L_bounds_6 {c : TriS} {post : Int32 → Prop} (hc : cls [0, 10, 20, 21, 22, 23, 24, 25, 26, 27, 28, 1, 2, 3, 4] [66, 67, 68, 69, 70, 71, 72, 73, 74, 45122, 45123, 45124, 45125, 45126, 45127, 45128, 45129, 45130, 49218, 49219, 49220, 49221, 49222, 49223, 49224, 49225, 49226, 53314, 53315, 53316, 53317, 53318, 53319, 53320, 53321, 53322, 57410, 57411, 57412] [pat3 100 10 101, pat3 102 10 103] [] 0 c) (ha : ansOK [0, 10, 20, 21, 22, 23, 24, 25, 26, 27, 28, 1, 2, 3, 4] [] 0) (h : post (1 : Int32)) : P_L_bounds_6 c post := by
  refine D_state1 4 10 23 [0, 10, 20, 21, 22, 23, 24, 25, 26, 27, 28, 1, 2, 3, 4] [66, 67, 68, 69, 70, 71, 72, 73, 74, 45122, 45123, 45124, 45125, 45126, 45127, 45128, 45129, 45130, 49218, 49219, 49220, 49221, 49222, 49223, 49224, 49225, 49226, 53314, 53315, 53316, 53317, 53318, 53319, 53320, 53321, 53322, 57410, 57411, 57412, 57413] hc (by decide) (by decide) (by decide) (by decide +kernel) (by decide +kernel) (by decide +kernel) (by decide +kernel) (fun c hc => ?_)
  have ha : ansOK [0, 10, 20, 21, 22, 23, 24, 25, 26, 27, 28, 1, 2, 3, 4] [] 0 := ans_more ha (by decide)
  refine ⟨fun _ => ?_, fun q => absurd q (by decide)⟩
  refine D_state1 4 10 24 [0, 10, 20, 21, 22, 23, 24, 25, 26, 27, 28, 1, 2, 3, 4] [66, 67, 68, 69, 70, 71, 72, 73, 74, 45122, 45123, 45124, 45125, 45126, 45127, 45128, 45129, 45130, 49218, 49219, 49220, 49221, 49222, 49223, 49224, 49225, 49226, 53314, 53315, 53316, 53317, 53318, 53319, 53320, 53321, 53322, 57410, 57411, 57412, 57413, 57414] hc (by decide) (by decide) (by decide) (by decide +kernel) (by decide +kernel) (by decide +kernel) (by decide +kernel) (fun c hc => ?_)
  have ha : ansOK [0, 10, 20, 21, 22, 23, 24, 25, 26, 27, 28, 1, 2, 3, 4] [] 0 := ans_more ha (by decide)
  refine ⟨fun _ => ?_, fun q => absurd q (by decide)⟩
  refine D_state1 4 10 25 [0, 10, 20, 21, 22, 23, 24, 25, 26, 27, 28, 1, 2, 3, 4] [66, 67, 68, 69, 70, 71, 72, 73, 74, 45122, 45123, 45124, 45125, 45126, 45127, 45128, 45129, 45130, 49218, 49219, 49220, 49221, 49222, 49223, 49224, 49225, 49226, 53314, 53315, 53316, 53317, 53318, 53319, 53320, 53321, 53322, 57410, 57411, 57412, 57413, 57414, 57415] hc (by decide) (by decide) (by decide) (by decide +kernel) (by decide +kernel) (by decide +kernel) (by decide +kernel) (fun c hc => ?_)
  have ha : ansOK [0, 10, 20, 21, 22, 23, 24, 25, 26, 27, 28, 1, 2, 3, 4] [] 0 := ans_more ha (by decide)
  refine ⟨fun _ => ?_, fun q => absurd q (by decide)⟩
  refine D_state1 4 10 26 [0, 10, 20, 21, 22, 23, 24, 25, 26, 27, 28, 1, 2, 3, 4] [66, 67, 68, 69, 70, 71, 72, 73, 74, 45122, 45123, 45124, 45125, 45126, 45127, 45128, 45129, 45130, 49218, 49219, 49220, 49221, 49222, 49223, 49224, 49225, 49226, 53314, 53315, 53316, 53317, 53318, 53319, 53320, 53321, 53322, 57410, 57411, 57412, 57413, 57414, 57415, 57416] hc (by decide) (by decide) (by decide) (by decide +kernel) (by decide +kernel) (by decide +kernel) (by decide +kernel) (fun c hc => ?_)
  have ha : ansOK [0, 10, 20, 21, 22, 23, 24, 25, 26, 27, 28, 1, 2, 3, 4] [] 0 := ans_more ha (by decide)
  refine ⟨fun _ => ?_, fun q => absurd q (by decide)⟩
  refine D_state1 4 10 27 [0, 10, 20, 21, 22, 23, 24, 25, 26, 27, 28, 1, 2, 3, 4] [66, 67, 68, 69, 70, 71, 72, 73, 74, 45122, 45123, 45124, 45125, 45126, 45127, 45128, 45129, 45130, 49218, 49219, 49220, 49221, 49222, 49223, 49224, 49225, 49226, 53314, 53315, 53316, 53317, 53318, 53319, 53320, 53321, 53322, 57410, 57411, 57412, 57413, 57414, 57415, 57416, 57417] hc (by decide) (by decide) (by decide) (by decide +kernel) (by decide +kernel) (by decide +kernel) (by decide +kernel) (fun c hc => ?_)
  have ha : ansOK [0, 10, 20, 21, 22, 23, 24, 25, 26, 27, 28, 1, 2, 3, 4] [] 0 := ans_more ha (by decide)
  refine ⟨fun _ => ?_, fun q => absurd q (by decide)⟩
  refine D_comes A44 1936 15 hc ha (by decide) ⟨(by decide +kernel), (by decide +kernel)⟩ (by decide +kernel) (by decide) (by decide +kernel) rfl (fun c hc ha => ?_)
  refine ⟨fun q => absurd q (by decide), fun _ => ?_⟩
  refine D_termsFor 2 5 hc ha (by decide) (by decide +kernel) ?_
  refine ⟨fun q => absurd q (by decide), fun _ => ?_⟩
  exact pf_L_bounds_7 hc ha h
set_option maxHeartbeats 4000000 in
set_option maxRecDepth 100000 in
theorem pf_L_bounds_5 {c : TriS} {post : Int32 → Prop} (hc : cls [0, 10, 20, 21, 22, 23, 24, 25, 26, 27, 28, 1, 2, 3] [66, 67, 68, 69, 70, 71, 72, 73, 74, 45122, 45123, 45124, 45125, 45126, 45127, 45128, 45129, 45130, 49218, 49219, 49220, 49221, 49222, 49223, 49224, 49225, 49226, 53314, 53315, 53316, 53317, 53318] [pat3 100 10 101, pat3 102 10 103] [] 0 c) (ha : ansOK [0, 10, 20, 21, 22, 23, 24, 25, 26, 27, 28, 1, 2, 3] [] 0) (h : post (1 : Int32)) : P_L_bounds_5 c post := by
  refine D_state1 3 10 25 [0, 10, 20, 21, 22, 23, 24, 25, 26, 27, 28, 1, 2, 3] [66, 67, 68, 69, 70, 71, 72, 73, 74, 45122, 45123, 45124, 45125, 45126, 45127, 45128, 45129, 45130, 49218, 49219, 49220, 49221, 49222, 49223, 49224, 49225, 49226, 53314, 53315, 53316, 53317, 53318, 53319] hc (by decide) (by decide) (by decide) (by decide +kernel) (by decide +kernel) (by decide +kernel) (by decide +kernel) (fun c hc => ?_)
  have ha : ansOK [0, 10, 20, 21, 22, 23, 24, 25, 26, 27, 28, 1, 2, 3] [] 0 := ans_more ha (by decide)
  refine ⟨fun _ => ?_, fun q => absurd q (by decide)⟩
  refine D_state1 3 10 26 [0, 10, 20, 21, 22, 23, 24, 25, 26, 27, 28, 1, 2, 3] [66, 67, 68, 69, 70, 71, 72, 73, 74, 45122, 45123, 45124, 45125, 45126, 45127, 45128, 45129, 45130, 49218, 49219, 49220, 49221, 49222, 49223, 49224, 49225, 49226, 53314, 53315, 53316, 53317, 53318, 53319, 53320] hc (by decide) (by decide) (by decide) (by decide +kernel) (by decide +kernel) (by decide +kernel) (by decide +kernel) (fun c hc => ?_)
  have ha : ansOK [0, 10, 20, 21, 22, 23, 24, 25, 26, 27, 28, 1, 2, 3] [] 0 := ans_more ha (by decide)
  refine ⟨fun _ => ?_, fun q => absurd q (by decide)⟩
  refine D_state1 3 10 27 [0, 10, 20, 21, 22, 23, 24, 25, 26, 27, 28, 1, 2, 3] [66, 67, 68, 69, 70, 71, 72, 73, 74, 45122, 45123, 45124, 45125, 45126, 45127, 45128, 45129, 45130, 49218, 49219, 49220, 49221, 49222, 49223, 49224, 49225, 49226, 53314, 53315, 53316, 53317, 53318, 53319, 53320, 53321] hc (by decide) (by decide) (by decide) (by decide +kernel) (by decide +kernel) (by decide +kernel) (by decide +kernel) (fun c hc => ?_)
  have ha : ansOK [0, 10, 20, 21, 22, 23, 24, 25, 26, 27, 28, 1, 2, 3] [] 0 := ans_more ha (by decide)
  refine ⟨fun _ => ?_, fun q => absurd q (by decide)⟩
  refine D_state1 3 10 28 [0, 10, 20, 21, 22, 23, 24, 25, 26, 27, 28, 1, 2, 3] [66, 67, 68, 69, 70, 71, 72, 73, 74, 45122, 45123, 45124, 45125, 45126, 45127, 45128, 45129, 45130, 49218, 49219, 49220, 49221, 49222, 49223, 49224, 49225, 49226, 53314, 53315, 53316, 53317, 53318, 53319, 53320, 53321, 53322] hc (by decide) (by decide) (by decide) (by decide +kernel) (by decide +kernel) (by decide +kernel) (by decide +kernel) (fun c hc => ?_)
  have ha : ansOK [0, 10, 20, 21, 22, 23, 24, 25, 26, 27, 28, 1, 2, 3] [] 0 := ans_more ha (by decide)
  refine ⟨fun _ => ?_, fun q => absurd q (by decide)⟩
  refine D_state1 4 10 20 [0, 10, 20, 21, 22, 23, 24, 25, 26, 27, 28, 1, 2, 3, 4] [66, 67, 68, 69, 70, 71, 72, 73, 74, 45122, 45123, 45124, 45125, 45126, 45127, 45128, 45129, 45130, 49218, 49219, 49220, 49221, 49222, 49223, 49224, 49225, 49226, 53314, 53315, 53316, 53317, 53318, 53319, 53320, 53321, 53322, 57410] hc (by decide) (by decide) (by decide) (by decide +kernel) (by decide +kernel) (by decide +kernel) (by decide +kernel) (fun c hc => ?_)
  have ha : ansOK [0, 10, 20, 21, 22, 23, 24, 25, 26, 27, 28, 1, 2, 3, 4] [] 0 := ans_more ha (by decide)
  refine ⟨fun _ => ?_, fun q => absurd q (by decide)⟩
  refine D_state1 4 10 21 [0, 10, 20, 21, 22, 23, 24, 25, 26, 27, 28, 1, 2, 3, 4] [66, 67, 68, 69, 70, 71, 72, 73, 74, 45122, 45123, 45124, 45125, 45126, 45127, 45128, 45129, 45130, 49218, 49219, 49220, 49221, 49222, 49223, 49224, 49225, 49226, 53314, 53315, 53316, 53317, 53318, 53319, 53320, 53321, 53322, 57410, 57411] hc (by decide) (by decide) (by decide) (by decide +kernel) (by decide +kernel) (by decide +kernel) (by decide +kernel) (fun c hc => ?_)
  have ha : ansOK [0, 10, 20, 21, 22, 23, 24, 25, 26, 27, 28, 1, 2, 3, 4] [] 0 := ans_more ha (by decide)
  refine ⟨fun _ => ?_, fun q => absurd q (by decide)⟩
  refine D_state1 4 10 22 [0, 10, 20, 21, 22, 23, 24, 25, 26, 27, 28, 1, 2, 3, 4] [66, 67, 68, 69, 70, 71, 72, 73, 74, 45122, 45123, 45124, 45125, 45126, 45127, 45128, 45129, 45130, 49218, 49219, 49220, 49221, 49222, 49223, 49224, 49225, 49226, 53314, 53315, 53316, 53317, 53318, 53319, 53320, 53321, 53322, 57410, 57411, 57412] hc (by decide) (by decide) (by decide) (by decide +kernel) (by decide +kernel) (by decide +kernel) (by decide +kernel) (fun c hc => ?_)
  have ha : ansOK [0, 10, 20, 21, 22, 23, 24, 25, 26, 27, 28, 1, 2, 3, 4] [] 0 := ans_more ha (by decide)
  refine ⟨fun _ => ?_, fun q => absurd q (by decide)⟩
  exact pf_L_bounds_6 hc ha h
set_option maxHeartbeats 4000000 in
set_option maxRecDepth 100000 in
theorem pf_L_bounds_4 {c : TriS} {post : Int32 → Prop} (hc : cls [0, 10, 20, 21, 22, 23, 24, 25, 26, 27, 28, 1, 2] [66, 67, 68, 69, 70, 71, 72, 73, 74, 45122, 45123, 45124, 45125, 45126, 45127, 45128, 45129, 45130, 49218, 49219, 49220, 49221, 49222, 49223, 49224] [pat3 100 10 101, pat3 102 10 103] [] 0 c) (ha : ansOK [0, 10, 20, 21, 22, 23, 24, 25, 26, 27, 28, 1, 2] [] 0) (h : post (1 : Int32)) : P_L_bounds_4 c post := by
  refine D_state1 2 10 27 [0, 10, 20, 21, 22, 23, 24, 25, 26, 27, 28, 1, 2] [66, 67, 68, 69, 70, 71, 72, 73, 74, 45122, 45123, 45124, 45125, 45126, 45127, 45128, 45129, 45130, 49218, 49219, 49220, 49221, 49222, 49223, 49224, 49225] hc (by decide) (by decide) (by decide) (by decide +kernel) (by decide +kernel) (by decide +kernel) (by decide +kernel) (fun c hc => ?_)
  have ha : ansOK [0, 10, 20, 21, 22, 23, 24, 25, 26, 27, 28, 1, 2] [] 0 := ans_more ha (by decide)
  refine ⟨fun _ => ?_, fun q => absurd q (by decide)⟩
  refine D_state1 2 10 28 [0, 10, 20, 21, 22, 23, 24, 25, 26, 27, 28, 1, 2] [66, 67, 68, 69, 70, 71, 72, 73, 74, 45122, 45123, 45124, 45125, 45126, 45127, 45128, 45129, 45130, 49218, 49219, 49220, 49221, 49222, 49223, 49224, 49225, 49226] hc (by decide) (by decide) (by decide) (by decide +kernel) (by decide +kernel) (by decide +kernel) (by decide +kernel) (fun c hc => ?_)
  have ha : ansOK [0, 10, 20, 21, 22, 23, 24, 25, 26, 27, 28, 1, 2] [] 0 := ans_more ha (by decide)
  refine ⟨fun _ => ?_, fun q => absurd q (by decide)⟩
  refine D_state1 3 10 20 [0, 10, 20, 21, 22, 23, 24, 25, 26, 27, 28, 1, 2, 3] [66, 67, 68, 69, 70, 71, 72, 73, 74, 45122, 45123, 45124, 45125, 45126, 45127, 45128, 45129, 45130, 49218, 49219, 49220, 49221, 49222, 49223, 49224, 49225, 49226, 53314] hc (by decide) (by decide) (by decide) (by decide +kernel) (by decide +kernel) (by decide +kernel) (by decide +kernel) (fun c hc => ?_)
  have ha : ansOK [0, 10, 20, 21, 22, 23, 24, 25, 26, 27, 28, 1, 2, 3] [] 0 := ans_more ha (by decide)
  refine ⟨fun _ => ?_, fun q => absurd q (by decide)⟩
  refine D_state1 3 10 21 [0, 10, 20, 21, 22, 23, 24, 25, 26, 27, 28, 1, 2, 3] [66, 67, 68, 69, 70, 71, 72, 73, 74, 45122, 45123, 45124, 45125, 45126, 45127, 45128, 45129, 45130, 49218, 49219, 49220, 49221, 49222, 49223, 49224, 49225, 49226, 53314, 53315] hc (by decide) (by decide) (by decide) (by decide +kernel) (by decide +kernel) (by decide +kernel) (by decide +kernel) (fun c hc => ?_)
  have ha : ansOK [0, 10, 20, 21, 22, 23, 24, 25, 26, 27, 28, 1, 2, 3] [] 0 := ans_more ha (by decide)
  refine ⟨fun _ => ?_, fun q => absurd q (by decide)⟩
  refine D_state1 3 10 22 [0, 10, 20, 21, 22, 23, 24, 25, 26, 27, 28, 1, 2, 3] [66, 67, 68, 69, 70, 71, 72, 73, 74, 45122, 45123, 45124, 45125, 45126, 45127, 45128, 45129, 45130, 49218, 49219, 49220, 49221, 49222, 49223, 49224, 49225, 49226, 53314, 53315, 53316] hc (by decide) (by decide) (by decide) (by decide +kernel) (by decide +kernel) (by decide +kernel) (by decide +kernel) (fun c hc => ?_)
  have ha : ansOK [0, 10, 20, 21, 22, 23, 24, 25, 26, 27, 28, 1, 2, 3] [] 0 := ans_more ha (by decide)
  refine ⟨fun _ => ?_, fun q => absurd q (by decide)⟩
  refine D_state1 3 10 23 [0, 10, 20, 21, 22, 23, 24, 25, 26, 27, 28, 1, 2, 3] [66, 67, 68, 69, 70, 71, 72, 73, 74, 45122, 45123, 45124, 45125, 45126, 45127, 45128, 45129, 45130, 49218, 49219, 49220, 49221, 49222, 49223, 49224, 49225, 49226, 53314, 53315, 53316, 53317] hc (by decide) (by decide) (by decide) (by decide +kernel) (by decide +kernel) (by decide +kernel) (by decide +kernel) (fun c hc => ?_)
  have ha : ansOK [0, 10, 20, 21, 22, 23, 24, 25, 26, 27, 28, 1, 2, 3] [] 0 := ans_more ha (by decide)
  refine ⟨fun _ => ?_, fun q => absurd q (by decide)⟩
  refine D_state1 3 10 24 [0, 10, 20, 21, 22, 23, 24, 25, 26, 27, 28, 1, 2, 3] [66, 67, 68, 69, 70, 71, 72, 73, 74, 45122, 45123, 45124, 45125, 45126, 45127, 45128, 45129, 45130, 49218, 49219, 49220, 49221, 49222, 49223, 49224, 49225, 49226, 53314, 53315, 53316, 53317, 53318] hc (by decide) (by decide) (by decide) (by decide +kernel) (by decide +kernel) (by decide +kernel) (by decide +kernel) (fun c hc => ?_)
  have ha : ansOK [0, 10, 20, 21, 22, 23, 24, 25, 26, 27, 28, 1, 2, 3] [] 0 := ans_more ha (by decide)
  refine ⟨fun _ => ?_, fun q => absurd q (by decide)⟩
  exact pf_L_bounds_5 hc ha h
set_option maxHeartbeats 4000000 in
set_option maxRecDepth 100000 in
theorem pf_L_bounds_3 {c : TriS} {post : Int32 → Prop} (hc : cls [0, 10, 20, 21, 22, 23, 24, 25, 26, 27, 28, 1] [66, 67, 68, 69, 70, 71, 72, 73, 74, 45122, 45123, 45124, 45125, 45126, 45127, 45128, 45129, 45130] [pat3 100 10 101, pat3 102 10 103] [] 0 c) (ha : ansOK [0, 10, 20, 21, 22, 23, 24, 25, 26, 27, 28, 1] [] 0) (h : post (1 : Int32)) : P_L_bounds_3 c post := by
  refine D_state1 2 10 20 [0, 10, 20, 21, 22, 23, 24, 25, 26, 27, 28, 1, 2] [66, 67, 68, 69, 70, 71, 72, 73, 74, 45122, 45123, 45124, 45125, 45126, 45127, 45128, 45129, 45130, 49218] hc (by decide) (by decide) (by decide) (by decide +kernel) (by decide +kernel) (by decide +kernel) (by decide +kernel) (fun c hc => ?_)
  have ha : ansOK [0, 10, 20, 21, 22, 23, 24, 25, 26, 27, 28, 1, 2] [] 0 := ans_more ha (by decide)
  refine ⟨fun _ => ?_, fun q => absurd q (by decide)⟩
  refine D_state1 2 10 21 [0, 10, 20, 21, 22, 23, 24, 25, 26, 27, 28, 1, 2] [66, 67, 68, 69, 70, 71, 72, 73, 74, 45122, 45123, 45124, 45125, 45126, 45127, 45128, 45129, 45130, 49218, 49219] hc (by decide) (by decide) (by decide) (by decide +kernel) (by decide +kernel) (by decide +kernel) (by decide +kernel) (fun c hc => ?_)
  have ha : ansOK [0, 10, 20, 21, 22, 23, 24, 25, 26, 27, 28, 1, 2] [] 0 := ans_more ha (by decide)
  refine ⟨fun _ => ?_, fun q => absurd q (by decide)⟩
  refine D_state1 2 10 22 [0, 10, 20, 21, 22, 23, 24, 25, 26, 27, 28, 1, 2] [66, 67, 68, 69, 70, 71, 72, 73, 74, 45122, 45123, 45124, 45125, 45126, 45127, 45128, 45129, 45130, 49218, 49219, 49220] hc (by decide) (by decide) (by decide) (by decide +kernel) (by decide +kernel) (by decide +kernel) (by decide +kernel) (fun c hc => ?_)
  have ha : ansOK [0, 10, 20, 21, 22, 23, 24, 25, 26, 27, 28, 1, 2] [] 0 := ans_more ha (by decide)
  refine ⟨fun _ => ?_, fun q => absurd q (by decide)⟩
  refine D_state1 2 10 23 [0, 10, 20, 21, 22, 23, 24, 25, 26, 27, 28, 1, 2] [66, 67, 68, 69, 70, 71, 72, 73, 74, 45122, 45123, 45124, 45125, 45126, 45127, 45128, 45129, 45130, 49218, 49219, 49220, 49221] hc (by decide) (by decide) (by decide) (by decide +kernel) (by decide +kernel) (by decide +kernel) (by decide +kernel) (fun c hc => ?_)
  have ha : ansOK [0, 10, 20, 21, 22, 23, 24, 25, 26, 27, 28, 1, 2] [] 0 := ans_more ha (by decide)
  refine ⟨fun _ => ?_, fun q => absurd q (by decide)⟩
  refine D_state1 2 10 24 [0, 10, 20, 21, 22, 23, 24, 25, 26, 27, 28, 1, 2] [66, 67, 68, 69, 70, 71, 72, 73, 74, 45122, 45123, 45124, 45125, 45126, 45127, 45128, 45129, 45130, 49218, 49219, 49220, 49221, 49222] hc (by decide) (by decide) (by decide) (by decide +kernel) (by decide +kernel) (by decide +kernel) (by decide +kernel) (fun c hc => ?_)
  have ha : ansOK [0, 10, 20, 21, 22, 23, 24, 25, 26, 27, 28, 1, 2] [] 0 := ans_more ha (by decide)
  refine ⟨fun _ => ?_, fun q => absurd q (by decide)⟩
  refine D_state1 2 10 25 [0, 10, 20, 21, 22, 23, 24, 25, 26, 27, 28, 1, 2] [66, 67, 68, 69, 70, 71, 72, 73, 74, 45122, 45123, 45124, 45125, 45126, 45127, 45128, 45129, 45130, 49218, 49219, 49220, 49221, 49222, 49223] hc (by decide) (by decide) (by decide) (by decide +kernel) (by decide +kernel) (by decide +kernel) (by decide +kernel) (fun c hc => ?_)
  have ha : ansOK [0, 10, 20, 21, 22, 23, 24, 25, 26, 27, 28, 1, 2] [] 0 := ans_more ha (by decide)
  refine ⟨fun _ => ?_, fun q => absurd q (by decide)⟩
  refine D_state1 2 10 26 [0, 10, 20, 21, 22, 23, 24, 25, 26, 27, 28, 1, 2] [66, 67, 68, 69, 70, 71, 72, 73, 74, 45122, 45123, 45124, 45125, 45126, 45127, 45128, 45129, 45130, 49218, 49219, 49220, 49221, 49222, 49223, 49224] hc (by decide) (by decide) (by decide) (by decide +kernel) (by decide +kernel) (by decide +kernel) (by decide +kernel) (fun c hc => ?_)
  have ha : ansOK [0, 10, 20, 21, 22, 23, 24, 25, 26, 27, 28, 1, 2] [] 0 := ans_more ha (by decide)
  refine ⟨fun _ => ?_, fun q => absurd q (by decide)⟩
  exact pf_L_bounds_4 hc ha h
set_option maxHeartbeats 4000000 in
set_option maxRecDepth 100000 in
theorem pf_L_bounds_2 {c : TriS} {post : Int32 → Prop} (hc : cls [0, 10, 20, 21, 22, 23, 24, 25, 26, 27, 28, 1] [66, 67, 68, 69, 70, 71, 72, 73, 74, 45122, 45123] [pat3 100 10 101, pat3 102 10 103] [] 0 c) (ha : ansOK [0, 10, 20, 21, 22, 23, 24, 25, 26, 27, 28, 1] [] 0) (h : post (1 : Int32)) : P_L_bounds_2 c post := by
  refine D_state1 1 10 22 [0, 10, 20, 21, 22, 23, 24, 25, 26, 27, 28, 1] [66, 67, 68, 69, 70, 71, 72, 73, 74, 45122, 45123, 45124] hc (by decide) (by decide) (by decide) (by decide +kernel) (by decide +kernel) (by decide +kernel) (by decide +kernel) (fun c hc => ?_)
  have ha : ansOK [0, 10, 20, 21, 22, 23, 24, 25, 26, 27, 28, 1] [] 0 := ans_more ha (by decide)
  refine ⟨fun _ => ?_, fun q => absurd q (by decide)⟩
  refine D_state1 1 10 23 [0, 10, 20, 21, 22, 23, 24, 25, 26, 27, 28, 1] [66, 67, 68, 69, 70, 71, 72, 73, 74, 45122, 45123, 45124, 45125] hc (by decide) (by decide) (by decide) (by decide +kernel) (by decide +kernel) (by decide +kernel) (by decide +kernel) (fun c hc => ?_)
  have ha : ansOK [0, 10, 20, 21, 22, 23, 24, 25, 26, 27, 28, 1] [] 0 := ans_more ha (by decide)
  refine ⟨fun _ => ?_, fun q => absurd q (by decide)⟩
  refine D_state1 1 10 24 [0, 10, 20, 21, 22, 23, 24, 25, 26, 27, 28, 1] [66, 67, 68, 69, 70, 71, 72, 73, 74, 45122, 45123, 45124, 45125, 45126] hc (by decide) (by decide) (by decide) (by decide +kernel) (by decide +kernel) (by decide +kernel) (by decide +kernel) (fun c hc => ?_)
  have ha : ansOK [0, 10, 20, 21, 22, 23, 24, 25, 26, 27, 28, 1] [] 0 := ans_more ha (by decide)
  refine ⟨fun _ => ?_, fun q => absurd q (by decide)⟩
  refine D_state1 1 10 25 [0, 10, 20, 21, 22, 23, 24, 25, 26, 27, 28, 1] [66, 67, 68, 69, 70, 71, 72, 73, 74, 45122, 45123, 45124, 45125, 45126, 45127] hc (by decide) (by decide) (by decide) (by decide +kernel) (by decide +kernel) (by decide +kernel) (by decide +kernel) (fun c hc => ?_)
  have ha : ansOK [0, 10, 20, 21, 22, 23, 24, 25, 26, 27, 28, 1] [] 0 := ans_more ha (by decide)
  refine ⟨fun _ => ?_, fun q => absurd q (by decide)⟩
  refine D_state1 1 10 26 [0, 10, 20, 21, 22, 23, 24, 25, 26, 27, 28, 1] [66, 67, 68, 69, 70, 71, 72, 73, 74, 45122, 45123, 45124, 45125, 45126, 45127, 45128] hc (by decide) (by decide) (by decide) (by decide +kernel) (by decide +kernel) (by decide +kernel) (by decide +kernel) (fun c hc => ?_)
  have ha : ansOK [0, 10, 20, 21, 22, 23, 24, 25, 26, 27, 28, 1] [] 0 := ans_more ha (by decide)
  refine ⟨fun _ => ?_, fun q => absurd q (by decide)⟩
  refine D_state1 1 10 27 [0, 10, 20, 21, 22, 23, 24, 25, 26, 27, 28, 1] [66, 67, 68, 69, 70, 71, 72, 73, 74, 45122, 45123, 45124, 45125, 45126, 45127, 45128, 45129] hc (by decide) (by decide) (by decide) (by decide +kernel) (by decide +kernel) (by decide +kernel) (by decide +kernel) (fun c hc => ?_)
  have ha : ansOK [0, 10, 20, 21, 22, 23, 24, 25, 26, 27, 28, 1] [] 0 := ans_more ha (by decide)
  refine ⟨fun _ => ?_, fun q => absurd q (by decide)⟩
  refine D_state1 1 10 28 [0, 10, 20, 21, 22, 23, 24, 25, 26, 27, 28, 1] [66, 67, 68, 69, 70, 71, 72, 73, 74, 45122, 45123, 45124, 45125, 45126, 45127, 45128, 45129, 45130] hc (by decide) (by decide) (by decide) (by decide +kernel) (by decide +kernel) (by decide +kernel) (by decide +kernel) (fun c hc => ?_)
  have ha : ansOK [0, 10, 20, 21, 22, 23, 24, 25, 26, 27, 28, 1] [] 0 := ans_more ha (by decide)
  refine ⟨fun _ => ?_, fun q => absurd q (by decide)⟩
  exact pf_L_bounds_3 hc ha h
set_option maxHeartbeats 4000000 in
set_option maxRecDepth 100000 in
theorem pf_L_bounds_1 {c : TriS} {post : Int32 → Prop} (hc : cls [0, 10, 20, 21, 22, 23] [66, 67, 68, 69] [pat3 100 10 101, pat3 102 10 103] [] 0 c) (ha : ansOK [0, 10, 20, 21, 22, 23] [] 0) (h : post (1 : Int32)) : P_L_bounds_1 c post := by
  refine D_state1 0 10 24 [0, 10, 20, 21, 22, 23, 24] [66, 67, 68, 69, 70] hc (by decide) (by decide) (by decide) (by decide +kernel) (by decide +kernel) (by decide +kernel) (by decide +kernel) (fun c hc => ?_)
  have ha : ansOK [0, 10, 20, 21, 22, 23, 24] [] 0 := ans_more ha (by decide)
  refine ⟨fun _ => ?_, fun q => absurd q (by decide)⟩
  refine D_state1 0 10 25 [0, 10, 20, 21, 22, 23, 24, 25] [66, 67, 68, 69, 70, 71] hc (by decide) (by decide) (by decide) (by decide +kernel) (by decide +kernel) (by decide +kernel) (by decide +kernel) (fun c hc => ?_)
  have ha : ansOK [0, 10, 20, 21, 22, 23, 24, 25] [] 0 := ans_more ha (by decide)
  refine ⟨fun _ => ?_, fun q => absurd q (by decide)⟩
  refine D_state1 0 10 26 [0, 10, 20, 21, 22, 23, 24, 25, 26] [66, 67, 68, 69, 70, 71, 72] hc (by decide) (by decide) (by decide) (by decide +kernel) (by decide +kernel) (by decide +kernel) (by decide +kernel) (fun c hc => ?_)
  have ha : ansOK [0, 10, 20, 21, 22, 23, 24, 25, 26] [] 0 := ans_more ha (by decide)
  refine ⟨fun _ => ?_, fun q => absurd q (by decide)⟩
  refine D_state1 0 10 27 [0, 10, 20, 21, 22, 23, 24, 25, 26, 27] [66, 67, 68, 69, 70, 71, 72, 73] hc (by decide) (by decide) (by decide) (by decide +kernel) (by decide +kernel) (by decide +kernel) (by decide +kernel) (fun c hc => ?_)
  have ha : ansOK [0, 10, 20, 21, 22, 23, 24, 25, 26, 27] [] 0 := ans_more ha (by decide)
  refine ⟨fun _ => ?_, fun q => absurd q (by decide)⟩
  refine D_state1 0 10 28 [0, 10, 20, 21, 22, 23, 24, 25, 26, 27, 28] [66, 67, 68, 69, 70, 71, 72, 73, 74] hc (by decide) (by decide) (by decide) (by decide +kernel) (by decide +kernel) (by decide +kernel) (by decide +kernel) (fun c hc => ?_)
  have ha : ansOK [0, 10, 20, 21, 22, 23, 24, 25, 26, 27, 28] [] 0 := ans_more ha (by decide)
  refine ⟨fun _ => ?_, fun q => absurd q (by decide)⟩
  refine D_state1 1 10 20 [0, 10, 20, 21, 22, 23, 24, 25, 26, 27, 28, 1] [66, 67, 68, 69, 70, 71, 72, 73, 74, 45122] hc (by decide) (by decide) (by decide) (by decide +kernel) (by decide +kernel) (by decide +kernel) (by decide +kernel) (fun c hc => ?_)
  have ha : ansOK [0, 10, 20, 21, 22, 23, 24, 25, 26, 27, 28, 1] [] 0 := ans_more ha (by decide)
  refine ⟨fun _ => ?_, fun q => absurd q (by decide)⟩
  refine D_state1 1 10 21 [0, 10, 20, 21, 22, 23, 24, 25, 26, 27, 28, 1] [66, 67, 68, 69, 70, 71, 72, 73, 74, 45122, 45123] hc (by decide) (by decide) (by decide) (by decide +kernel) (by decide +kernel) (by decide +kernel) (by decide +kernel) (fun c hc => ?_)
  have ha : ansOK [0, 10, 20, 21, 22, 23, 24, 25, 26, 27, 28, 1] [] 0 := ans_more ha (by decide)
  refine ⟨fun _ => ?_, fun q => absurd q (by decide)⟩
  exact pf_L_bounds_2 hc ha h
set_option maxHeartbeats 4000000 in
set_option maxRecDepth 100000 in
theorem pf_L_bounds {post : Int32 → Prop} (h : post (1 : Int32)) : P_L_bounds post := by
  refine C_init (fun c hc => ?_)
  have ha := ansOK0 []
  refine D_add 100 10 101 0 [pat3 100 10 101] hc (by decide) (by decide) (by decide) (by decide) (by decide) (by decide) (by decide) rfl rfl (fun c hc => ?_)
  refine ⟨fun q => absurd q (by decide), fun _ => ?_⟩
  refine D_add 102 10 103 1 [pat3 100 10 101, pat3 102 10 103] hc (by decide) (by decide) (by decide) (by decide) (by decide) (by decide) (by decide) rfl rfl (fun c hc => ?_)
  refine ⟨fun _ => ?_, fun q => absurd q (by decide)⟩
  refine D_state1 0 10 20 [0, 10, 20] [66] hc (by decide) (by decide) (by decide) (by decide +kernel) (by decide +kernel) (by decide +kernel) (by decide +kernel) (fun c hc => ?_)
  have ha : ansOK [0, 10, 20] [] 0 := ans_more ha (by decide)
  refine ⟨fun _ => ?_, fun q => absurd q (by decide)⟩
  refine D_state1 0 10 21 [0, 10, 20, 21] [66, 67] hc (by decide) (by decide) (by decide) (by decide +kernel) (by decide +kernel) (by decide +kernel) (by decide +kernel) (fun c hc => ?_)
  have ha : ansOK [0, 10, 20, 21] [] 0 := ans_more ha (by decide)
  refine ⟨fun _ => ?_, fun q => absurd q (by decide)⟩
  refine D_state1 0 10 22 [0, 10, 20, 21, 22] [66, 67, 68] hc (by decide) (by decide) (by decide) (by decide +kernel) (by decide +kernel) (by decide +kernel) (by decide +kernel) (fun c hc => ?_)
  have ha : ansOK [0, 10, 20, 21, 22] [] 0 := ans_more ha (by decide)
  refine ⟨fun _ => ?_, fun q => absurd q (by decide)⟩
  refine D_state1 0 10 23 [0, 10, 20, 21, 22, 23] [66, 67, 68, 69] hc (by decide) (by decide) (by decide) (by decide +kernel) (by decide +kernel) (by decide +kernel) (by decide +kernel) (fun c hc => ?_)
  have ha : ansOK [0, 10, 20, 21, 22, 23] [] 0 := ans_more ha (by decide)
  refine ⟨fun _ => ?_, fun q => absurd q (by decide)⟩
  exact pf_L_bounds_1 hc ha h
