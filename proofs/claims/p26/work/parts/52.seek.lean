/-! PURE SIDE 23: the class's seek -/
theorem fld_lt {i x : Nat} (hx : x < 64) : fld i x < 262144 := by
  unfold fld
  split
  · exact enc_lt hx (by omega) (by omega)
  · split
    · exact enc_lt (by omega) hx (by omega)
    · exact enc_lt (by omega) (by omega) hx
theorem C_seek {T M : List Nat} {Q : List Pt3} {A : List Nat} {kv : Nat} {c : TriS} {x y : Int32} {post : Int32 → Prop} {postX : Nat → Prop} (hc : cls T M Q A kv c) (h0 : ¬ (isN 3 x ∧ isT y) → postX 1) (h1 : ∀ o a, o < 3 → a < 100 → x = nI o → y = nI a → a ∉ T → postX 2) (h2 : ∀ o a K, o < 3 → a < 100 → x = nI o → y = nI a → a ∈ T → SL K → K.Perm (keysOf M o) → post (nI (rk K (rol (fld o (T.idxOf a)) o)))) : P_X7_seek c x y post postX := by
  obtain ⟨a1, a2, a3, -⟩ := hc
  refine S_isOrder (fun hx => ⟨fun _ => S_isTerm (fun hy => ⟨fun _ => ?_, fun e => absurd e (by decide)⟩) (fun ny => ⟨fun e => absurd rfl e, fun _ => h0 (fun g => ny g.2)⟩), fun e => absurd e (by decide)⟩) (fun nx => ⟨fun e => absurd rfl e, fun _ => h0 (fun g => nx g.1)⟩)
  obtain ⟨o, ho, ex⟩ := hx
  obtain ⟨a, ha, ey⟩ := hy
  obtain ⟨K, hK, hpm⟩ := a2.2.2 o ho
  have g1 := h1 o a ho ha ex ey
  have g2 := fun q => h2 o a K ho ha ex ey q hK.2.2.1 hpm
  subst ex ey
  refine S_knows a1 ha ?_
  by_cases q : a ∈ T
  · rw [if_pos q]
    refine ⟨fun _ => S_number a1 ha (S_partShift (by omega) ?_), fun e => absurd e (by decide)⟩
    have hn : num T a = T.idxOf a := by unfold num; rw [if_pos q]
    have h64 := num_lt a1.2.1 a
    rw [q_fld ho, hn]
    rw [hn] at h64
    exact S_sbegin hK ho (fld_lt h64) (g2 q)
  · rw [if_neg q]
    exact ⟨fun e => absurd rfl e, fun _ => g1 q⟩
