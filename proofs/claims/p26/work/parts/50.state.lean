/-! PURE SIDE 21: the class's calls: state, takeBack -/
def isT (x : Int32) : Prop := ∃ n, n < 100 ∧ x = nI n
theorem S_isTerm {x : Int32} {post : Int32 → Prop} (h1 : isT x → post 1) (h0 : ¬ isT x → post 0) : P_X7_isTerm x post := by
  refine ⟨fun c => h0 (fun ⟨n, hn, e⟩ => absurd c (by rw [e]; exact nI_pos (by omega))), fun c => ⟨fun c2 => h0 (fun ⟨n, hn, e⟩ => ?_), fun c2 => h1 ?_⟩⟩
  · rw [e] at c2
    have := (nI_leI (a := 100) (by omega) (by omega)).mp c2
    omega
  · rcases n_of x with y | ⟨n, hn, e⟩
    · exact absurd y c
    · refine ⟨n, ?_, e⟩
      rcases Nat.lt_or_ge n 100 with z | z
      · exact z
      · rw [e] at c2; exact absurd (n_le z hn) c2
theorem num_in {T : List Nat} {t : Nat} (h : t ∈ T) : num T t < T.length := by
  unfold num
  rw [if_pos h]; exact List.idxOf_lt_length_of_mem h
theorem parts_more {T T' M : List Nat} (h : partsOK T M) (hl : T.length ≤ T'.length) : partsOK T' M := fun t ht p hp => Nat.lt_of_lt_of_le (h t ht p hp) hl
theorem lrn_le (T : List Nat) (t : Nat) : T.length ≤ (lrn T t).length := by rw [lrn_len]; omega
theorem lrn_in (T : List Nat) (t : Nat) : t ∈ lrn T t := (lrn_mem T t t).mpr (Or.inr rfl)
/-- the terms behind a statement -/
def lrn3 (T : List Nat) (a b d : Nat) : List Nat := lrn (lrn (lrn T a) b) d
theorem C_state {T M : List Nat} {Q : List Pt3} {A : List Nat} {kv : Nat} {c : TriS} {x y z : Int32} {post : Int32 → TriS → Prop} {postX : Nat → TriS → Prop} (hc : cls T M Q A kv c)
    (h0 : ¬ (isT x ∧ isT y ∧ isT z) → postX 1 c)
    (h1 : ∀ a b d, a < 100 → b < 100 → d < 100 → x = nI a → y = nI b → z = nI d → enc (num T a) (num T b) (num T d) ∈ M → post 0 c)
    (h2 : ∀ a b d, a < 100 → b < 100 → d < 100 → x = nI a → y = nI b → z = nI d → enc (num T a) (num T b) (num T d) ∉ M → 60 ≤ M.length ∨ 40 < T.length + unk T a b d → postX 2 c)
    (h3 : ∀ a b d, a < 100 → b < 100 → d < 100 → x = nI a → y = nI b → z = nI d → enc (num T a) (num T b) (num T d) ∉ M → M.length < 60 → T.length + unk T a b d ≤ 40 → ∀ c', cls (lrn3 T a b d) (M ++ [enc (num (lrn3 T a b d) a) (num (lrn3 T a b d) b) (num (lrn3 T a b d) d)]) Q A kv c' → post 1 c') :
    P_X7_state c x y z post postX := by
  obtain ⟨a1, a2, a3, a4, a5, a6, a7, a8⟩ := id hc
  refine S_isTerm (fun tx => ⟨fun e => absurd e (by decide), fun _ => S_isTerm (fun ty => ⟨fun e => absurd e (by decide), fun _ => S_isTerm (fun tz => ⟨fun _ => ?_, fun e => absurd e (by decide)⟩) (fun nz => ⟨fun e => absurd rfl e, fun _ => h0 (fun g => nz g.2.2)⟩)⟩) (fun ny => ⟨fun _ => h0 (fun g => ny g.2.1), fun e => absurd rfl e⟩)⟩) (fun nx => ⟨fun _ => h0 (fun g => nx g.1), fun e => absurd rfl e⟩)
  obtain ⟨a, ha, ex⟩ := tx
  obtain ⟨b, hb, ey⟩ := ty
  obtain ⟨d, hd, ez⟩ := tz
  have g1 := h1 a b d ha hb hd ex ey ez
  have g2 := h2 a b d ha hb hd ex ey ez
  have g3 := h3 a b d ha hb hd ex ey ez
  subst ex ey ez
  have n64 := fun t => num_lt a1.2.1 t
  refine S_pack (fun q hq => S_number a1 ha hq) (fun q hq => S_number a1 hb hq) (fun q hq => S_number a1 hd hq) (n64 b) (n64 d) ?_
  refine S_sholds a2 (enc_lt (n64 a) (n64 b) (n64 d)) ⟨fun e => ?_, fun e => ?_⟩
  · have hni : enc (num T a) (num T b) (num T d) ∉ M := by
      intro hm; rw [if_pos hm] at e; exact absurd e (by decide)
    refine S_ssize a2 ⟨fun c1 => ?_, fun c1 => g2 hni (Or.inl ?_)⟩
    · have hl : M.length < 60 := (nI_ltI (b := 60) (by have := sto_len a2; omega) (by omega)).mp c1
      have hu3 : unk T a b d ≤ 3 := by unfold unk; split <;> split <;> split <;> omega
      refine S_sizeWith a1 ha hb hd ⟨fun c2 => ?_, fun c2 => g2 hni (Or.inr ?_)⟩
      · have hle : T.length + unk T a b d ≤ 40 := (nI_leI (b := 40) (by have := a1.2.1; omega) (by omega)).mp c2
        have hl3 := unk_len T a b d
        have l1 := lrn_le (lrn (lrn T a) b) d
        have l2 := lrn_le (lrn T a) b
        have l0 := lrn_le T a
        refine S_learn a1 ha (by omega) (fun d1 hd1 => S_learn hd1 hb (by omega) (fun d2 hd2 => S_learn hd2 hd (by omega) (fun d3 hd3 => ?_)))
        have hin_d : d ∈ lrn3 T a b d := lrn_in _ _
        have hin_b : b ∈ lrn3 T a b d := (lrn_mem _ _ _).mpr (Or.inl (lrn_in _ _))
        have hin_a : a ∈ lrn3 T a b d := (lrn_mem _ _ _).mpr (Or.inl ((lrn_mem _ _ _).mpr (Or.inl (lrn_in _ _))))
        have hd3 : dicOK (lrn3 T a b d) d3 := hd3
        have hlen3 : (lrn3 T a b d).length = T.length + unk T a b d := hl3
        have hTle : T.length ≤ (lrn3 T a b d).length := by omega
        have m64 := fun t => num_lt hd3.2.1 t
        refine S_pack (fun q hq => S_number hd3 ha hq) (fun q hq => S_number hd3 hb hq) (fun q hq => S_number hd3 hd hq) (m64 b) (m64 d) ?_
        have na := num_in hin_a
        have nb := num_in hin_b
        have nd := num_in hin_d
        have hpe := part_enc (m64 a) (m64 b) (m64 d)
        have hnew : enc (num (lrn3 T a b d) a) (num (lrn3 T a b d) b) (num (lrn3 T a b d) d) ∉ M := by
          intro hm
          have old : ∀ t, num (lrn3 T a b d) t < T.length → num T t = num (lrn3 T a b d) t := by
            intro t ht
            have key : ∀ (S : List Nat) (u : Nat), S.length ≤ 40 → num (lrn S u) t < S.length → num S t = num (lrn S u) t := by
              intro S u hS40 h
              unfold lrn at h ⊢
              by_cases hu : u ∈ S
              · rw [if_pos hu]
              · rw [if_neg hu] at h ⊢
                by_cases htS : t ∈ S
                · unfold num
                  rw [if_pos htS, if_pos (List.mem_append_left _ htS), idxOf_app htS]
                · exfalso
                  unfold num at h
                  by_cases hta : t ∈ S ++ [u]
                  · rw [if_pos hta] at h
                    have htu : t = u := by
                      rcases List.mem_append.mp hta with z | z
                      · exact absurd z htS
                      · exact List.mem_singleton.mp z
                    subst htu
                    rw [idxOf_new htS] at h; omega
                  · rw [if_neg hta] at h
                    omega
            have k3 := key (lrn (lrn T a) b) d (by omega) (show num (lrn3 T a b d) t < _ by omega)
            have k3 : num (lrn (lrn T a) b) t = num (lrn3 T a b d) t := k3
            have k2 := key (lrn T a) b (by omega) (by rw [k3]; omega)
            have k1 := key T a (by omega) (by rw [k2, k3]; exact ht)
            rw [k1, k2, k3]
          have p0 := a3 _ hm 0 (by omega)
          have p1 := a3 _ hm 1 (by omega)
          have p2 := a3 _ hm 2 (by omega)
          rw [hpe.1] at p0
          rw [hpe.2.1] at p1
          rw [hpe.2.2] at p2
          rw [old a p0, old b p1, old d p2] at hni
          exact hni hm
        refine S_sinsert a2 (enc_lt (m64 a) (m64 b) (m64 d)) hnew hl (fun s' hs' => ?_)
        refine g3 hni hl hle _ ⟨hd3, stoOK_perm hs' (List.perm_append_singleton _ _), ?_, a4, a5, a6, a7, a8⟩
        intro t ht p hp
        rcases List.mem_append.mp ht with ht | ht
        · exact Nat.lt_of_lt_of_le (a3 t ht p hp) hTle
        · rw [List.mem_singleton.mp ht]
          rcases (show p = 0 ∨ p = 1 ∨ p = 2 by omega) with rfl | rfl | rfl
          · rw [hpe.1]; exact na
          · rw [hpe.2.1]; exact nb
          · rw [hpe.2.2]; exact nd
      · rcases Nat.lt_or_ge 40 (T.length + unk T a b d) with z | z
        · exact z
        · exact absurd (n_le (b := 40) z (by omega)) c2
    · rcases Nat.lt_or_ge M.length 60 with z | z
      · exact absurd (n_lt (b := 60) z (by omega)) c1
      · exact z
  · have hin : enc (num T a) (num T b) (num T d) ∈ M := by
      rcases Classical.em (enc (num T a) (num T b) (num T d) ∈ M) with hm | hm
      · exact hm
      · rw [if_neg hm] at e; exact absurd rfl e
    exact g1 hin
theorem C_takeBack {T M : List Nat} {Q : List Pt3} {A : List Nat} {kv : Nat} {c : TriS} {x y z : Int32} {post : Int32 → TriS → Prop} {postX : Nat → TriS → Prop} (hc : cls T M Q A kv c)
    (h0 : ¬ (isT x ∧ isT y ∧ isT z) → postX 1 c)
    (h1 : ∀ a b d, a < 100 → b < 100 → d < 100 → x = nI a → y = nI b → z = nI d → enc (num T a) (num T b) (num T d) ∉ M → post 0 c)
    (h3 : ∀ a b d, a < 100 → b < 100 → d < 100 → x = nI a → y = nI b → z = nI d → enc (num T a) (num T b) (num T d) ∈ M → ∀ M' c', M'.Perm (M.erase (enc (num T a) (num T b) (num T d))) → cls T M' Q A kv c' → post 1 c') :
    P_X7_takeBack c x y z post postX := by
  obtain ⟨a1, a2, a3, a4, a5, a6, a7, a8⟩ := id hc
  refine S_isTerm (fun tx => ⟨fun e => absurd e (by decide), fun _ => S_isTerm (fun ty => ⟨fun e => absurd e (by decide), fun _ => S_isTerm (fun tz => ⟨fun _ => ?_, fun e => absurd e (by decide)⟩) (fun nz => ⟨fun e => absurd rfl e, fun _ => h0 (fun g => nz g.2.2)⟩)⟩) (fun ny => ⟨fun _ => h0 (fun g => ny g.2.1), fun e => absurd rfl e⟩)⟩) (fun nx => ⟨fun _ => h0 (fun g => nx g.1), fun e => absurd rfl e⟩)
  obtain ⟨a, ha, ex⟩ := tx
  obtain ⟨b, hb, ey⟩ := ty
  obtain ⟨d, hd, ez⟩ := tz
  have g1 := h1 a b d ha hb hd ex ey ez
  have g3 := h3 a b d ha hb hd ex ey ez
  subst ex ey ez
  have n64 := fun t => num_lt a1.2.1 t
  refine S_pack (fun q hq => S_number a1 ha hq) (fun q hq => S_number a1 hb hq) (fun q hq => S_number a1 hd hq) (n64 b) (n64 d) ?_
  refine S_sholds a2 (enc_lt (n64 a) (n64 b) (n64 d)) ⟨fun e => ?_, fun e => ?_⟩
  · have hin : enc (num T a) (num T b) (num T d) ∈ M := by
      rcases Classical.em (enc (num T a) (num T b) (num T d) ∈ M) with hm | hm
      · exact hm
      · rw [if_neg hm] at e; exact absurd rfl e
    refine S_sremove a2 hin (fun s' hs' => ?_)
    exact g3 hin _ _ (List.Perm.refl _) ⟨a1, hs', fun t ht => a3 t (List.mem_of_mem_erase ht), a4, a5, a6, a7, a8⟩
  · have hni : enc (num T a) (num T b) (num T d) ∉ M := by
      intro hm; rw [if_pos hm] at e; exact absurd e (by decide)
    exact g1 hni
theorem cls_perm {T M M' : List Nat} {Q : List Pt3} {A : List Nat} {kv : Nat} {c : TriS} (h : cls T M Q A kv c) (hp : M'.Perm M) : cls T M' Q A kv c := by
  obtain ⟨a1, a2, a3, a4⟩ := h
  exact ⟨a1, stoOK_perm a2 hp, fun t ht => a3 t (hp.mem_iff.mp ht), a4⟩
