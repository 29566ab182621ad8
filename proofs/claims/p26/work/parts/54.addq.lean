/-! PURE SIDE 25: the class's addPattern, its end -/
theorem C_addPattern {T M : List Nat} {Q : List Pt3} {A : List Nat} {kv : Nat} {c : TriS} {x y z : Int32} {post : Int32 → TriS → Prop} {postX : Nat → TriS → Prop} (hc : cls T M Q A kv c)
    (h0 : ¬ (isV4 x ∧ isV4 y ∧ isV4 z) → postX 1 c)
    (h1 : isV4 x → isV4 y → isV4 z → Q.length = 3 → postX 2 c)
    (h2 : ∀ a b d, a < 104 → b < 104 → d < 104 → x = toldI a → y = toldI b → z = toldI d → Q.length < 3 → ∀ c', cls T M (Q ++ [pat3 a b d]) A kv c' → post (nI Q.length) c') :
    P_X7_addPattern c x y z post postX := by
  obtain ⟨a1, a2, a3, a4, a5⟩ := id hc
  obtain ⟨z1, z2, z3⟩ := id a4
  refine S_isTermOrVariable (fun tx => ⟨fun e => absurd e (by decide), fun _ => S_isTermOrVariable (fun ty => ⟨fun e => absurd e (by decide), fun _ => S_isTermOrVariable (fun tz => ⟨fun _ => ?_, fun e => absurd e (by decide)⟩) (fun nz => ⟨fun e => absurd rfl e, fun _ => h0 (fun g => nz g.2.2)⟩)⟩) (fun ny => ⟨fun _ => h0 (fun g => ny g.2.1), fun e => absurd rfl e⟩)⟩) (fun nx => ⟨fun _ => h0 (fun g => nx g.1), fun e => absurd rfl e⟩)
  have g1 := h1 tx ty tz
  obtain ⟨a, ha, ex⟩ := tx
  obtain ⟨b, hb, ey⟩ := ty
  obtain ⟨d, hd, ez⟩ := tz
  have g2 := h2 a b d ha hb hd ex ey ez
  subst ex ey ez
  refine ⟨fun c1 => ?_, fun c1 => g1 ?_⟩
  · have c1 : c.query.size < (3 : Int32) := c1
    rw [z2] at c1
    have hl : Q.length < 3 := (nI_ltI (b := 3) (by omega) (by omega)).mp c1
    have fin : ∀ p', patOK (pat3 a b d) p' → ∀ q', q' = setP c.query Q.length p' → queOK (Q ++ [pat3 a b d]) (q'.first, q'.second, q'.third, q'.size + (1 : Int32)) := by
      intro p' hp' q' e
      subst e
      refine ⟨by simp; omega, ?_, fun i hi => ?_⟩
      · show (setP c.query Q.length p').size + (1 : Int32) = _
        rw [setP_size, z2, nI_1]; simp
      · show patOK _ (selP (setP c.query Q.length p') i)
        rw [List.length_append, List.length_singleton] at hi
        by_cases e : i = Q.length
        · subst e
          rw [selP_set hl]
          simpa using hp'
        · rw [selP_set_ne hl (by omega) e, List.getElem_append_left (by omega)]
          exact z3 i (by omega)
    have go : ∀ p' q', patOK (pat3 a b d) p' → q' = setP c.query Q.length p' → post c.query.size (c.dictionary, c.store, (q'.first, q'.second, q'.third, q'.size + (1 : Int32)), c.joins, c.kept, c.keptSize, c.keptVariables) := by
      intro p' q' hp' e
      rw [z2]
      exact g2 hl _ ⟨a1, a2, a3, fin p' hp' q' e, a5⟩
    show P_X3_pattern c.query c.query.size _
    clear fin g1 g2 z3 h0 h1 h2 hc a4 c1
    generalize Q.length = n at *
    rw [show c.query.size = nI n from z2] at go ⊢
    refine S_pattern hl ⟨fun e => ?_, fun e => ?_, fun e => ?_⟩
    · subst e; exact S_tell ha hb hd (fun p' hp' => by have g := go p' _ hp' rfl; rw [setP_size, z2] at g; exact g)
    · subst e; exact S_tell ha hb hd (fun p' hp' => by have g := go p' _ hp' rfl; rw [setP_size, z2] at g; exact g)
    · subst e; exact S_tell ha hb hd (fun p' hp' => by have g := go p' _ hp' rfl; rw [setP_size, z2] at g; exact g)
  · have c1 : ¬ c.query.size < (3 : Int32) := c1
    rw [z2] at c1
    rcases Nat.lt_or_ge Q.length 3 with w | w
    · exact absurd (n_lt (b := 3) w (by omega)) c1
    · omega
