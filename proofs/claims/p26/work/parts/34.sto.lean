/-! PURE SIDE 5: the store: M, the triples (each packed in 18 bits) in the model's order; three sorted orders -/
def sel (s : StoS) (o : Nat) : SorS := if o = 1 then s.byPredicate else if o = 2 then s.byObject else s.bySubject
def keysOf (M : List Nat) (o : Nat) : List Nat := M.map (fun t => rol t o)
def stoOK (M : List Nat) (s : StoS) : Prop := M.Nodup ∧ (∀ t ∈ M, t < 262144) ∧ ∀ o, o < 3 → ∃ K, sorOK K (sel s o) ∧ K.Perm (keysOf M o)
theorem rol_0 (t : Nat) : rol t 0 = t := rfl
theorem rol_rol {t o : Nat} (ht : t < 262144) (ho : o < 3) : rol (rol t o) ((3 - o) % 3) = t := by
  unfold rol
  rcases (show o = 0 ∨ o = 1 ∨ o = 2 by omega) with rfl | rfl | rfl <;> simp only [Nat.reduceSub, Nat.reduceMod, Nat.reduceEqDiff, if_true, if_false] <;> omega
theorem rol_inj {t u o : Nat} (ht : t < 262144) (hu : u < 262144) (ho : o < 3) (h : rol t o = rol u o) : t = u := by
  have h1 := rol_rol ht ho
  have h2 := rol_rol hu ho
  rw [h] at h1
  omega
theorem sto_len {M : List Nat} {s : StoS} (h : stoOK M s) : M.length ≤ 60 := by
  obtain ⟨-, -, h3⟩ := h
  obtain ⟨K, hK, hp⟩ := h3 0 (by omega)
  have := hp.length_eq
  unfold keysOf at this
  rw [List.length_map] at this
  have := hK.2.1
  omega
theorem stoOK_perm {M M' : List Nat} {s : StoS} (h : stoOK M s) (hp : M'.Perm M) : stoOK M' s := by
  obtain ⟨h1, h2, h3⟩ := h
  refine ⟨hp.symm.nodup h1, fun t ht => h2 t (hp.mem_iff.mp ht), fun o ho => ?_⟩
  obtain ⟨K, hK, hq⟩ := h3 o ho
  exact ⟨K, hK, hq.trans (hp.symm.map _)⟩
theorem sto_key {M : List Nat} {s : StoS} (h : stoOK M s) {o : Nat} (ho : o < 3) {K : List Nat} (hp : K.Perm (keysOf M o)) {t : Nat} (ht : t < 262144) : rol t o ∈ K ↔ t ∈ M := by
  rw [hp.mem_iff]
  unfold keysOf
  rw [List.mem_map]
  constructor
  · rintro ⟨u, hu, e⟩
    rw [← rol_inj (h.2.1 u hu) ht ho e]; exact hu
  · intro hm
    exact ⟨t, hm, rfl⟩
theorem S_in {s : StoS} {o : Nat} {post : Nat → Prop} (ho : o < 3) (h : post o) : P_X5_in s (nI o) post := by
  rcases (show o = 0 ∨ o = 1 ∨ o = 2 by omega) with rfl | rfl | rfl
  · exact ⟨fun _ => ⟨fun _ => h, fun c => absurd c (by decide)⟩, fun c => absurd c (by decide)⟩
  · exact ⟨fun c => absurd rfl c, fun _ => h⟩
  · exact ⟨fun _ => ⟨fun c => absurd rfl c, fun _ => h⟩, fun c => absurd c (by decide)⟩
theorem S_sholds {M : List Nat} {s : StoS} {t : Nat} {post : Int32 → Prop} (hs : stoOK M s) (ht : t < 262144) (h : post (if t ∈ M then 1 else 0)) : P_X5_holds s (nI t) post := by
  obtain ⟨K, hK, hp⟩ := hs.2.2 0 (by omega)
  refine S_holds hK (by omega) ?_
  have hm := sto_key hs (o := 0) (by omega) hp ht
  rw [rol_0] at hm
  by_cases q : t ∈ M
  · rw [if_pos (hm.mpr q)]
    rw [if_pos q] at h
    exact ⟨bo1, h⟩
  · rw [if_neg (fun z => q (hm.mp z))]
    rw [if_neg q] at h
    exact ⟨bo0, h⟩
theorem S_ssize {M : List Nat} {s : StoS} {post : Int32 → Prop} (hs : stoOK M s) (h : post (nI M.length)) : P_X5_size s post := by
  obtain ⟨K, hK, hp⟩ := hs.2.2 0 (by omega)
  have e := hp.length_eq
  unfold keysOf at e
  rw [List.length_map] at e
  show post s.bySubject.size
  have h1 : s.bySubject.size = nI K.length := hK.1
  rw [h1, e]; exact h
/-- one order of a store set anew -/
def setO (s : StoS) (o : Nat) (x : SorS) : StoS := if o = 1 then (s.bySubject, x, s.byObject) else if o = 2 then (s.bySubject, s.byPredicate, x) else (x, s.byPredicate, s.byObject)
theorem sel_set {s : StoS} {o : Nat} {x : SorS} (ho : o < 3) : sel (setO s o x) o = x := by
  rcases (show o = 0 ∨ o = 1 ∨ o = 2 by omega) with rfl | rfl | rfl <;> rfl
theorem sel_set_ne {s : StoS} {o q : Nat} {x : SorS} (ho : o < 3) (hq : q < 3) (hne : q ≠ o) : sel (setO s o x) q = sel s q := by
  rcases (show o = 0 ∨ o = 1 ∨ o = 2 by omega) with rfl | rfl | rfl <;> rcases (show q = 0 ∨ q = 1 ∨ q = 2 by omega) with rfl | rfl | rfl <;> first | rfl | exact absurd rfl hne
theorem S_sinsert {M : List Nat} {s : StoS} {t : Nat} {post : StoS → Prop} (hs : stoOK M s) (ht : t < 262144) (hq : t ∉ M) (hl : M.length < 60) (h : ∀ s', stoOK (t :: M) s' → post s') : P_X5_insert s (nI t) post := by
  refine wl (fun w => ∃ (o : Nat) (z : StoS), w = (nI o, z) ∧ o ≤ 3 ∧ (∀ q, q < o → ∃ K, sorOK K (sel z q) ∧ K.Perm (keysOf (t :: M) q)) ∧ (∀ q, o ≤ q → q < 3 → ∃ K, sorOK K (sel z q) ∧ K.Perm (keysOf M q))) (fun w => 3 - w.1.toNatClampNeg) ⟨0, s, rfl, by omega, fun q c => by omega, fun q _ c => hs.2.2 q c⟩ ?_
  rintro v ⟨o, z, rfl, a1, a2, a3⟩ Kt hKt
  refine ⟨fun c => ?_, fun c => ?_⟩
  · have : 3 ≤ o := (nI_leI (a := 3) (by omega) (by omega)).mp c
    refine h z ⟨List.nodup_cons.mpr ⟨hq, hs.1⟩, ?_, fun q c2 => a2 q (by omega)⟩
    intro u hu
    rcases List.mem_cons.mp hu with rfl | hu
    · exact ht
    · exact hs.2.1 u hu
  · have ho : o < 3 := by
      rcases Nat.lt_or_ge o 3 with q | q
      · exact q
      · exact absurd (n_le q (by omega)) c
    obtain ⟨K, hK, hp⟩ := a3 o (Nat.le_refl _) ho
    have hkl : K.length = M.length := by
      have e := hp.length_eq
      unfold keysOf at e
      rwa [List.length_map] at e
    have hkn : rol t o ∉ K := fun zz => hq ((sto_key hs ho hp ht).mp zz)
    have fin : ∀ s', sorOK (ins K (rol t o)) s' → Kt (nI o + (1 : Int32), setO z o s') := by
      intro s' hs'
      rw [nI_1]
      refine hKt _ ⟨o + 1, _, rfl, by omega, ?_, ?_⟩ ?_
      · intro q hq2
        by_cases e : q = o
        · subst e
          rw [sel_set ho]
          exact ⟨_, hs', (ins_perm K _).trans (hp.cons _)⟩
        · rw [sel_set_ne ho (by omega) e]
          exact a2 q (by omega)
      · intro q hq2 hq3
        rw [sel_set_ne ho hq3 (by omega)]
        exact a3 q (by omega) hq3
      · show 3 - (nI (o + 1)).toNatClampNeg < 3 - (nI o).toNatClampNeg
        rw [n_cl (by omega), n_cl (by omega)]; omega
    refine S_in ho ⟨fun e => ?_, fun e => ?_, fun e => ?_⟩ <;> subst e <;> exact S_rolled ht (by omega) (S_insert hK (rol_lt ht) hkn (by omega) fin)
theorem S_sremove {M : List Nat} {s : StoS} {t : Nat} {post : StoS → Prop} (hs : stoOK M s) (hq : t ∈ M) (h : ∀ s', stoOK (M.erase t) s' → post s') : P_X5_remove s (nI t) post := by
  have ht := hs.2.1 t hq
  have hmap : ∀ q, q < 3 → (keysOf M q).erase (rol t q) = keysOf (M.erase t) q ∨ ((keysOf M q).erase (rol t q)).Perm (keysOf (M.erase t) q) := by
    intro q hq3
    right
    have h1 : M.Perm (t :: M.erase t) := List.perm_cons_erase hq
    have h2 : (keysOf M q).Perm (rol t q :: keysOf (M.erase t) q) := h1.map _
    have h3 := h2.erase (rol t q)
    rwa [List.erase_cons_head] at h3
  refine wl (fun w => ∃ (o : Nat) (z : StoS), w = (nI o, z) ∧ o ≤ 3 ∧ (∀ q, q < o → ∃ K, sorOK K (sel z q) ∧ K.Perm (keysOf (M.erase t) q)) ∧ (∀ q, o ≤ q → q < 3 → ∃ K, sorOK K (sel z q) ∧ K.Perm (keysOf M q))) (fun w => 3 - w.1.toNatClampNeg) ⟨0, s, rfl, by omega, fun q c => by omega, fun q _ c => hs.2.2 q c⟩ ?_
  rintro v ⟨o, z, rfl, a1, a2, a3⟩ Kt hKt
  refine ⟨fun c => ?_, fun c => ?_⟩
  · have : 3 ≤ o := (nI_leI (a := 3) (by omega) (by omega)).mp c
    exact h z ⟨hs.1.sublist List.erase_sublist, fun u hu => hs.2.1 u (List.mem_of_mem_erase hu), fun q c2 => a2 q (by omega)⟩
  · have ho : o < 3 := by
      rcases Nat.lt_or_ge o 3 with q | q
      · exact q
      · exact absurd (n_le q (by omega)) c
    obtain ⟨K, hK, hp⟩ := a3 o (Nat.le_refl _) ho
    have hkn : rol t o ∈ K := (sto_key hs ho hp ht).mpr hq
    have fin : ∀ s', sorOK (K.erase (rol t o)) s' → Kt (nI o + (1 : Int32), setO z o s') := by
      intro s' hs'
      rw [nI_1]
      refine hKt _ ⟨o + 1, _, rfl, by omega, ?_, ?_⟩ ?_
      · intro q hq2
        by_cases e : q = o
        · subst e
          rw [sel_set ho]
          refine ⟨_, hs', (hp.erase _).trans ?_⟩
          rcases hmap q ho with e2 | e2
          · rw [e2]
          · exact e2
        · rw [sel_set_ne ho (by omega) e]
          exact a2 q (by omega)
      · intro q hq2 hq3
        rw [sel_set_ne ho hq3 (by omega)]
        exact a3 q (by omega) hq3
      · show 3 - (nI (o + 1)).toNatClampNeg < 3 - (nI o).toNatClampNeg
        rw [n_cl (by omega), n_cl (by omega)]; omega
    refine S_in ho ⟨fun e => ?_, fun e => ?_, fun e => ?_⟩ <;> subst e <;> exact S_rolled ht (by omega) (S_remove hK (rol_lt ht) hkn fin)
theorem S_striple {K : List Nat} {s : StoS} {o i : Nat} {post : Int32 → Prop} (hK : sorOK K (sel s o)) (ho : o < 3) (hi : i < K.length) (h : post (nI (rol K[i] ((3 - o) % 3)))) : P_X5_triple s (nI o) (nI i) post := by
  have hb := hK.2.2.2.1 _ (List.getElem_mem hi)
  refine S_in ho ⟨fun e => ?_, fun e => ?_, fun e => ?_⟩ <;> subst e <;> exact S_key hK hi (S_rolledBack hb (by omega) h)
theorem S_sbegin {K : List Nat} {s : StoS} {o v : Nat} {post : Int32 → Prop} (hK : sorOK K (sel s o)) (ho : o < 3) (hv : v < 262144) (h : post (nI (rk K (rol v o)))) : P_X5_begin s (nI o) (nI v) post := by
  have hb := rol_lt (o := o) hv
  refine S_in ho ⟨fun e => ?_, fun e => ?_, fun e => ?_⟩ <;> subst e <;> exact S_rolled hv (by omega) (S_placeOf hK (by omega) h)
