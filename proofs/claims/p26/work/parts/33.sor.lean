/-! PURE SIDE 4: sorted keys -/
abbrev SL (K : List Nat) : Prop := K.Pairwise (· < ·)
def sorOK (K : List Nat) (s : SorS) : Prop := s.size = nI K.length ∧ K.length ≤ 60 ∧ SL K ∧ (∀ k ∈ K, k < 262144) ∧ (∀ (i : Nat) (h : i < K.length), s.keys i = nI K[i])
/-- how many keys are lower -/
def rk (K : List Nat) (key : Nat) : Nat := K.countP (fun k => decide (k < key))
theorem rk_le (K : List Nat) (key : Nat) : rk K key ≤ K.length := List.countP_le_length
theorem rk_cons (a : Nat) (K : List Nat) (key : Nat) : rk (a :: K) key = rk K key + (if a < key then 1 else 0) := by
  unfold rk
  rw [List.countP_cons]
  by_cases q : a < key <;> simp [q]
theorem rk_zero {K : List Nat} {key : Nat} (h : ∀ k ∈ K, key ≤ k) : rk K key = 0 := by
  unfold rk
  rw [List.countP_eq_zero]
  intro k hk
  have := h k hk
  simp; omega
/-- in a sorted list the lower keys stand ahead -/
theorem rk_spec : ∀ {K : List Nat} (_ : SL K) (key : Nat) {i : Nat} (h : i < K.length), K[i] < key ↔ i < rk K key
  | [], _, _, i, h => absurd h (Nat.not_lt_zero i)
  | a :: K, hs, key, i, h => by
    obtain ⟨h1, h2⟩ := List.pairwise_cons.mp hs
    rw [rk_cons]
    rcases i with _ | i
    · rw [List.getElem_cons_zero]
      by_cases q : a < key
      · rw [if_pos q]; exact ⟨fun _ => by omega, fun _ => q⟩
      · rw [if_neg q]
        have : rk K key = 0 := rk_zero (fun k hk => by have := h1 k hk; omega)
        rw [this]
        exact ⟨fun z => absurd z q, fun z => by omega⟩
    · rw [List.getElem_cons_succ]
      have hi : i < K.length := by simp at h; omega
      have ih := rk_spec h2 key hi
      by_cases q : a < key
      · rw [if_pos q, ih]; omega
      · rw [if_neg q]
        have z : rk K key = 0 := rk_zero (fun k hk => by have := h1 k hk; omega)
        rw [ih, z]; omega
theorem rk_mem {K : List Nat} (hs : SL K) (key : Nat) : key ∈ K ↔ ∃ h : rk K key < K.length, K[rk K key] = key := by
  constructor
  · intro hk
    obtain ⟨i, hi, e⟩ := List.mem_iff_getElem.mp hk
    have h1 := rk_spec hs key hi
    have h2 := rk_spec hs (key + 1) hi
    have h3 : ¬ i < rk K key := fun z => by have := h1.mpr z; omega
    have h4 : rk K key ≤ i := by omega
    rcases Nat.lt_or_ge (rk K key) i with q | q
    · have hlt : rk K key < K.length := by omega
      have h5 := (rk_spec hs key hlt)
      have h6 : ¬ K[rk K key] < key := fun z => by have := h5.mp z; omega
      have h7 := List.pairwise_iff_getElem.mp hs (rk K key) i hlt hi q
      omega
    · have : rk K key = i := by omega
      exact ⟨by omega, by simp only [this]; exact e⟩
  · rintro ⟨h, e⟩
    rw [← e]
    exact List.getElem_mem h
theorem S_placeOf {K : List Nat} {s : SorS} {key : Nat} {post : Int32 → Prop} (hs : sorOK K s) (hk : key < 1073741824) (h : post (nI (rk K key))) : P_X4_placeOf s (nI key) post := by
  obtain ⟨h1, h2, h3, h4, h5⟩ := hs
  have hr := rk_le K key
  refine wl (fun w => ∃ p m, w = (nI p, nI m) ∧ (m = 32 ∨ m = 16 ∨ m = 8 ∨ m = 4 ∨ m = 2 ∨ m = 1 ∨ m = 0) ∧ p ≤ rk K key ∧ (m = 0 → p = rk K key) ∧ rk K key < p + 2 * m + 1 ∧ (m ≠ 0 → rk K key < p + 2 * m)) (fun w => w.2.toNatClampNeg) ⟨0, 32, rfl, Or.inl rfl, Nat.zero_le _, fun z => absurd z (by omega), by omega, by omega⟩ ?_
  rintro v ⟨p, m, rfl, hm, hp, h0, hx, hy⟩ Kt hKt
  have hm32 : m ≤ 32 := by omega
  refine ⟨fun c => ?_, fun c => ?_⟩
  · rcases Nat.eq_zero_or_pos m with q | q
    · rw [h0 q]; exact h
    · exact absurd c (nI_nle q (by omega))
  · have hmp : 0 < m := by
      rcases Nat.eq_zero_or_pos m with q | q
      · subst q; exact absurd (show nI 0 ≤ 0 by decide) c
      · exact q
    have hsh : nI m >>> ((1 : Int32) &&& 31) = nI (m / 2) := by
      have := q_shr (a := m) (k := 1) (by omega) (by omega)
      rw [show (1 : Int32) = nI 1 from rfl, this, Nat.pow_one]
    have back : ∀ p', p' ≤ rk K key → rk K key < p' + m → Kt (nI p', nI m >>> ((1 : Int32) &&& 31)) := by
      intro p' a1 a2
      rw [hsh]
      refine hKt _ ⟨p', m / 2, rfl, by omega, a1, by omega, by omega, by omega⟩ ?_
      show (nI (m / 2)).toNatClampNeg < (nI m).toNatClampNeg
      rw [n_cl (by omega), n_cl (by omega)]; omega
    show (s.size < nI p + nI m → Kt (nI p, nI m >>> ((1 : Int32) &&& 31))) ∧ (¬ s.size < nI p + nI m → P_X7_at 60 s.keys (nI p + nI m - (1 : Int32)) _)
    rw [n_add, h1, show (1 : Int32) = nI 1 from rfl, n_sub (by omega)]
    refine ⟨fun c2 => ?_, fun c2 => ?_⟩
    · have : K.length < p + m := by
        rcases Nat.lt_or_ge K.length (p + m) with q | q
        · exact q
        · exact absurd c2 (n_nlt q (by omega))
      exact back p hp (by omega)
    · have hle : p + m ≤ K.length := by
        rcases Nat.lt_or_ge K.length (p + m) with q | q
        · exact absurd (n_lt q (by omega)) c2
        · exact q
      refine S_at (by omega) (by omega) ?_
      have hi : p + m - 1 < K.length := by omega
      rw [h5 _ hi]
      have hsp := rk_spec h3 key hi
      have hb := h4 _ (List.getElem_mem hi)
      refine ⟨fun c3 => ?_, fun c3 => ?_⟩
      · have := (nI_leI (by omega) (by omega)).mp c3
        have : ¬ (p + m - 1 < rk K key) := fun z => by have := hsp.mpr z; omega
        exact back p hp (by omega)
      · have : K[p + m - 1] < key := by
          rcases Nat.lt_or_ge K[p + m - 1] key with q | q
          · exact q
          · exact absurd (n_le q (by omega)) c3
        have := hsp.mp this
        exact back (p + m) (by omega) (by omega)
theorem S_holds {K : List Nat} {s : SorS} {key : Nat} {post : Int32 → Prop} (hs : sorOK K s) (hk : key < 1073741824) (h : post (if key ∈ K then 1 else 0)) : P_X4_holds s (nI key) post := by
  have hs' := hs
  obtain ⟨h1, h2, h3, h4, h5⟩ := hs'
  have hr := rk_le K key
  refine S_placeOf hs hk ?_
  have hm := rk_mem h3 key
  refine ⟨fun c => ?_, fun c => ?_⟩
  · rw [h1] at c
    have := (nI_leI (by omega) (by omega)).mp c
    rw [if_neg (fun z => by obtain ⟨q, -⟩ := hm.mp z; omega)] at h
    exact h
  · rw [h1] at c
    have hi : rk K key < K.length := by
      rcases Nat.lt_or_ge (rk K key) K.length with q | q
      · exact q
      · exact absurd (n_le q (by omega)) c
    refine S_at (by omega) (by omega) ?_
    rw [h5 _ hi]
    have hb := h4 _ (List.getElem_mem hi)
    refine ⟨fun c2 => ?_, fun c2 => ?_⟩
    · rw [if_neg (fun z => by obtain ⟨q, e⟩ := hm.mp z; exact c2 (by rw [e]))] at h
      exact h
    · have e := (nI_eq (by omega) (by omega)).mp c2
      rw [if_pos (hm.mpr ⟨hi, e⟩)] at h
      exact h
/-- a key put at its place -/
def ins (K : List Nat) (key : Nat) : List Nat := K.take (rk K key) ++ key :: K.drop (rk K key)
theorem ins_len (K : List Nat) (key : Nat) : (ins K key).length = K.length + 1 := by
  have := rk_le K key
  unfold ins
  simp only [List.length_append, List.length_take, List.length_cons, List.length_drop]
  omega
theorem ins_perm (K : List Nat) (key : Nat) : (ins K key).Perm (key :: K) := by
  unfold ins
  have h1 : (K.take (rk K key) ++ key :: K.drop (rk K key)).Perm (key :: (K.take (rk K key) ++ K.drop (rk K key))) := List.perm_middle
  rwa [List.take_append_drop] at h1
theorem ins_get {K : List Nat} {key i : Nat} (h : i < (ins K key).length) : (ins K key)[i] = if i < rk K key then K[i]! else if i = rk K key then key else K[i - 1]! := by
  have hr := rk_le K key
  have hl := ins_len K key
  have hi : i < K.length + 1 := by rw [← hl]; exact h
  clear hl
  unfold ins at h ⊢
  rw [List.getElem_append]
  have ht : (K.take (rk K key)).length = rk K key := by rw [List.length_take]; omega
  simp only [ht]
  by_cases q : i < rk K key
  · rw [dif_pos q, if_pos q, List.getElem_take, getElem!_pos K i (by omega)]
  · rw [dif_neg q, if_neg q, List.getElem_cons]
    by_cases q2 : i - rk K key = 0
    · rw [dif_pos q2, if_pos (by omega)]
    · rw [dif_neg q2, if_neg (by omega), List.getElem_drop]
      rw [getElem!_pos K (i - 1) (by omega)]
      congr 1; omega
theorem ins_sorted {K : List Nat} (hs : SL K) {key : Nat} (hq : key ∉ K) : SL (ins K key) := by
  unfold ins
  have hd : K = K.take (rk K key) ++ K.drop (rk K key) := (List.take_append_drop _ _).symm
  have hlo : ∀ k ∈ K.take (rk K key), k < key := by
    intro k hk
    obtain ⟨i, hi, e⟩ := List.mem_iff_getElem.mp hk
    rw [List.length_take] at hi
    rw [List.getElem_take] at e
    rw [← e]
    exact (rk_spec hs key (by omega)).mpr (by omega)
  have hhi : ∀ k ∈ K.drop (rk K key), key < k := by
    intro k hk
    obtain ⟨i, hi, e⟩ := List.mem_iff_getElem.mp hk
    rw [List.length_drop] at hi
    rw [List.getElem_drop] at e
    have h1 : ¬ K[rk K key + i] < key := fun z => by have := (rk_spec hs key (by omega)).mp z; omega
    have h2 : K[rk K key + i] ≠ key := fun z => hq (by rw [← z]; exact List.getElem_mem _)
    rw [← e]; omega
  have hs2 : (K.take (rk K key) ++ K.drop (rk K key)).Pairwise (· < ·) := by rw [← hd]; exact hs
  obtain ⟨p1, p2, p3⟩ := List.pairwise_append.mp hs2
  refine List.pairwise_append.mpr ⟨p1, List.pairwise_cons.mpr ⟨hhi, p2⟩, ?_⟩
  intro a ha b hb
  rcases List.mem_cons.mp hb with rfl | hb
  · exact hlo a ha
  · exact p3 a ha b hb
theorem ins_ok {K : List Nat} {f : Nat → Int32} {key : Nat} (hs : sorOK K (f, nI K.length)) (hk : key < 262144) (hq : key ∉ K) (hl : K.length < 60) {g : Nat → Int32} (hg : ∀ i, i ≤ K.length → g i = if i < rk K key then f i else if i = rk K key then nI key else f (i - 1)) : sorOK (ins K key) (g, nI (K.length + 1)) := by
  obtain ⟨h1, h2, h3, h4, h5⟩ := hs
  have hr := rk_le K key
  refine ⟨by rw [ins_len], by rw [ins_len]; omega, ins_sorted h3 hq, ?_, ?_⟩
  · intro k hm
    rcases List.mem_cons.mp ((ins_perm K key).mem_iff.mp hm) with rfl | h
    · exact hk
    · exact h4 k h
  · intro i hi
    have hi2 := hi
    rw [ins_len] at hi2
    show g i = _
    rw [hg i (by omega), ins_get hi]
    by_cases q : i < rk K key
    · rw [if_pos q, if_pos q, getElem!_pos K i (by omega)]; exact h5 i (by omega)
    · rw [if_neg q, if_neg q]
      by_cases q2 : i = rk K key
      · rw [if_pos q2, if_pos q2]
      · rw [if_neg q2, if_neg q2, getElem!_pos K (i - 1) (by omega)]; exact h5 (i - 1) (by omega)
theorem S_insert {K : List Nat} {s : SorS} {key : Nat} {post : SorS → Prop} (hs : sorOK K s) (hk : key < 262144) (hq : key ∉ K) (hl : K.length < 60) (h : ∀ s', sorOK (ins K key) s' → post s') : P_X4_insert s (nI key) post := by
  obtain ⟨f, n⟩ := s
  have hs' := hs
  obtain ⟨h1, h2, h3, h4, h5⟩ := hs'
  have h1 : n = nI K.length := h1
  subst h1
  have hr := rk_le K key
  refine ⟨fun _ => S_placeOf hs (by omega) ?_, fun c => absurd (n_lt (b := 60) hl (by omega)) c⟩
  refine wl (fun w => ∃ (t : Nat) (g : Nat → Int32), w = (nI t, (g, nI K.length)) ∧ rk K key ≤ t ∧ t ≤ K.length ∧ (∀ i, i ≤ t → g i = f i) ∧ (∀ i, t < i → i ≤ K.length → g i = f (i - 1))) (fun w => w.1.toNatClampNeg) ⟨K.length, f, rfl, hr, Nat.le_refl _, fun _ _ => rfl, fun i h7 h8 => by omega⟩ ?_
  rintro v ⟨t, g, rfl, a1, a2, a3, a4⟩ Kt hKt
  refine ⟨fun c => ?_, fun c => ?_⟩
  · have : t ≤ rk K key := (nI_leI (by omega) (by omega)).mp c
    have e : t = rk K key := by omega
    subst e
    refine S_put (by omega) (by omega) ?_
    show post (upd g (rk K key) (nI key), nI K.length + (1 : Int32))
    rw [nI_1]
    refine h _ (ins_ok hs hk hq hl ?_)
    intro i hi
    by_cases q : i < rk K key
    · rw [if_pos q, pk_un (by omega), a3 i (by omega)]
    · rw [if_neg q]
      by_cases q2 : i = rk K key
      · rw [if_pos q2, q2, pk_us]
      · rw [if_neg q2, pk_un q2, a4 i (by omega) hi]
  · have hlt : rk K key < t := by
      rcases Nat.lt_or_ge (rk K key) t with q | q
      · exact q
      · exact absurd (n_le q (by omega)) c
    show P_X7_at 60 g (nI t - (1 : Int32)) _
    rw [show (1 : Int32) = nI 1 from rfl, n_sub (by omega)]
    refine S_at (by omega) (by omega) (S_put (by omega) (by omega) ?_)
    show Kt (nI t + (-1 : Int32), (upd g t (g (t - 1)), nI K.length))
    have e : nI t + (-1 : Int32) = nI (t - 1) := by
      have := pk_m1 (t - 1)
      rwa [Nat.sub_add_cancel (by omega)] at this
    rw [e]
    refine hKt _ ⟨t - 1, _, rfl, by omega, by omega, ?_, ?_⟩ ?_
    · intro i hi
      rw [pk_un (by omega), a3 i (by omega)]
    · intro i hi hi2
      by_cases q : i = t
      · subst q; rw [pk_us, a3 _ (by omega)]
      · rw [pk_un q, a4 i (by omega) hi2]
    · show (nI (t - 1)).toNatClampNeg < (nI t).toNatClampNeg
      rw [n_cl (by omega), n_cl (by omega)]; omega
/-- a key taken away -/
theorem rem_ok {K : List Nat} {f : Nat → Int32} {key : Nat} (hs : sorOK K (f, nI K.length)) (hq : key ∈ K) {g : Nat → Int32} (hg : ∀ i, i + 1 < K.length → g i = if i < rk K key then f i else f (i + 1)) : sorOK (K.erase key) (g, nI (K.length - 1)) := by
  obtain ⟨h1, h2, h3, h4, h5⟩ := hs
  obtain ⟨hi, he⟩ := (rk_mem h3 key).mp hq
  have hnd : K.Nodup := h3.imp (fun h => by omega)
  have e : K.erase key = K.eraseIdx (rk K key) := by
    have hx : K.idxOf key < K.length := List.idxOf_lt_length_of_mem hq
    have hy : K[K.idxOf key] = key := List.getElem_idxOf hx
    refine List.erase_eq_eraseIdx_of_idxOf ?_
    rcases Nat.lt_trichotomy (K.idxOf key) (rk K key) with q | q | q
    · have := List.pairwise_iff_getElem.mp h3 _ _ hx hi q
      omega
    · exact q
    · have := List.pairwise_iff_getElem.mp h3 _ _ hi hx q
      omega
  have hlen : (K.erase key).length = K.length - 1 := List.length_erase_of_mem hq
  refine ⟨by rw [hlen], by omega, h3.sublist List.erase_sublist, fun k hk => h4 k (List.mem_of_mem_erase hk), ?_⟩
  intro i hi2
  have hi3 : i + 1 < K.length := by omega
  show g i = _
  rw [hg i hi3]
  simp only [e, List.getElem_eraseIdx]
  by_cases q : i < rk K key
  · rw [if_pos q, dif_pos q]; exact h5 i (by omega)
  · rw [if_neg q, dif_neg q]; exact h5 (i + 1) (by omega)
theorem S_remove {K : List Nat} {s : SorS} {key : Nat} {post : SorS → Prop} (hs : sorOK K s) (hk : key < 262144) (hq : key ∈ K) (h : ∀ s', sorOK (K.erase key) s' → post s') : P_X4_remove s (nI key) post := by
  obtain ⟨f, n⟩ := s
  have hs' := hs
  obtain ⟨h1, h2, h3, h4, h5⟩ := hs'
  have h1 : n = nI K.length := h1
  subst h1
  obtain ⟨hi, he⟩ := (rk_mem h3 key).mp hq
  refine S_holds hs (by omega) ?_
  rw [if_pos hq]
  refine ⟨fun _ => ?_, fun c => absurd c (by decide)⟩
  show P_X4_placeOf (f, nI K.length - (1 : Int32)) (nI key) _
  rw [show (1 : Int32) = nI 1 from rfl, n_sub (by omega)]
  -- the keys but the last one
  have hd : sorOK K.dropLast (f, nI (K.length - 1)) := by
    refine ⟨by rw [List.length_dropLast], by rw [List.length_dropLast]; omega, h3.sublist (List.dropLast_sublist K), fun k hk => h4 k (List.dropLast_subset K hk), ?_⟩
    intro i hi2
    rw [List.length_dropLast] at hi2
    rw [List.getElem_dropLast]
    exact h5 i (by omega)
  have hr : rk K.dropLast key = rk K key := by
    have h6 : rk K key ≤ K.length - 1 := by omega
    have hle := rk_le K.dropLast key
    rw [List.length_dropLast] at hle
    rcases Nat.lt_trichotomy (rk K.dropLast key) (rk K key) with q | q | q
    · have hx : rk K.dropLast key < K.dropLast.length := by rw [List.length_dropLast]; omega
      have a1 := (rk_spec hd.2.2.1 key hx)
      rw [List.getElem_dropLast] at a1
      have a2 := (rk_spec h3 key (show rk K.dropLast key < K.length by omega)).mpr q
      exact absurd (a1.mp a2) (by omega)
    · exact q
    · have hx : rk K key < K.dropLast.length := by rw [List.length_dropLast]; omega
      have a1 := (rk_spec hd.2.2.1 key hx).mpr q
      rw [List.getElem_dropLast, he] at a1
      omega
  refine S_placeOf hd (by omega) ?_
  rw [hr]
  refine wl (fun w => ∃ (t : Nat) (g : Nat → Int32), w = (nI t, (g, nI (K.length - 1))) ∧ rk K key ≤ t ∧ t ≤ K.length - 1 ∧ (∀ i, i < rk K key → g i = f i) ∧ (∀ i, rk K key ≤ i → i < t → g i = f (i + 1)) ∧ (∀ i, t ≤ i → g i = f i)) (fun w => K.length - w.1.toNatClampNeg) ⟨rk K key, f, rfl, Nat.le_refl _, by omega, fun _ _ => rfl, fun i h7 h8 => by omega, fun _ _ => rfl⟩ ?_
  rintro v ⟨t, g, rfl, a1, a2, a3, a4, a5⟩ Kt hKt
  refine ⟨fun c => ?_, fun c => ?_⟩
  · have : K.length - 1 ≤ t := (nI_leI (by omega) (by omega)).mp c
    refine h _ (rem_ok hs hq ?_)
    intro i hi2
    by_cases q : i < rk K key
    · rw [if_pos q, a3 i q]
    · rw [if_neg q, a4 i (by omega) (by omega)]
  · have hlt : t < K.length - 1 := by
      rcases Nat.lt_or_ge t (K.length - 1) with q | q
      · exact q
      · exact absurd (n_le q (by omega)) c
    show P_X7_at 60 g (nI t + (1 : Int32)) _
    rw [nI_1]
    refine S_at (by omega) (by omega) (S_put (by omega) (by omega) ?_)
    show Kt (nI (t + 1), (upd g t (g (t + 1)), nI (K.length - 1)))
    refine hKt _ ⟨t + 1, _, rfl, by omega, by omega, ?_, ?_, ?_⟩ ?_
    · intro i hi2; rw [pk_un (by omega), a3 i hi2]
    · intro i hi2 hi3
      by_cases q : i = t
      · subst q; rw [pk_us, a5 _ (by omega)]
      · rw [pk_un q, a4 i hi2 (by omega)]
    · intro i hi2; rw [pk_un (by omega), a5 i (by omega)]
    · show K.length - (nI (t + 1)).toNatClampNeg < K.length - (nI t).toNatClampNeg
      rw [n_cl (by omega), n_cl (by omega)]; omega
theorem S_key {K : List Nat} {s : SorS} {i : Nat} {post : Int32 → Prop} (hs : sorOK K s) (hi : i < K.length) (h : post (nI K[i])) : P_X4_key s (nI i) post := by
  obtain ⟨-, hl, -, -, h5⟩ := hs
  refine S_at (by omega) (by omega) ?_
  rw [h5 i hi]; exact h
