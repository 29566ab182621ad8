/-! PURE SIDE 3: the dictionary: T, the terms in the order of their numbers -/
def dicOK (T : List Nat) (d : DicS) : Prop := d.size = nI T.length ∧ T.length ≤ 40 ∧ T.Nodup ∧ (∀ t ∈ T, t < 100) ∧ (∀ (i : Nat) (h : i < T.length), d.termByNumber i = nI T[i]) ∧ (∀ t, t < 100 → d.nextNumberByTerm t = nI (if t ∈ T then T.idxOf t + 1 else 0))
/-- the number of a term; 63 if it has none -/
def num (T : List Nat) (t : Nat) : Nat := if t ∈ T then T.idxOf t else 63
theorem num_lt {T : List Nat} (h : T.length ≤ 40) (t : Nat) : num T t < 64 := by
  unfold num
  split
  · next q => have := List.idxOf_lt_length_of_mem q; omega
  · omega
theorem S_knows {T : List Nat} {d : DicS} {t : Nat} {post : Int32 → Prop} (hd : dicOK T d) (ht : t < 100) (h : post (if t ∈ T then 1 else 0)) : P_X0_knows d (nI t) post := by
  obtain ⟨-, hl, -, -, -, hn⟩ := hd
  refine S_at ht (by omega) ?_
  rw [hn t ht]
  by_cases q : t ∈ T
  · rw [if_pos q] at h ⊢
    have := List.idxOf_lt_length_of_mem q
    exact ⟨fun c => absurd c (nI_nle (by omega) (by omega)), fun _ => h⟩
  · rw [if_neg q] at h ⊢
    exact ⟨fun _ => h, fun c => absurd (by decide) c⟩
theorem S_knows_neg {d : DicS} {x : Int32} {post : Int32 → Prop} (hx : x < 0) (h : post 0) : P_X0_knows d x post :=
  S_at_neg hx ⟨fun _ => h, fun c => absurd (by decide) c⟩
theorem S_number {T : List Nat} {d : DicS} {t : Nat} {post : Int32 → Prop} (hd : dicOK T d) (ht : t < 100) (h : post (nI (num T t))) : P_X0_number d (nI t) post := by
  refine S_knows hd ht ?_
  unfold num at h
  by_cases q : t ∈ T
  · rw [if_pos q] at h ⊢
    refine ⟨fun c => absurd c (by decide), fun _ => S_at ht (by omega) ?_⟩
    obtain ⟨-, hl, -, -, -, hn⟩ := hd
    rw [hn t ht, if_pos q, show (1 : Int32) = nI 1 from rfl, n_sub (by omega), Nat.add_sub_cancel]
    exact h
  · rw [if_neg q] at h ⊢
    exact ⟨fun _ => h, fun c => absurd rfl c⟩
theorem S_number_neg {d : DicS} {x : Int32} {post : Int32 → Prop} (hx : x < 0) (h : post (nI 63)) : P_X0_number d x post :=
  S_knows_neg hx ⟨fun _ => h, fun c => absurd rfl c⟩
/-- three numbers, packed -/
def enc (a b c : Nat) : Nat := a * 4096 + b * 64 + c
theorem enc_lt {a b c : Nat} (ha : a < 64) (hb : b < 64) (hc : c < 64) : enc a b c < 262144 := by unfold enc; omega
theorem q_enc {a b c : Nat} (hb : b < 64) (hc : c < 64) : ((nI a <<< (nI (6 * (2 - 0)) &&& 31)) ||| (nI b <<< (nI (6 * (2 - 1)) &&& 31))) ||| (nI c <<< (nI (6 * (2 - 2)) &&& 31)) = nI (enc a b c) := by
  rw [q_shl a (by omega), q_shl b (by omega), q_shl c (by omega)]
  have e1 : nI (a * 2 ^ (6 * (2 - 0))) ||| nI (b * 2 ^ (6 * (2 - 1))) = nI ((a * 64 + b) * 2 ^ 6) := by
    rw [show (6 * (2 - 0)) = 12 from rfl, q_ord (by omega)]
    congr 1; omega
  rw [e1, show c * 2 ^ (6 * (2 - 2)) = c by omega, q_ord (by omega)]
  unfold enc; congr 1; omega
theorem S_pack {d : DicS} {x y z : Int32} {a b c : Nat} {post : Int32 → Prop} (ha : ∀ q : Int32 → Prop, q (nI a) → P_X0_number d x q) (hb : ∀ q : Int32 → Prop, q (nI b) → P_X0_number d y q) (hc : ∀ q : Int32 → Prop, q (nI c) → P_X0_number d z q) (hb64 : b < 64) (hc64 : c < 64) (h : post (nI (enc a b c))) : P_X0_pack d x y z post := by
  refine ha _ (S_partShift (p := 0) (by omega) (hb _ (S_partShift (p := 1) (by omega) (hc _ (S_partShift (p := 2) (by omega) ?_)))))
  rw [q_enc hb64 hc64]; exact h
/-- the terms after t is learned -/
def lrn (T : List Nat) (t : Nat) : List Nat := if t ∈ T then T else T ++ [t]
theorem lrn_len (T : List Nat) (t : Nat) : (lrn T t).length = T.length + (if t ∈ T then 0 else 1) := by
  unfold lrn; split <;> simp
theorem idxOf_app {T : List Nat} {t s : Nat} (h : s ∈ T) : (T ++ [t]).idxOf s = T.idxOf s := by rw [List.idxOf_append, if_pos h]
theorem idxOf_new {T : List Nat} {t : Nat} (h : t ∉ T) : (T ++ [t]).idxOf t = T.length := by
  rw [List.idxOf_append, if_neg h]; simp
theorem dic_learn {T : List Nat} {d : DicS} {t : Nat} (hd : dicOK T d) (ht : t < 100) (hq : t ∉ T) (hl : T.length < 40) : dicOK (T ++ [t]) (upd d.termByNumber T.length (nI t), upd d.nextNumberByTerm t (nI (T.length + 1)), nI (T.length + 1)) := by
  obtain ⟨h1, h2, h3, h4, h5, h6⟩ := hd
  refine ⟨by simp, by simp; omega, ?_, ?_, ?_, ?_⟩
  · rw [List.nodup_append]
    refine ⟨h3, by simp, ?_⟩
    intro a ha b hb e
    rw [List.mem_singleton] at hb
    subst e; subst hb
    exact hq ha
  · intro s hs
    rcases List.mem_append.mp hs with h | h
    · exact h4 s h
    · rw [List.mem_singleton.mp h]; exact ht
  · intro i hi
    show upd d.termByNumber T.length (nI t) i = _
    simp only [List.length_append, List.length_singleton] at hi
    rcases Nat.lt_or_ge i T.length with q | q
    · rw [pk_un (by omega), h5 i q, List.getElem_append_left q]
    · have e : i = T.length := by omega
      subst e
      rw [pk_us, List.getElem_append_right (Nat.le_refl _)]
      simp
  · intro s hs
    show upd d.nextNumberByTerm t (nI (T.length + 1)) s = _
    by_cases e : s = t
    · subst e
      rw [pk_us, if_pos (by simp), idxOf_new hq]
    · rw [pk_un e, h6 s hs]
      by_cases q : s ∈ T
      · rw [if_pos q, if_pos (List.mem_append_left _ q), idxOf_app q]
      · rw [if_neg q, if_neg (by simp [q, e])]
theorem S_learn {T : List Nat} {d : DicS} {t : Nat} {post : DicS → Prop} (hd : dicOK T d) (ht : t < 100) (hl : (lrn T t).length ≤ 40) (h : ∀ d', dicOK (lrn T t) d' → post d') : P_X0_learn d (nI t) post := by
  have hd' := hd
  obtain ⟨h1, h2, -⟩ := hd'
  rw [lrn_len] at hl
  refine S_knows hd ht ?_
  by_cases q : t ∈ T
  · rw [if_pos q]
    refine ⟨fun _ => h d ?_, fun c => absurd c (by decide)⟩
    unfold lrn; rw [if_pos q]; exact hd
  · rw [if_neg q] at hl ⊢
    refine ⟨fun c => absurd rfl c, fun _ => ⟨fun c => ?_, fun _ => ?_⟩⟩
    · rw [h1] at c; exact absurd c (n_nle (b := T.length) (by omega) (by omega) : ¬ nI 40 ≤ nI T.length)
    · rw [h1]
      refine S_put (by omega) (by omega) (S_put ht (by omega) ?_)
      rw [nI_1]
      refine h _ ?_
      unfold lrn; rw [if_neg q]
      exact dic_learn hd ht q (by omega)
/-- how many terms of three the dictionary has not -/
def unk (T : List Nat) (a b c : Nat) : Nat := (if a ∈ T then 0 else 1) + (if b ∈ T ∨ b = a then 0 else 1) + (if c ∈ T ∨ c = a ∨ c = b then 0 else 1)
theorem lrn_mem (T : List Nat) (t s : Nat) : s ∈ lrn T t ↔ s ∈ T ∨ s = t := by
  unfold lrn
  split
  · next q => exact ⟨Or.inl, fun h => h.elim id (fun e => e ▸ q)⟩
  · simp
theorem unk_len (T : List Nat) (a b c : Nat) : (lrn (lrn (lrn T a) b) c).length = T.length + unk T a b c := by
  rw [lrn_len, lrn_len, lrn_len]
  simp only [lrn_mem]
  unfold unk
  simp only [or_assoc]
  omega
theorem S_sizeWith {T : List Nat} {d : DicS} {a b c : Nat} {post : Int32 → Prop} (hd : dicOK T d) (ha : a < 100) (hb : b < 100) (hc : c < 100) (h : post (nI (T.length + unk T a b c))) : P_X0_sizeWith d (nI a) (nI b) (nI c) post := by
  have hd' := hd
  obtain ⟨h1, h2, -⟩ := hd'
  have j33 : ∀ n : Nat, n + (if c ∈ T ∨ c = a ∨ c = b then 0 else 1) = T.length + unk T a b c → P_X0_sizeWith_j33 d (nI a) (nI b) (nI c) (nI n) post := by
    intro n hn
    refine S_knows hd hc ?_
    by_cases q : c ∈ T
    · rw [if_pos q]
      rw [if_pos (Or.inl q)] at hn
      refine ⟨fun _ => ?_, fun z => absurd z (by decide)⟩
      rw [← hn] at h; exact h
    · rw [if_neg q]
      refine ⟨fun z => absurd rfl z, fun _ => ⟨fun e => ?_, fun e => ⟨fun e2 => ?_, fun e2 => ?_⟩⟩⟩
      · have e := (nI_eq (by omega) (by omega)).mp e
        rw [if_pos (Or.inr (Or.inl e))] at hn
        rw [← hn] at h; exact h
      · have e2 := (nI_eq (by omega) (by omega)).mp e2
        rw [if_pos (Or.inr (Or.inr e2))] at hn
        rw [← hn] at h; exact h
      · have e : c ≠ a := fun z => e (by rw [z])
        have e2 : c ≠ b := fun z => e2 (by rw [z])
        rw [if_neg (by simp [q, e, e2])] at hn
        rw [nI_1, hn]; exact h
  have j17 : ∀ n : Nat, n = T.length + (if a ∈ T then 0 else 1) → P_X0_sizeWith_j17 d (nI a) (nI b) (nI c) (nI n) post := by
    intro n hn
    refine S_knows hd hb ?_
    by_cases q : b ∈ T
    · rw [if_pos q]
      refine ⟨fun _ => j33 n ?_, fun z => absurd z (by decide)⟩
      unfold unk; rw [if_pos (Or.inl q)]; omega
    · rw [if_neg q]
      refine ⟨fun z => absurd rfl z, fun _ => ⟨fun e => ?_, fun e => ?_⟩⟩
      · have e := (nI_eq (by omega) (by omega)).mp e
        refine j33 n ?_
        unfold unk; rw [if_pos (Or.inr e : b ∈ T ∨ b = a)]; omega
      · have e : b ≠ a := fun z => e (by rw [z])
        rw [nI_1]
        refine j33 (n + 1) ?_
        unfold unk; rw [if_neg (by simp [q, e] : ¬ (b ∈ T ∨ b = a))]; omega
  refine S_knows hd ha ?_
  by_cases q : a ∈ T
  · rw [if_pos q]
    refine ⟨fun _ => ?_, fun z => absurd z (by decide)⟩
    rw [h1]; exact j17 _ (by rw [if_pos q]; rfl)
  · rw [if_neg q]
    refine ⟨fun z => absurd rfl z, fun _ => ?_⟩
    rw [h1, nI_1]; exact j17 _ (by rw [if_neg q])
theorem S_term {T : List Nat} {d : DicS} {i : Nat} {post : Int32 → Prop} (hd : dicOK T d) (hi : i < T.length) (h : post (nI T[i])) : P_X0_term d (nI i) post := by
  obtain ⟨-, hl, -, -, ht, -⟩ := hd
  refine S_at (by omega) (by omega) ?_
  rw [ht i hi]; exact h
