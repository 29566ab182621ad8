/-! PURE SIDE 24: the class's addPattern -/
def isV4 (x : Int32) : Prop := ∃ k, k < 104 ∧ x = toldI k
theorem told_dec : ∀ k, k < 104 → ¬ (toldI k < (-4 : Int32)) ∧ ¬ ((100 : Int32) ≤ toldI k) := by decide +kernel
theorem neg4 {x : Int32} (h : x < 0) (h2 : ¬ x < (-4 : Int32)) : x = toldI 100 ∨ x = toldI 101 ∨ x = toldI 102 ∨ x = toldI 103 := by
  have e0 : toldI 100 = -1 := by decide
  have e1 : toldI 101 = -2 := by decide
  have e2 : toldI 102 = -3 := by decide
  have e3 : toldI 103 = -4 := by decide
  rw [e0, e1, e2, e3]
  rw [Int32.lt_iff_toInt_lt] at h h2
  rw [← Int32.toInt_inj, ← Int32.toInt_inj, ← Int32.toInt_inj, ← Int32.toInt_inj]
  have f0 : (0 : Int32).toInt = 0 := by decide
  have f1 : (-1 : Int32).toInt = -1 := by decide
  have f2 : (-2 : Int32).toInt = -2 := by decide
  have f3 : (-3 : Int32).toInt = -3 := by decide
  have f4 : (-4 : Int32).toInt = -4 := by decide
  omega
theorem S_isTermOrVariable {x : Int32} {post : Int32 → Prop} (h1 : isV4 x → post 1) (h0 : ¬ isV4 x → post 0) : P_X7_isTermOrVariable x post := by
  refine ⟨fun c => h0 (fun ⟨k, hk, e⟩ => (told_dec k hk).1 (e ▸ c)), fun c => ⟨fun c2 => h0 (fun ⟨k, hk, e⟩ => (told_dec k hk).2 (e ▸ c2)), fun c2 => h1 ?_⟩⟩
  rcases n_of x with y | ⟨n, hn, e⟩
  · rcases neg4 y c with z | z | z | z
    · exact ⟨100, by omega, z⟩
    · exact ⟨101, by omega, z⟩
    · exact ⟨102, by omega, z⟩
    · exact ⟨103, by omega, z⟩
  · refine ⟨n, ?_, ?_⟩
    · rcases Nat.lt_or_ge n 100 with z | z
      · omega
      · rw [e] at c2; exact absurd (n_le z hn) c2
    · have : n < 100 := by
        rcases Nat.lt_or_ge n 100 with z | z
        · exact z
        · rw [e] at c2; exact absurd (n_le z hn) c2
      rw [told_pos this]; exact e
theorem S_bitOf {p : PatS} {k : Nat} {post : Int32 → Prop} (hk : k < 104) (h : post (nI (vbit k))) : P_X2_bitOf p (toldI k) post := by
  unfold vbit at h
  refine ⟨fun c => ?_, fun c => ?_⟩
  · have hlt : k < 100 := by
      rcases Nat.lt_or_ge k 100 with z | z
      · exact z
      · exact (Int32.lt_irrefl (Int32.lt_of_lt_of_le (told_neg z hk) c)).elim
    rw [if_pos hlt] at h; exact h
  · have hge : ¬ k < 100 := by
      intro z
      rw [told_pos z] at c
      exact c (nI_pos' (by omega))
    rw [if_neg hge] at h
    rw [told_var (by omega) hk, show (1 : Int32) <<< (nI (k - 100) &&& 31) = nI (1 * 2 ^ (k - 100)) from q_shl 1 (by omega), Nat.one_mul]
    exact h
def pat3 (a b d : Nat) : Pt3 := fun i => if i = 0 then a else if i = 1 then b else d
theorem S_tell {p : PatS} {a b d : Nat} {post : PatS → Prop} (ha : a < 104) (hb : b < 104) (hd : d < 104) (h : ∀ p', patOK (pat3 a b d) p' → post p') : P_X2_tell p (toldI a) (toldI b) (toldI d) post := by
  refine S_put (i := 0) (by omega) (by omega) (S_put (i := 1) (by omega) (by omega) (S_put (i := 2) (by omega) (by omega) ?_))
  refine S_bitOf ha (S_bitOf hb (S_bitOf hd (h _ ⟨?_, ?_, ?_⟩)))
  · intro i hi
    rcases (show i = 0 ∨ i = 1 ∨ i = 2 by omega) with rfl | rfl | rfl
    · exact ha
    · exact hb
    · exact hd
  · intro i hi
    show upd (upd (upd p.told 0 (toldI a)) 1 (toldI b)) 2 (toldI d) i = _
    rcases (show i = 0 ∨ i = 1 ∨ i = 2 by omega) with rfl | rfl | rfl
    · rw [pk_un (by omega), pk_un (by omega), pk_us]; rfl
    · rw [pk_un (by omega), pk_us]; rfl
    · rw [pk_us]; rfl
  · show nI (vbit a) ||| nI (vbit b) ||| nI (vbit d) = nI (vbits (pat3 a b d))
    rw [q_or, q_or]; rfl
