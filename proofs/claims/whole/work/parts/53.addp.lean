/-! PURE SIDE 24: the class's addPattern -/
def isV4 (x : Int32) : Prop := ∃ k, k < 104 ∧ x = toldI k
theorem told_dec : ∀ k, k < 104 → ¬ (toldI k < (-4 : Int32)) ∧ ¬ ((100 : Int32) ≤ toldI k) := by decide +kernel
theorem neg4 {x : Int32} (h : x < 0) (h2 : ¬ x < (-4 : Int32)) : x = toldI 100 ∨ x = toldI 101 ∨ x = toldI 102 ∨ x = toldI 103 := by
  have e0 : toldI 100 = -1 := by decide
  have e1 : toldI 101 = -2 := by decide
  have e2 : toldI 102 = -3 := by decide
  have e3 : toldI 103 = -4 := by decide
  rw [e0, e1, e2, e3]
  rw [Int32.lt_iff_toInt_lt] at h h2
  rw [← Int32.toInt_inj, ← Int32.toInt_inj, ← Int32.toInt_inj, ← Int32.toInt_inj]
  have f0 : (0 : Int32).toInt = 0 := by decide
  have f1 : (-1 : Int32).toInt = -1 := by decide
  have f2 : (-2 : Int32).toInt = -2 := by decide
  have f3 : (-3 : Int32).toInt = -3 := by decide
  have f4 : (-4 : Int32).toInt = -4 := by decide
  omega
theorem S_isTermOrVariable {x : Int32} {post : Int32 → Prop} (h1 : isV4 x → post 1) (h0 : ¬ isV4 x → post 0) : P_X7_isTermOrVariable x post := by
  refine ⟨fun c => h0 (fun ⟨k, hk, e⟩ => (told_dec k hk).1 (e ▸ c)), fun c => ⟨fun c2 => h0 (fun ⟨k, hk, e⟩ => (told_dec k hk).2 (e ▸ c2)), fun c2 => h1 ?_⟩⟩
  rcases n_of x with y | ⟨n, hn, e⟩
  · rcases neg4 y c with z | z | z | z
    · exact ⟨100, by omega, z⟩
    · exact ⟨101, by omega, z⟩
    · exact ⟨102, by omega, z⟩
    · exact ⟨103, by omega, z⟩
  · refine ⟨n, ?_, ?_⟩
    · rcases Nat.lt_or_ge n 100 with z | z
      · omega
      · rw [e] at c2; exact absurd (n_le z hn) c2
    · have : n < 100 := by
        rcases Nat.lt_or_ge n 100 with z | z
        · exact z
        · rw [e] at c2; exact absurd (n_le z hn) c2
      rw [told_pos this]; exact e
