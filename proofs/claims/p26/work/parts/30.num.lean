/-! PURE SIDE 1: loops, numbers, bits -/
theorem wl {V : Type} {B : (V → Prop) → V → Prop} {v : V} (Inv : V → Prop) (μ : V → Nat) (h0 : Inv v) (hs : ∀ v, Inv v → ∀ K : V → Prop, (∀ w, Inv w → μ w < μ v → K w) → B K v) : wloop B v := by
  refine ⟨fun n w => Inv w ∧ μ w = n, fun n w hw => ?_, μ v, h0, rfl⟩
  obtain ⟨hi, rfl⟩ := hw
  exact hs w hi _ (fun z hz hlt => ⟨μ z, hlt, hz, rfl⟩)
theorem n_le {a b : Nat} (h : a ≤ b) (hb : b < 2147483648) : nI a ≤ nI b := nI_le h hb
theorem n_nle {a b : Nat} (h : b < a) (ha : a < 2147483648) : ¬ nI a ≤ nI b := nI_ge h ha
theorem n_lt {a b : Nat} (h : a < b) (hb : b < 2147483648) : nI a < nI b := nI_lt h hb
theorem n_nlt {a b : Nat} (h : b ≤ a) (ha : a < 2147483648) : ¬ nI a < nI b := nI_nlt h ha
theorem n_ne {a b : Nat} (h : a ≠ b) (ha : a < 2147483648) (hb : b < 2147483648) : ¬ nI a = nI b := fun c => h ((nI_eq ha hb).mp c)
theorem n_in {a n : Nat} (h : a < n) (hn : n < 2147483648) : vp_in (nI a) n := vp_in_nI h hn
theorem n_cl {a : Nat} (h : a < 2147483648) : (nI a).toNatClampNeg = a := nI_clamp h
theorem n_add (a b : Nat) : nI a + nI b = nI (a + b) := nI_add a b
theorem n_sub {a b : Nat} (h : b ≤ a) : nI a - nI b = nI (a - b) := pk_sub h
theorem bo0 : bo 0 := by unfold bo; decide +kernel
theorem bo1 : bo 1 := by unfold bo; decide +kernel
/-- a value as a natural number, or negative -/
theorem n_of (x : Int32) : x < 0 ∨ ∃ j : Nat, j < 2147483648 ∧ x = nI j := by
  rcases Classical.em (x < 0) with h | h
  · exact Or.inl h
  · exact Or.inr (nI_of h)
-- bits
theorem q_sl : ∀ n, n < 32 → ((nI n &&& 31).toBitVec.smod 32).toNat = n := by decide +kernel
theorem q_and (a b : Nat) : nI a &&& nI b = nI (a &&& b) := by
  apply Int32.toBitVec_inj.1
  show BitVec.ofNat 32 a &&& BitVec.ofNat 32 b = BitVec.ofNat 32 (a &&& b)
  apply BitVec.eq_of_getLsbD_eq
  intro i hi
  simp [hi]
theorem q_or (a b : Nat) : nI a ||| nI b = nI (a ||| b) := by
  apply Int32.toBitVec_inj.1
  show BitVec.ofNat 32 a ||| BitVec.ofNat 32 b = BitVec.ofNat 32 (a ||| b)
  apply BitVec.eq_of_getLsbD_eq
  intro i hi
  simp [hi]
theorem q_xor (a b : Nat) : nI a ^^^ nI b = nI (a ^^^ b) := by
  apply Int32.toBitVec_inj.1
  show BitVec.ofNat 32 a ^^^ BitVec.ofNat 32 b = BitVec.ofNat 32 (a ^^^ b)
  apply BitVec.eq_of_getLsbD_eq
  intro i hi
  simp [hi]
theorem q_shl (a : Nat) {k : Nat} (hk : k < 32) : nI a <<< (nI k &&& 31) = nI (a * 2 ^ k) := by
  apply Int32.toBitVec_inj.1
  rw [Int32.toBitVec_shiftLeft]
  show (BitVec.ofNat 32 a) <<< ((nI k &&& 31).toBitVec.smod 32).toNat = BitVec.ofNat 32 (a * 2 ^ k)
  rw [q_sl k hk]
  apply BitVec.eq_of_toNat_eq
  rw [BitVec.toNat_shiftLeft, BitVec.toNat_ofNat, BitVec.toNat_ofNat, Nat.shiftLeft_eq, Nat.mul_mod, Nat.mod_mod, ← Nat.mul_mod]
theorem q_bt (n i : Nat) : (nI n).toBitVec.getLsbD i = (decide (i < 32) && n.testBit i) := by
  show (BitVec.ofNat 32 n).getLsbD i = _
  rw [BitVec.getLsbD_ofNat]
theorem q_hi {a i : Nat} (ha : a < 2147483648) (hi : 31 ≤ i) : a.testBit i = false := by
  apply Nat.testBit_lt_two_pow
  exact Nat.lt_of_lt_of_le ha (show 2 ^ 31 ≤ 2 ^ i from Nat.pow_le_pow_right (by omega) hi)
theorem q_shr {a k : Nat} (ha : a < 2147483648) (hk : k < 32) : nI a >>> (nI k &&& 31) = nI (a / 2 ^ k) := by
  apply Int32.toBitVec_inj.1
  rw [Int32.toBitVec_shiftRight]
  show (nI a).toBitVec.sshiftRight ((nI k &&& 31).toBitVec.smod 32).toNat = (nI (a / 2 ^ k)).toBitVec
  rw [q_sl k hk]
  apply BitVec.eq_of_getLsbD_eq
  intro i hi
  rw [BitVec.getLsbD_sshiftRight, BitVec.msb_eq_getLsbD_last, q_bt, q_bt, q_bt, Nat.testBit_div_two_pow]
  have h31 : a.testBit 31 = false := q_hi ha (by omega)
  rcases Nat.lt_or_ge (k + i) 32 with h | h
  · simp [hi, h, Nat.add_comm]
  · have h2 : a.testBit (i + k) = false := q_hi ha (by omega)
    have h3 : ¬ (k + i < 32) := by omega
    simp [hi, h3, h31, h2]
theorem q_mask (n k : Nat) : nI n &&& nI (2 ^ k - 1) = nI (n % 2 ^ k) := by
  rw [q_and, Nat.and_two_pow_sub_one_eq_mod]
theorem q_63 (n : Nat) : nI n &&& (63 : Int32) = nI (n % 64) := q_mask n 6
theorem q_1 (n : Nat) : nI n &&& (1 : Int32) = nI (n % 2) := q_mask n 1
theorem q_18 (n : Nat) : nI n &&& (262143 : Int32) = nI (n % 262144) := q_mask n 18
theorem q_ord {a b k : Nat} (h : b < 2 ^ k) : nI (a * 2 ^ k) ||| nI b = nI (a * 2 ^ k + b) := by
  rw [q_or, Nat.mul_comm, ← Nat.two_pow_add_eq_or_of_lt h]
theorem q_ord' {a b k : Nat} (h : b < 2 ^ k) : nI b ||| nI (a * 2 ^ k) = nI (a * 2 ^ k + b) := by
  rw [q_or, Nat.or_comm, Nat.mul_comm, ← Nat.two_pow_add_eq_or_of_lt h]
