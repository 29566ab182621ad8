/-! PURE SIDE 27: Long.bitCount -/
def cnt (p : Nat → Bool) : Nat → Nat
  | 0 => 0
  | n + 1 => cnt p n + (if p n then 1 else 0)
theorem cnt_congr {p q : Nat → Bool} : ∀ {n : Nat} (_ : ∀ i, i < n → p i = q i), cnt p n = cnt q n
  | 0, _ => rfl
  | n + 1, h => by
    show cnt p n + _ = cnt q n + _
    rw [cnt_congr (fun i hi => h i (by omega)), h n (by omega)]
theorem cnt_add (p : Nat → Bool) (a : Nat) : ∀ b, cnt p (a + b) = cnt p a + cnt (fun i => p (a + i)) b
  | 0 => rfl
  | b + 1 => by
    show cnt p (a + b) + (if p (a + b) then 1 else 0) = cnt p a + (cnt (fun i => p (a + i)) b + (if p (a + b) then 1 else 0))
    rw [cnt_add p a b]; omega
theorem cnt_zero {p : Nat → Bool} : ∀ {n : Nat} (_ : ∀ i, i < n → p i = false), cnt p n = 0
  | 0, _ => rfl
  | n + 1, h => by
    show cnt p n + _ = 0
    rw [cnt_zero (fun i hi => h i (by omega)), h n (by omega)]; rfl
theorem cnt_le (p : Nat → Bool) : ∀ n, cnt p n ≤ n
  | 0 => Nat.le_refl 0
  | n + 1 => by
    show cnt p n + _ ≤ n + 1
    have := cnt_le p n
    split <;> omega
/-- n bytes, each m -/
def rep (m : Nat) : Nat → Nat
  | 0 => 0
  | n + 1 => 256 * rep m n + m
/-- a function of each byte -/
def byt (f : Nat → Nat) : Nat → Nat → Nat
  | 0, _ => 0
  | n + 1, v => 256 * byt f n (v / 256) + f (v % 256)
def s1 (p : Nat) : Nat := p - (p / 2 &&& 85)
def s2 (p : Nat) : Nat := (p &&& 51) + (p / 4 &&& 51)
def s3 (p : Nat) : Nat := (p + p / 16) % 16
theorem byt_lt {f : Nat → Nat} (hf : ∀ p, p < 256 → f p < 256) : ∀ n v, byt f n v < 256 ^ n
  | 0, _ => by show 0 < 1; omega
  | n + 1, v => by
    have h1 := byt_lt hf n (v / 256)
    have h2 := hf (v % 256) (by omega)
    show 256 * byt f n (v / 256) + f (v % 256) < 256 ^ (n + 1)
    rw [Nat.pow_succ]; omega
theorem byt_byt {f g : Nat → Nat} (hf : ∀ p, p < 256 → f p < 256) : ∀ n v, byt g n (byt f n v) = byt (fun p => g (f p)) n v
  | 0, _ => rfl
  | n + 1, v => by
    have h2 := hf (v % 256) (by omega)
    show 256 * byt g n ((256 * byt f n (v / 256) + f (v % 256)) / 256) + g ((256 * byt f n (v / 256) + f (v % 256)) % 256) = 256 * byt (fun p => g (f p)) n (v / 256) + g (f (v % 256))
    rw [show (256 * byt f n (v / 256) + f (v % 256)) / 256 = byt f n (v / 256) by omega, show (256 * byt f n (v / 256) + f (v % 256)) % 256 = f (v % 256) by omega, byt_byt hf n]
theorem and_rep (m : Nat) (hm : m < 256) (n q p : Nat) (hp : p < 256) : (256 * q + p) &&& rep m (n + 1) = 256 * (q &&& rep m n) + (p &&& m) := by
  show (256 * q + p) &&& (256 * rep m n + m) = _
  exact band_lo (k := 8) hp hm
theorem e55 : ∀ e, e < 2 → ∀ p, p < 256 → (128 * e + p / 2) &&& 85 = p / 2 &&& 85 := by decide +kernel
theorem e33 : ∀ e, e < 4 → ∀ p, p < 256 → (64 * e + p / 4) &&& 51 = p / 4 &&& 51 := by decide +kernel
theorem s1_ok : ∀ p, p < 256 → (p / 2 &&& 85) ≤ p ∧ s1 p < 256 := by decide +kernel
theorem s2_ok : ∀ p, p < 256 → s2 p < 256 ∧ s2 (s1 p) % 16 ≤ 4 ∧ s2 (s1 p) / 16 ≤ 4 := by decide +kernel
theorem s3_ok : ∀ p, p < 256 → s3 (s2 (s1 p)) = cnt (fun i => p.testBit i) 8 := by decide +kernel
theorem L1 : ∀ n v, v < 256 ^ n → (v / 2 &&& rep 85 n) ≤ v ∧ v - (v / 2 &&& rep 85 n) = byt s1 n v
  | 0, v, h => by
    have : v = 0 := by simpa using h
    subst this; exact ⟨Nat.le_refl 0, rfl⟩
  | n + 1, v, h => by
    have hq : v / 256 < 256 ^ n := by rw [Nat.pow_succ] at h; omega
    obtain ⟨i1, i2⟩ := L1 n (v / 256) hq
    have hp : v % 256 < 256 := by omega
    obtain ⟨j1, -⟩ := s1_ok _ hp
    have e : v / 2 &&& rep 85 (n + 1) = 256 * (v / 256 / 2 &&& rep 85 n) + (v % 256 / 2 &&& 85) := by
      rw [show v / 2 = 256 * (v / 256 / 2) + (128 * (v / 256 % 2) + v % 256 / 2) by omega, and_rep 85 (by omega) n _ _ (by omega), e55 _ (by omega) _ hp]
    rw [e]
    show _ ∧ _ = 256 * byt s1 n (v / 256) + s1 (v % 256)
    rw [← i2]
    unfold s1
    omega
theorem L2 : ∀ n x, x < 256 ^ n → (x &&& rep 51 n) + (x / 4 &&& rep 51 n) = byt s2 n x
  | 0, x, _ => by
    show (x &&& 0) + (x / 4 &&& 0) = 0
    simp
  | n + 1, x, h => by
    have hq : x / 256 < 256 ^ n := by rw [Nat.pow_succ] at h; omega
    have ih := L2 n (x / 256) hq
    have hp : x % 256 < 256 := by omega
    have e1 : x &&& rep 51 (n + 1) = 256 * (x / 256 &&& rep 51 n) + (x % 256 &&& 51) := by
      have := and_rep 51 (by omega) n (x / 256) (x % 256) hp
      rwa [show 256 * (x / 256) + x % 256 = x by omega] at this
    have e2 : x / 4 &&& rep 51 (n + 1) = 256 * (x / 256 / 4 &&& rep 51 n) + (x % 256 / 4 &&& 51) := by
      rw [show x / 4 = 256 * (x / 256 / 4) + (64 * (x / 256 % 4) + x % 256 / 4) by omega, and_rep 51 (by omega) n _ _ (by omega), e33 _ (by omega) _ hp]
    rw [e1, e2]
    show _ = 256 * byt s2 n (x / 256) + s2 (x % 256)
    rw [← ih]
    unfold s2
    omega
/-- each byte has halves of at most 4 -/
def low4 : Nat → Nat → Prop
  | 0, _ => True
  | n + 1, x => x % 16 ≤ 4 ∧ x / 16 % 16 ≤ 4 ∧ low4 n (x / 256)
theorem low_byt : ∀ n v, low4 n (byt (fun p => s2 (s1 p)) n v)
  | 0, _ => True.intro
  | n + 1, v => by
    have hp : v % 256 < 256 := by omega
    obtain ⟨h1, h2, h3⟩ := s2_ok _ hp
    have h4 := (s2_ok _ (s1_ok _ hp).2).1
    show (256 * byt (fun p => s2 (s1 p)) n (v / 256) + s2 (s1 (v % 256))) % 16 ≤ 4 ∧ (256 * byt (fun p => s2 (s1 p)) n (v / 256) + s2 (s1 (v % 256))) / 16 % 16 ≤ 4 ∧ low4 n ((256 * byt (fun p => s2 (s1 p)) n (v / 256) + s2 (s1 (v % 256))) / 256)
    rw [show (256 * byt (fun p => s2 (s1 p)) n (v / 256) + s2 (s1 (v % 256))) / 256 = byt (fun p => s2 (s1 p)) n (v / 256) by omega]
    exact ⟨by omega, by omega, low_byt n _⟩
theorem and15 (x : Nat) : x &&& 15 = x % 16 := Nat.and_two_pow_sub_one_eq_mod x 4
theorem L3 : ∀ n x, x < 256 ^ n → low4 n x → (x + x / 16) &&& rep 15 n = byt s3 n x
  | 0, x, _, _ => by
    show _ &&& 0 = 0
    simp
  | n + 1, x, h, hl => by
    have hq : x / 256 < 256 ^ n := by rw [Nat.pow_succ] at h; omega
    obtain ⟨l1, l2, l3⟩ := hl
    have ih := L3 n (x / 256) hq l3
    have l4 : x / 256 % 16 ≤ 4 := by
      cases n with
      | zero => simp at hq; omega
      | succ n => exact l3.1
    have e : x + x / 16 = 256 * (x / 256 + x / 256 / 16) + (x % 256 + x % 256 / 16 + 16 * (x / 256 % 16)) := by omega
    rw [e, and_rep 15 (by omega) n _ _ (by omega), ih, and15]
    show _ = 256 * byt s3 n (x / 256) + s3 (x % 256)
    unfold s3
    omega
/-- longs as numbers -/
def nL (n : Nat) : Int64 := Int64.ofNat n
theorem nL_bv (n : Nat) : (nL n).toBitVec = BitVec.ofNat 64 n := rfl
theorem nL_of (x : Int64) : x = nL x.toBitVec.toNat := by
  apply Int64.toBitVec_inj.1
  rw [nL_bv, BitVec.ofNat_toNat, BitVec.setWidth_eq]
theorem nL_and (a b : Nat) : nL a &&& nL b = nL (a &&& b) := by
  apply Int64.toBitVec_inj.1
  rw [Int64.toBitVec_and, nL_bv, nL_bv, nL_bv]
  apply BitVec.eq_of_getLsbD_eq
  intro i hi
  simp [hi]
theorem nL_add (a b : Nat) : nL a + nL b = nL (a + b) := by
  apply Int64.toBitVec_inj.1
  rw [Int64.toBitVec_add, nL_bv, nL_bv, nL_bv, BitVec.ofNat_add]
theorem nL_sub {a b : Nat} (h : b ≤ a) : nL a - nL b = nL (a - b) := by
  apply Int64.toBitVec_inj.1
  rw [Int64.toBitVec_sub, nL_bv, nL_bv, nL_bv]
  have e : a = (a - b) + b := by omega
  rw [show BitVec.ofNat 64 a = BitVec.ofNat 64 (a - b) + BitVec.ofNat 64 b by rw [← BitVec.ofNat_add, ← e], BitVec.add_sub_cancel]
theorem sh_amt : ∀ k, k < 64 → ((nI k).toInt64.toUInt64 &&& Int64.toUInt64 63).toBitVec.toNat = k := by decide +kernel
theorem nL_shr {a k : Nat} (ha : a < 18446744073709551616) (hk : k < 64) : jlushr (nL a) (nI k) = nL (a / 2 ^ k) := by
  apply Int64.toBitVec_inj.1
  have e : (((nI k).toInt64.toUInt64 &&& Int64.toUInt64 63).toBitVec % 64).toNat = k := by
    rw [BitVec.toNat_umod, sh_amt k hk]; exact Nat.mod_eq_of_lt hk
  apply BitVec.eq_of_toNat_eq
  show ((nL a).toBitVec >>> (((nI k).toInt64.toUInt64 &&& Int64.toUInt64 63).toBitVec % 64).toNat).toNat = (BitVec.ofNat 64 (a / 2 ^ k)).toNat
  rw [e, BitVec.toNat_ushiftRight, nL_bv, BitVec.toNat_ofNat, BitVec.toNat_ofNat, Nat.shiftRight_eq_div_pow, Nat.mod_eq_of_lt (show a < 2 ^ 64 from ha), Nat.mod_eq_of_lt (show a / 2 ^ k < 2 ^ 64 from Nat.lt_of_le_of_lt (Nat.div_le_self _ _) ha)]
theorem nL_int (a : Nat) : (nL a).toInt32 = nI a := Int64.toInt32_ofNat'
theorem bt_nL {a : Nat} (i : Nat) : bt (nL a) i = (decide (i < 64) && a.testBit i) := by
  unfold bt
  rw [nL_bv, BitVec.getLsbD_ofNat]
/-- the bits, byte by byte -/
theorem cnt_byte (v n : Nat) : cnt (fun i => v.testBit i) (8 + n) = cnt (fun i => (v % 256).testBit i) 8 + cnt (fun i => (v / 256).testBit i) n := by
  rw [cnt_add]
  congr 1
  · refine cnt_congr (fun i hi => ?_)
    rw [show (256 : Nat) = 2 ^ 8 from rfl, Nat.testBit_mod_two_pow]
    simp [hi]
  · refine cnt_congr (fun i hi => ?_)
    rw [show (256 : Nat) = 2 ^ 8 from rfl, Nat.testBit_div_two_pow, Nat.add_comm]
/-- the sum of the bytes -/
def sumB : Nat → Nat → Nat
  | 0, _ => 0
  | n + 1, x => x % 256 + sumB n (x / 256)
theorem sum_cnt : ∀ n v, sumB n (byt (fun p => s3 (s2 (s1 p))) n v) = cnt (fun i => v.testBit i) (8 * n)
  | 0, _ => rfl
  | n + 1, v => by
    have hp : v % 256 < 256 := by omega
    have h1 := s3_ok _ hp
    have h2 := cnt_le (fun i => (v % 256).testBit i) 8
    show (256 * byt _ n (v / 256) + s3 (s2 (s1 (v % 256)))) % 256 + sumB n ((256 * byt _ n (v / 256) + s3 (s2 (s1 (v % 256)))) / 256) = _
    rw [show 8 * (n + 1) = 8 + 8 * n by omega, cnt_byte, ← sum_cnt n (v / 256), ← h1]
    rw [show ∀ a b : Nat, b < 256 → (256 * a + b) % 256 = b from fun a b hb => by omega, show ∀ a b : Nat, b < 256 → (256 * a + b) / 256 = a from fun a b hb => by omega]
    · omega
    · omega
theorem low8 : ∀ n v, sumB n (byt (fun p => s3 (s2 (s1 p))) n v) ≤ 8 * n := fun n v => by rw [sum_cnt]; exact cnt_le _ _
def all8 : Nat → Nat → Prop
  | 0, _ => True
  | n + 1, x => x % 256 ≤ 8 ∧ all8 n (x / 256)
theorem all_byt : ∀ n v, all8 n (byt (fun p => s3 (s2 (s1 p))) n v)
  | 0, _ => True.intro
  | n + 1, v => by
    have hp : v % 256 < 256 := by omega
    have h1 := s3_ok _ hp
    have h2 := cnt_le (fun i => (v % 256).testBit i) 8
    show (256 * byt (fun p => s3 (s2 (s1 p))) n (v / 256) + s3 (s2 (s1 (v % 256)))) % 256 ≤ 8 ∧ all8 n ((256 * byt (fun p => s3 (s2 (s1 p))) n (v / 256) + s3 (s2 (s1 (v % 256)))) / 256)
    rw [show (256 * byt (fun p => s3 (s2 (s1 p))) n (v / 256) + s3 (s2 (s1 (v % 256)))) / 256 = byt (fun p => s3 (s2 (s1 p))) n (v / 256) by omega]
    exact ⟨by omega, all_byt n _⟩
theorem fold8 {y : Nat} (hy : y < 18446744073709551616) (h : all8 8 y) : y + y / 256 < 18446744073709551616 ∧ (y + y / 256) + (y + y / 256) / 65536 < 18446744073709551616 ∧ (((y + y / 256) + (y + y / 256) / 65536) + ((y + y / 256) + (y + y / 256) / 65536) / 4294967296) % 128 = sumB 8 y := by
  obtain ⟨h0, h1, h2, h3, h4, h5, h6, h7, -⟩ := h
  simp only [sumB]
  simp only [Nat.div_div_eq_div_mul, Nat.reduceMul] at h1 h2 h3 h4 h5 h6 h7 ⊢
  obtain ⟨b0, e0⟩ : ∃ b, b = y % 256 := ⟨_, rfl⟩
  obtain ⟨b1, e1⟩ : ∃ b, b = y / 256 % 256 := ⟨_, rfl⟩
  obtain ⟨b2, e2⟩ : ∃ b, b = y / 65536 % 256 := ⟨_, rfl⟩
  obtain ⟨b3, e3⟩ : ∃ b, b = y / 16777216 % 256 := ⟨_, rfl⟩
  obtain ⟨b4, e4⟩ : ∃ b, b = y / 4294967296 % 256 := ⟨_, rfl⟩
  obtain ⟨b5, e5⟩ : ∃ b, b = y / 1099511627776 % 256 := ⟨_, rfl⟩
  obtain ⟨b6, e6⟩ : ∃ b, b = y / 281474976710656 % 256 := ⟨_, rfl⟩
  obtain ⟨b7, e7⟩ : ∃ b, b = y / 72057594037927936 % 256 := ⟨_, rfl⟩
  have ey : y = b0 + 256 * b1 + 65536 * b2 + 16777216 * b3 + 4294967296 * b4 + 1099511627776 * b5 + 281474976710656 * b6 + 72057594037927936 * b7 := by omega
  rw [← e0] at h0 ⊢
  rw [← e1] at h1 ⊢
  rw [← e2] at h2 ⊢
  rw [← e3] at h3 ⊢
  rw [← e4] at h4 ⊢
  rw [← e5] at h5 ⊢
  rw [← e6] at h6 ⊢
  rw [← e7] at h7 ⊢
  clear e0 e1 e2 e3 e4 e5 e6 e7
  have f1 : y / 256 = b1 + 256 * b2 + 65536 * b3 + 16777216 * b4 + 4294967296 * b5 + 1099511627776 * b6 + 281474976710656 * b7 := by omega
  rw [f1, ey]
  clear f1 ey hy
  have f2 : (b0 + 256 * b1 + 65536 * b2 + 16777216 * b3 + 4294967296 * b4 + 1099511627776 * b5 + 281474976710656 * b6 + 72057594037927936 * b7 + (b1 + 256 * b2 + 65536 * b3 + 16777216 * b4 + 4294967296 * b5 + 1099511627776 * b6 + 281474976710656 * b7)) / 65536 = (b2 + b3) + 256 * (b3 + b4) + 65536 * (b4 + b5) + 16777216 * (b5 + b6) + 4294967296 * (b6 + b7) + 1099511627776 * b7 := by omega
  rw [f2]
  clear f2
  refine ⟨by omega, by omega, ?_⟩
  have f3 : (b0 + 256 * b1 + 65536 * b2 + 16777216 * b3 + 4294967296 * b4 + 1099511627776 * b5 + 281474976710656 * b6 + 72057594037927936 * b7 + (b1 + 256 * b2 + 65536 * b3 + 16777216 * b4 + 4294967296 * b5 + 1099511627776 * b6 + 281474976710656 * b7) + ((b2 + b3) + 256 * (b3 + b4) + 65536 * (b4 + b5) + 16777216 * (b5 + b6) + 4294967296 * (b6 + b7) + 1099511627776 * b7)) / 4294967296 = (b4 + b5 + b6 + b7) + 256 * (b5 + b6 + b7) + 65536 * (b6 + b7) + 16777216 * b7 := by omega
  rw [f3]
  omega
theorem q_127 (n : Nat) : nI n &&& (127 : Int32) = nI (n % 128) := q_mask n 7
theorem rep85 : (6148914691236517205 : Int64) = nL (rep 85 8) := by decide +kernel
theorem rep51 : (3689348814741910323 : Int64) = nL (rep 51 8) := by decide +kernel
theorem rep15 : (1085102592571150095 : Int64) = nL (rep 15 8) := by decide +kernel
theorem S_bitCount {x : Int64} {post : Int32 → Prop} (h : post (nI (cnt (bt x) 64))) : P_J13_bitCount_95d88 x post := by
  have hx := nL_of x
  have hv : x.toBitVec.toNat < 18446744073709551616 := x.toBitVec.isLt
  generalize x.toBitVec.toNat = v at hx hv
  subst hx
  have e0 : cnt (bt (nL v)) 64 = cnt (fun i => v.testBit i) 64 := cnt_congr (fun i hi => by rw [bt_nL]; simp [hi])
  rw [e0] at h
  clear e0
  have p8 : (256 : Nat) ^ 8 = 18446744073709551616 := by decide
  obtain ⟨k1, k2⟩ := L1 8 v (by rw [p8]; exact hv)
  have hb1 := byt_lt (f := s1) (fun p hp => (s1_ok p hp).2) 8 v
  rw [p8] at hb1
  have k3 := L2 8 (byt s1 8 v) (by rw [p8]; exact hb1)
  rw [byt_byt (fun p hp => (s1_ok p hp).2)] at k3
  have s21 : ∀ p, p < 256 → s2 (s1 p) < 256 := fun p hp => (s2_ok _ (s1_ok p hp).2).1
  have hb2 := byt_lt (f := fun p => s2 (s1 p)) s21 8 v
  rw [p8] at hb2
  have k4 := L3 8 _ (by rw [p8]; exact hb2) (low_byt 8 v)
  rw [byt_byt s21] at k4
  have hb3 := byt_lt (f := fun p => s3 (s2 (s1 p))) (fun p hp => by have := s3_ok p hp; have := cnt_le (fun i => p.testBit i) 8; omega) 8 v
  rw [p8] at hb3
  have hf := fold8 hb3 (all_byt 8 v)
  rw [sum_cnt 8 v] at hf
  obtain ⟨f1, f2, f3⟩ := hf
  intro y1 hy1 y2 hy2
  have i1 : (1 : Int32) = nI 1 := rfl
  have i2 : (2 : Int32) = nI 2 := rfl
  have i4 : (4 : Int32) = nI 4 := rfl
  have i8 : (8 : Int32) = nI 8 := rfl
  have i16 : (16 : Int32) = nI 16 := rfl
  have i32 : (32 : Int32) = nI 32 := rfl
  have ea : nL v - (jlushr (nL v) (1 : Int32) &&& (6148914691236517205 : Int64)) = nL (byt s1 8 v) := by
    rw [i1, nL_shr hv (by omega), rep85, nL_and, show (2 : Nat) ^ 1 = 2 from rfl, nL_sub k1, k2]
  rw [ea, i2, nL_shr hb1 (by omega), rep51, nL_and, nL_and, nL_add, show (2 : Nat) ^ 2 = 4 from rfl, k3] at hy1
  subst hy1
  rw [i4, nL_shr hb2 (by omega), nL_add, rep15, nL_and, show (2 : Nat) ^ 4 = 16 from rfl, k4, i8, nL_shr hb3 (by omega), nL_add, show (2 : Nat) ^ 8 = 256 from rfl] at hy2
  subst hy2
  rw [i16, nL_shr f1 (by omega), nL_add, show (2 : Nat) ^ 16 = 65536 from rfl, i32, nL_shr f2 (by omega), nL_add, show (2 : Nat) ^ 32 = 4294967296 from rfl, nL_int, q_127, f3]
  exact h
/-- how many of the terms' numbers the variable has in the answers -/
def tfor (T A : List Nat) (v : Nat) : Nat := cnt (fun n => A.any (fun a => cell a v == n)) T.length
theorem C_termsFor {T M : List Nat} {Q : List Pt3} {A : List Nat} {kv : Nat} {c : TriS} {x : Int32} {post : Int32 → Prop} {postX : Nat → Prop} (hc : cls T M Q A kv c) (ha : ansOK T A kv) (h0 : ¬ isN 4 x → postX 1) (h1 : ∀ v, v < 4 → x = nI v → kv.testBit v = false → post 0) (h2 : ∀ v, v < 4 → x = nI v → kv.testBit v = true → post (nI (tfor T A v))) : P_X7_termsFor c x post postX := by
  obtain ⟨a1, a2, a3, a4, a5, a6, a7, a8⟩ := hc
  have hT := a1.2.1
  have hsz : c.keptSize = nI A.length := a5.1
  refine S_isVariable (fun hv => ⟨fun _ => ?_, fun e => absurd e (by decide)⟩) (fun nv => ⟨fun e => absurd rfl e, fun _ => h0 nv⟩)
  obtain ⟨v, hv4, ev⟩ := hv
  have k1 := h1 v hv4 ev
  have k2 := h2 v hv4 ev
  rw [a7]
  subst ev
  refine S_hasBitB (by omega) (by omega) (fun hb => ⟨fun _ => ?_, fun e => absurd e (by decide)⟩) (fun hb => ⟨fun e => absurd rfl e, fun _ => k1 hb⟩)
  have k2 := k2 hb
  refine wl (fun w => ∃ i b, w = (b, nI i) ∧ i ≤ A.length ∧ ∀ n, n < 64 → bt b n = (A.take i).any (fun a => cell a v == n)) (fun w => 2000 - w.2.toNatClampNeg) ⟨0, 0, rfl, by omega, fun n hn => by rw [bt_0]; rfl⟩ ?_
  rintro w ⟨i, b, rfl, hi, hbt⟩ K hK
  refine ⟨fun c3 => ?_, fun c3 => ?_⟩
  · have c3 : c.keptSize ≤ nI i := c3
    rw [hsz] at c3
    have : A.length ≤ i := (nI_leI (by omega) (by omega)).mp c3
    have e : i = A.length := by omega
    subst e
    rw [List.take_length] at hbt
    refine S_bitCount ?_
    have e : cnt (bt b) 64 = tfor T A v := by
      unfold tfor
      rw [show 64 = T.length + (64 - T.length) by omega, cnt_add, cnt_zero (n := 64 - T.length), Nat.add_zero]
      · exact cnt_congr (fun n hn => hbt n (by omega))
      · intro n hn
        show bt b (T.length + n) = false
        rw [hbt _ (by omega)]
        cases hz : A.any (fun a => cell a v == T.length + n)
        · rfl
        · obtain ⟨a, haA, hca⟩ := List.any_eq_true.mp hz
          have := (ha.2 a haA).2 v hv4 hb
          have hca := eq_of_beq hca
          omega
    rw [e]; exact k2
  · have hil : i < A.length := by
      rcases Nat.lt_or_ge i A.length with z | z
      · exact z
      · exact absurd (show c.keptSize ≤ nI i by rw [hsz]; exact n_le z (by omega)) c3
    have hrow := ha.2 _ (List.getElem_mem hil)
    refine S_at (by omega) (by omega) ?_
    rw [a5.2 i hil]
    refine S_cellOf (Nat.lt_trans hrow.1.1 (by omega)) (by omega) ?_
    show K (b ||| ((1 : Int64) <<< ((nI (cell A[i] v)).toInt64 &&& 63)), nI i + (1 : Int32))
    rw [nI_1]
    refine hK _ ⟨i + 1, _, rfl, by omega, fun n hn => ?_⟩ ?_
    · rw [bt_or, bt_one (cell_lt _ _) hn, hbt n hn, take_s hil, List.any_append]
      congr 1
      show decide (n = cell A[i] v) = ((cell A[i] v == n) || false)
      rw [Bool.or_false]
      by_cases q : n = cell A[i] v
      · subst q; simp
      · rw [decide_eq_false q]
        have : ¬ cell A[i] v = n := fun z => q z.symm
        simp [this]
    · show 2000 - (nI (i + 1)).toNatClampNeg < 2000 - (nI i).toNatClampNeg
      rw [n_cl (by omega), n_cl (by omega)]; omega
