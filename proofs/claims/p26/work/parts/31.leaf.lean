/-! PURE SIDE 2: the small functions -/
theorem ofNat_nI (n : Nat) : Int32.ofNat n = nI n := rfl
theorem S_at {n i : Nat} {f : Nat → Int32} {post : Int32 → Prop} (hi : i < n) (hn : n < 2147483648) (h : post (f i)) : P_X7_at n f (nI i) post := by
  refine ⟨fun c => absurd c (nI_pos (by omega)), fun _ => ⟨fun c => absurd c (n_nle hi hn), fun _ => ⟨n_in hi hn, ?_⟩⟩⟩
  rw [n_cl (by omega)]; exact h
theorem S_at_hi {n i : Nat} {f : Nat → Int32} {post : Int32 → Prop} (hi : n ≤ i) (hn : i < 2147483648) (h : post 0) : P_X7_at n f (nI i) post :=
  ⟨fun _ => h, fun _ => ⟨fun _ => h, fun c => absurd (n_le hi hn) c⟩⟩
theorem S_at_neg {n : Nat} {x : Int32} {f : Nat → Int32} {post : Int32 → Prop} (hx : x < 0) (h : post 0) : P_X7_at n f x post :=
  ⟨fun _ => h, fun c => absurd hx c⟩
theorem S_put {n i : Nat} {f : Nat → Int32} {x : Int32} {post : (Nat → Int32) → Prop} (hi : i < n) (hn : n < 2147483648) (h : post (upd f i x)) : P_X7_put n f (nI i) x post := by
  refine ⟨fun c => absurd c (nI_pos (by omega)), fun _ => ⟨fun c => absurd c (n_nle hi hn), fun _ => ⟨n_in hi hn, ?_⟩⟩⟩
  rw [n_cl (by omega)]; exact h
theorem S_put_hi {n i : Nat} {f : Nat → Int32} {x : Int32} {post : (Nat → Int32) → Prop} (hi : n ≤ i) (hn : i < 2147483648) (h : post f) : P_X7_put n f (nI i) x post :=
  ⟨fun _ => h, fun _ => ⟨fun _ => h, fun c => absurd (n_le hi hn) c⟩⟩
-- fields of packed numbers
def part (t p : Nat) : Nat := t / 64 ^ (2 - p) % 64
def cell (r v : Nat) : Nat := r / 64 ^ (3 - v) % 64
def rol (t o : Nat) : Nat := if o = 0 then t else if o = 1 then t % 4096 * 64 + t / 4096 else t % 64 * 4096 + t / 64
theorem q_pw (k : Nat) : 64 ^ k = 2 ^ (6 * k) := by rw [show (64 : Nat) = 2 ^ 6 from rfl, ← Nat.pow_mul]
theorem S_partShift {p : Nat} {post : Int32 → Prop} (hp : p ≤ 2) (h : post (nI (6 * (2 - p)))) : P_X7_partShift (nI p) post := by
  have e : (6 : Int32) * ((2 : Int32) - nI p) = nI (6 * (2 - p)) := by
    rw [show (2 : Int32) = nI 2 from rfl, n_sub hp, show (6 : Int32) = nI 6 from rfl, pk_mul]
  show post ((6 : Int32) * ((2 : Int32) - nI p))
  rw [e]; exact h
theorem S_cellShift {v : Nat} {post : Int32 → Prop} (hv : v ≤ 3) (h : post (nI (6 * (3 - v)))) : P_X7_cellShift (nI v) post := by
  have e : (6 : Int32) * ((3 : Int32) - nI v) = nI (6 * (3 - v)) := by
    rw [show (3 : Int32) = nI 3 from rfl, n_sub hv, show (6 : Int32) = nI 6 from rfl, pk_mul]
  show post ((6 : Int32) * ((3 : Int32) - nI v))
  rw [e]; exact h
theorem S_partOf {t p : Nat} {post : Int32 → Prop} (ht : t < 2147483648) (hp : p ≤ 2) (h : post (nI (part t p))) : P_X7_partOf (nI t) (nI p) post := by
  refine S_partShift hp ?_
  show post ((nI t >>> (nI (6 * (2 - p)) &&& 31)) &&& (63 : Int32))
  rw [q_shr ht (by omega), q_63, ← q_pw]; exact h
theorem S_cellOf {r v : Nat} {post : Int32 → Prop} (hr : r < 2147483648) (hv : v ≤ 3) (h : post (nI (cell r v))) : P_X7_cellOf (nI r) (nI v) post := by
  refine S_cellShift hv ?_
  show post ((nI r >>> (nI (6 * (3 - v)) &&& 31)) &&& (63 : Int32))
  rw [q_shr hr (by omega), q_63, ← q_pw]; exact h
theorem S_hasBit {b p : Nat} {post : Int32 → Prop} (hb : b < 2147483648) (hp : p < 32) (h : post (if b.testBit p then 1 else 0)) : P_X7_hasBit (nI b) (nI p) post := by
  have e : (nI b >>> (nI p &&& 31)) &&& (1 : Int32) = nI (b / 2 ^ p % 2) := by rw [q_shr hb hp, q_1]
  have e2 : b.testBit p = decide (b / 2 ^ p % 2 = 1) := Nat.testBit_eq_decide_div_mod_eq
  show (((nI b >>> (nI p &&& 31)) &&& (1 : Int32)) = 0 → post 0) ∧ (¬ ((nI b >>> (nI p &&& 31)) &&& (1 : Int32)) = 0 → post 1)
  rw [e]
  rcases Nat.mod_two_eq_zero_or_one (b / 2 ^ p) with q | q
  · rw [q] at e2 ⊢
    rw [e2] at h
    exact ⟨fun _ => h, fun c => absurd rfl c⟩
  · rw [q] at e2 ⊢
    rw [e2] at h
    exact ⟨fun c => absurd c (by decide), fun _ => h⟩
theorem rol_lt {t o : Nat} (ht : t < 262144) : rol t o < 262144 := by
  unfold rol
  split
  · exact ht
  split <;> omega
theorem S_rolled {t o : Nat} {post : Int32 → Prop} (ht : t < 262144) (ho : o < 3) (h : post (nI (rol t o))) : P_X7_rolled (nI t) (nI o) post := by
  show post (((nI t <<< (((6 : Int32) * nI o) &&& 31)) ||| (nI t >>> (((18 : Int32) - ((6 : Int32) * nI o)) &&& 31))) &&& (262143 : Int32))
  rw [show (6 : Int32) = nI 6 from rfl, pk_mul, show (18 : Int32) = nI 18 from rfl, n_sub (by omega), q_shl _ (by omega), q_shr (by omega) (by omega), q_or, q_18]
  have e : (t * 2 ^ (6 * o) ||| t / 2 ^ (18 - 6 * o)) % 262144 = rol t o := by
    have h1 : t / 2 ^ (18 - 6 * o) < 2 ^ (6 * o) := by
      rcases (show o = 0 ∨ o = 1 ∨ o = 2 by omega) with rfl | rfl | rfl <;> (simp only [Nat.reduceMul, Nat.reduceSub, Nat.reducePow]; omega)
    rw [Nat.mul_comm, ← Nat.two_pow_add_eq_or_of_lt h1]
    unfold rol
    rcases (show o = 0 ∨ o = 1 ∨ o = 2 by omega) with rfl | rfl | rfl <;> (simp only [Nat.reduceMul, Nat.reduceSub, Nat.reducePow, Nat.reduceEqDiff, if_true, if_false]; omega)
  rw [e]; exact h
theorem S_rolledBack {t o : Nat} {post : Int32 → Prop} (ht : t < 262144) (ho : o < 3) (h : post (nI (rol t ((3 - o) % 3)))) : P_X7_rolledBack (nI t) (nI o) post := by
  show post (((nI t >>> (((6 : Int32) * nI o) &&& 31)) ||| (nI t <<< (((18 : Int32) - ((6 : Int32) * nI o)) &&& 31))) &&& (262143 : Int32))
  rw [show (6 : Int32) = nI 6 from rfl, pk_mul, show (18 : Int32) = nI 18 from rfl, n_sub (by omega), q_shl _ (by omega), q_shr (by omega) (by omega), q_or, q_18]
  have e : (t / 2 ^ (6 * o) ||| t * 2 ^ (18 - 6 * o)) % 262144 = rol t ((3 - o) % 3) := by
    have h1 : t / 2 ^ (6 * o) < 2 ^ (18 - 6 * o) := by
      rcases (show o = 0 ∨ o = 1 ∨ o = 2 by omega) with rfl | rfl | rfl <;> (simp only [Nat.reduceMul, Nat.reduceSub, Nat.reducePow]; omega)
    rw [Nat.or_comm, Nat.mul_comm, ← Nat.two_pow_add_eq_or_of_lt h1]
    unfold rol
    rcases (show o = 0 ∨ o = 1 ∨ o = 2 by omega) with rfl | rfl | rfl <;> (simp only [Nat.reduceMul, Nat.reduceSub, Nat.reducePow, Nat.reduceMod, Nat.reduceEqDiff, if_true, if_false]; omega)
  rw [e]; exact h
