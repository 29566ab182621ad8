/-! PURE SIDE 32: the model: termAt, count, seek, variables, shape -/
/-- the places of an order, as the model counts them -/
def rnk (o t : Nat) : Nat := (part t o * 40 + part t ((o + 1) % 3)) * 40 + part t ((o + 2) % 3)
theorem rol_parts {t o : Nat} (ht : t < 262144) (ho : o < 3) : rol t o = enc (part t o) (part t ((o + 1) % 3)) (part t ((o + 2) % 3)) := by
  have e := enc_part ht
  obtain ⟨h0, h1, h2⟩ := rol_enc (part_lt t 0) (part_lt t 1) (part_lt t 2)
  rw [e] at h0 h1 h2
  rcases (show o = 0 ∨ o = 1 ∨ o = 2 by omega) with rfl | rfl | rfl
  · rw [h0]; exact e.symm
  · rw [h1]
  · rw [h2]
theorem rnk_lt {t u o : Nat} (ht : t < 262144) (hu : u < 262144) (ho : o < 3) (h40 : ∀ p, p < 3 → part t p < 40) (g40 : ∀ p, p < 3 → part u p < 40) : rnk o t < rnk o u ↔ rol t o < rol u o := by
  rw [rol_parts ht ho, rol_parts hu ho]
  have a0 := h40 o ho
  have a1 := h40 ((o + 1) % 3) (by omega)
  have a2 := h40 ((o + 2) % 3) (by omega)
  have b0 := g40 o ho
  have b1 := g40 ((o + 1) % 3) (by omega)
  have b2 := g40 ((o + 2) % 3) (by omega)
  unfold rnk enc
  omega
theorem q_mod3 {a : Nat} (h : a < 1000) : nI a - nI a / (3 : Int32) * (3 : Int32) = nI (a % 3) := by
  exact (by decide +kernel : ∀ a, a < 1000 → nI a - nI a / (3 : Int32) * (3 : Int32) = nI (a % 3)) a h
theorem N_rank {T M : List Nat} {m : ModS} {o k : Nat} {post : Int32 → Prop} (hmM : mdlM M m) (hM : M.length ≤ 60) (ho : o < 3) (hk : k < M.length) (h : post (nI (rnk o M[k]))) : P_X8_rank m (nI o) (nI k) post := by
  have s0 := m_st hmM hM hk (p := o) ho
  have s1 := m_st hmM hM hk (p := (o + 1) % 3) (by omega)
  have s2 := m_st hmM hM hk (p := (o + 2) % 3) (by omega)
  show vp_in ((3 : Int32) * nI k + nI o) 180 ∧ _
  rw [nI_1, show nI o + (2 : Int32) = nI (o + 2) from n_add o 2, q_mod3 (show o + 1 < 1000 by omega), q_mod3 (show o + 2 < 1000 by omega), ix, ix, ix, s0.2, s1.2, s2.2, show (40 : Int32) = nI 40 from rfl, pk_mul, n_add, pk_mul, n_add]
  exact ⟨s0.1, s1.1, s2.1, h⟩
theorem cnt_take {p : Nat → Bool} {l : List Nat} {n : Nat} (h : n < l.length) : (l.take (n + 1)).countP p = (l.take n).countP p + (if p l[n] then 1 else 0) := by
  rw [take_s h, List.countP_append, List.countP_cons, List.countP_nil, Nat.zero_add]
theorem cnt_le60 {p : Nat → Bool} {l : List Nat} (n : Nat) (h : l.length ≤ 60) : (l.take n).countP p ≤ 60 := by
  have h1 : (l.take n).countP p ≤ (l.take n).length := List.countP_le_length
  rw [List.length_take] at h1
  omega
/-- how many triples go ahead of one in an order -/
def ahd (M : List Nat) (o t : Nat) : Nat := M.countP (fun u => decide (rnk o u < rnk o t))
theorem N_inOrder {T M : List Nat} {Q : List Pt3} {A : List Nat} {kv : Nat} {m : ModS} {o i : Nat} {post : Int32 → Prop} (hi : inv T M Q A kv) (hmM : mdlM M m) (ho : o < 3) (hil : i < 100) (k0 : Nat) (hk0 : k0 < M.length) (hu : ∀ k (hk : k < M.length), ahd M o M[k] = i ↔ k = k0) (h : post (nI k0)) : P_X8_inOrder m (nI o) (nI i) post := by
  obtain ⟨i1, i2, i3, i4, i5, i6, i7, -⟩ := hi
  refine wl (fun w => ∃ n r, w = (r, nI n) ∧ n ≤ M.length ∧ (k0 < n → r = nI k0)) (fun w => 60 - w.2.toNatClampNeg) ⟨0, -1, rfl, by omega, fun c => absurd c (Nat.not_lt_zero _)⟩ ?_
  rintro w ⟨n, r, rfl, hn, hr⟩ K hK
  refine ⟨fun c => ?_, fun c => ?_⟩
  · have c : m.triples ≤ nI n := c
    rw [hmM.1] at c
    have := (nI_leI (by omega) (by omega)).mp c
    show post r
    rw [hr (by omega)]; exact h
  · have hlt : n < M.length := by
      rcases Nat.lt_or_ge n M.length with q | q
      · exact q
      · exact absurd (show m.triples ≤ nI n by rw [hmM.1]; exact n_le q (by omega)) c
    have hcl : ∀ j, ((M.take j).countP (fun u => decide (rnk o u < rnk o M[n]))) ≤ 60 := fun j => cnt_le60 j i6
    refine wl (fun w => ∃ j, w = (nI ((M.take j).countP (fun u => decide (rnk o u < rnk o M[n]))), nI j) ∧ j ≤ M.length) (fun w => 60 - w.2.toNatClampNeg) ⟨0, rfl, by omega⟩ ?_
    rintro w ⟨j, rfl, hj⟩ K2 hK2
    have hc := hcl j
    refine ⟨fun c => ?_, fun c => ?_⟩
    · have c : m.triples ≤ nI j := c
      rw [hmM.1] at c
      have := (nI_leI (by omega) (by omega)).mp c
      have e : j = M.length := by omega
      subst e
      rw [List.take_length] at hc ⊢
      have hun := hu n hlt
      unfold ahd at hun
      have dec : 60 - (nI (n + 1)).toNatClampNeg < 60 - (nI n).toNatClampNeg := by
        rw [n_cl (by omega), n_cl (by omega)]; omega
      refine ⟨fun d => ?_, fun d => ?_⟩
      · show K (r, nI n + (1 : Int32))
        rw [nI_1]
        refine hK _ ⟨n + 1, r, rfl, by omega, fun hk => ?_⟩ dec
        have hne : ¬ n = k0 := fun z => d (by
          show nI _ = nI i
          rw [hun.mpr z])
        exact hr (by omega)
      · show K (nI n, nI n + (1 : Int32))
        rw [nI_1]
        refine hK _ ⟨n + 1, nI n, rfl, by omega, fun _ => ?_⟩ dec
        have d : nI _ = nI i := d
        have := (nI_eq (by omega) (by omega)).mp d
        rw [hun.mp this]
    · have hjl : j < M.length := by
        rcases Nat.lt_or_ge j M.length with q | q
        · exact q
        · exact absurd (show m.triples ≤ nI j by rw [hmM.1]; exact n_le q (by omega)) c
      have hp : ∀ k (hk : k < M.length), rnk o M[k] < 2147483648 := by
        intro k hk
        unfold rnk
        have := part_lt M[k] o
        have := part_lt M[k] ((o + 1) % 3)
        have := part_lt M[k] ((o + 2) % 3)
        omega
      refine N_rank (T := T) hmM i6 ho hjl (N_rank (T := T) hmM i6 ho hlt ?_)
      have dec : 60 - (nI (j + 1)).toNatClampNeg < 60 - (nI j).toNatClampNeg := by
        rw [n_cl (by omega), n_cl (by omega)]; omega
      have st := cnt_take (p := fun u => decide (rnk o u < rnk o M[n])) hjl
      refine ⟨fun d => ?_, fun d => ?_⟩
      · have d := (nI_leI (hp n hlt) (hp j hjl)).mp d
        rw [if_neg (by simp; omega)] at st
        show K2 (nI _ + nI 0, nI j + (1 : Int32))
        rw [n_add, nI_1, ← st]
        exact hK2 _ ⟨j + 1, rfl, by omega⟩ dec
      · have d2 : rnk o M[j] < rnk o M[n] := by
          rcases Nat.lt_or_ge (rnk o M[j]) (rnk o M[n]) with q | q
          · exact q
          · exact absurd (n_le q (hp j hjl)) d
        rw [if_pos (by simpa using d2)] at st
        show K2 (nI _ + nI 1, nI j + (1 : Int32))
        rw [n_add, nI_1, ← st]
        exact hK2 _ ⟨j + 1, rfl, by omega⟩ dec
theorem rk_getElem {K : List Nat} (hs : SL K) {i : Nat} (hi : i < K.length) : rk K K[i] = i := by
  have h1 : ¬ i < rk K K[i] := fun z => by
    have := (rk_spec hs K[i] hi).mpr z
    omega
  rcases Nat.lt_or_ge (rk K K[i]) i with q | q
  · have h2 : rk K K[i] < K.length := by omega
    have h3 : ¬ K[rk K K[i]] < K[i] := fun z => by
      have := (rk_spec hs K[i] h2).mp z
      omega
    have h4 := (List.pairwise_iff_getElem.mp hs) (rk K K[i]) i h2 hi q
    omega
  · omega
theorem ahd_rk {T M K : List Nat} {Q : List Pt3} {A : List Nat} {kv : Nat} (hi : inv T M Q A kv) {o t : Nat} (ho : o < 3) (hp : K.Perm (keysOf M o)) (ht : t ∈ M) : ahd M o t = rk K (rol t o) := by
  obtain ⟨i1, i2, i3, i4, i5, i6, i7, -⟩ := hi
  unfold rk ahd
  rw [hp.countP_eq]
  unfold keysOf
  rw [List.countP_map]
  refine List.countP_congr (fun u hu => ?_)
  simp only [Function.comp, decide_eq_true_iff]
  exact rnk_lt (i5 u hu) (i5 t ht) ho (fun p hp3 => by have := i7 u hu p hp3; omega) (fun p hp3 => by have := i7 t ht p hp3; omega)
theorem N_termAt0 {m : ModS} {x y z : Int32} {post : Int32 → ModS → Prop} (hn : ¬ (isN 3 x ∧ isN 3 z)) (h : post 0 (setX m 1)) : P_X8_termAt m x y z post := by
  have j19 : P_X8_termAt_j19 m x y z post := ⟨fun c => absurd c (by decide), fun _ => h⟩
  exact N_isN3 (fun hx => ⟨fun c => absurd c (by decide), fun _ => N_isN3 (fun hz => absurd ⟨hx, hz⟩ hn) (fun _ => ⟨fun c => absurd rfl c, fun _ => j19⟩)⟩) (fun _ => ⟨fun _ => j19, fun c => absurd rfl c⟩)
theorem N_termAt1 {M : List Nat} {m : ModS} {x y z : Int32} {post : Int32 → ModS → Prop} (hmM : mdlM M m) (hM : M.length ≤ 60) (hx : isN 3 x) (hz : isN 3 z) (hn : ¬ isN M.length y) (h : post 0 (setX m 2)) : P_X8_termAt m x y z post := by
  refine N_isN3 (fun _ => ⟨fun c => absurd c (by decide), fun _ => N_isN3 (fun _ => ⟨fun _ => ?_, fun c => absurd c (by decide)⟩) (fun n => absurd hz n)⟩) (fun n => absurd hx n)
  show P_X8_isIn y (0 : Int32) (m.triples - (1 : Int32)) _
  rw [hmM.1]
  exact N_isN (by omega) (fun g => absurd g hn) (fun _ => ⟨fun _ => ⟨fun c => absurd c (by decide), fun _ => h⟩, fun c => absurd rfl c⟩)
theorem N_termAt2 {T M : List Nat} {Q : List Pt3} {A : List Nat} {kv : Nat} {m : ModS} {o i p : Nat} {K : List Nat} {post : Int32 → ModS → Prop} (hi : inv T M Q A kv) (hm : mdl T M Q A kv m) (ho : o < 3) (hp : p < 3) (hK : SL K) (hpm : K.Perm (keysOf M o)) (hil : i < K.length) (h : ∀ hl : part (rol K[i] ((3 - o) % 3)) p < T.length, post (nI (T[part (rol K[i] ((3 - o) % 3)) p])) (setX m 0)) : P_X8_termAt m (nI o) (nI i) (nI p) post := by
  have hi' := hi
  obtain ⟨i1, i2, i3, i4, i5, i6, i7, -⟩ := hi'
  have hKl : K.length = M.length := by rw [hpm.length_eq]; unfold keysOf; rw [List.length_map]
  have hmem : rol K[i] ((3 - o) % 3) ∈ M ∧ rol (rol K[i] ((3 - o) % 3)) o = K[i] := by
    obtain ⟨t, ht, e⟩ := List.mem_map.mp (hpm.mem_iff.mp (List.getElem_mem hil))
    rw [← e, rol_rol (i5 t ht) ho]; exact ⟨ht, rfl⟩
  obtain ⟨hmem, hrol⟩ := hmem
  generalize rol K[i] ((3 - o) % 3) = t at h hmem hrol
  obtain ⟨k0, hk0, e0⟩ := List.mem_iff_getElem.mp hmem
  have hu : ∀ k (hk : k < M.length), ahd M o M[k] = i ↔ k = k0 := by
    intro k hk
    rw [ahd_rk hi ho hpm (List.getElem_mem hk)]
    have hr := rk_getElem hK hil
    constructor
    · intro e
      have hin : rol M[k] o ∈ K := hpm.mem_iff.mpr (List.mem_map.mpr ⟨_, List.getElem_mem hk, rfl⟩)
      obtain ⟨hh, e2⟩ := (rk_mem hK _).mp hin
      have e3 : rol M[k] o = K[i] := by
        rw [← e2]
        congr 1
      rw [← hrol] at e3
      have e4 := rol_inj (i5 _ (List.getElem_mem hk)) (i5 _ hmem) ho e3
      rw [← e0] at e4
      exact (List.getElem_inj i4).mp e4
    · intro e
      subst e
      rw [e0, hrol]; exact hr
  refine N_isN3 (fun _ => ⟨fun c => absurd c (by decide), fun _ => N_isN3 (fun _ => ⟨fun _ => ?_, fun c => absurd c (by decide)⟩) (fun n => absurd ⟨p, hp, rfl⟩ n)⟩) (fun n => absurd ⟨o, ho, rfl⟩ n)
  show P_X8_isIn (nI i) (0 : Int32) (m.triples - (1 : Int32)) _
  rw [hm.2.1.1]
  refine N_isN (by omega) (fun _ => ⟨fun c => absurd c (by decide), fun _ => ⟨fun _ => ?_, fun c => absurd (by decide) c⟩⟩) (fun n => absurd ⟨i, by omega, rfl⟩ n)
  refine N_inOrder hi (m := setX m 0) hm.2.1 ho (by omega) k0 hk0 hu ?_
  have hl := i7 t hmem p hp
  have st := m_st (m := m) hm.2.1 i6 hk0 hp
  rw [e0] at st
  have tm := m_tm hm.1 i1 hl
  show vp_in ((3 : Int32) * nI k0 + nI p) 180 ∧ vp_in (m.store ((3 : Int32) * nI k0 + nI p).toNatClampNeg) 40 ∧ post (m.term (m.store ((3 : Int32) * nI k0 + nI p).toNatClampNeg).toNatClampNeg) (setX m 0)
  rw [ix, st.2, tm.2]
  exact ⟨st.1, tm.1, h hl⟩
-- count
theorem N_count0 {m : ModS} {x y z : Int32} {post : Int32 → ModS → Prop} (hn : ¬ (isA x ∧ isA y ∧ isA z)) (h : post 0 (setX m 1)) : P_X8_count m x y z post := by
  refine N_are (C := isA) (fun w p h1 h0 => N_isA h1 h0) (fun g1 g2 g3 => absurd ⟨g1, g2, g3⟩ hn) (fun _ => ⟨fun _ => ?_, fun c => absurd rfl c⟩)
  refine wl (fun w => w = ((0 : Int32), (0 : Int32))) (fun _ => 0) rfl ?_
  rintro w rfl K hK
  exact ⟨fun _ => h, fun _ => ⟨fun _ => h, fun c => absurd c (by decide : ¬ (1 : Int32) = 0)⟩⟩
theorem anT {T : List Nat} (hT : T.length ≤ 40) (hN : T.Nodup) (hb : ∀ t ∈ T, t < 100) {n : Nat} (hn : n < T.length) {x : Int32} (hx : isA x) (hp : ¬ x < 0) : nI T[n] = x ↔ n = an T x := by
  rcases hx with e | ⟨a, ha, e⟩
  · subst e; exact absurd (by decide) hp
  · subst e
    unfold an
    rw [n_cl (by omega), nI_eq (by have := hb _ (List.getElem_mem hn); omega) (by omega)]
    exact term_num hT hN hn
theorem N_count1 {T M : List Nat} {Q : List Pt3} {A : List Nat} {kv : Nat} {m : ModS} {x y z : Int32} {post : Int32 → ModS → Prop} (hi : inv T M Q A kv) (hm : mdl T M Q A kv m) (hx : isA x) (hy : isA y) (hz : isA z) (h : post (nI (M.countP (mat (ax x) (ax y) (ax z) (an T x) (an T y) (an T z)))) (setX m 0)) : P_X8_count m x y z post := by
  obtain ⟨i1, i2, i3, i4, i5, i6, i7, -⟩ := hi
  refine N_are (C := isA) (fun w p h1 h0 => N_isA h1 h0) (fun _ _ _ => ⟨fun c => absurd c (by decide), fun _ => ?_⟩) (fun n => absurd ⟨hx, hy, hz⟩ n)
  show wloop (P_X8_count_B25 (setX m 0) x y z post) ((0 : Int32), (0 : Int32))
  have hmM : mdlM M (setX m 0) := hm.2.1
  have hmT : mdlT T (setX m 0) := hm.1
  have hth : (setX m 0).thrown = 0 := rfl
  generalize setX m 0 = m0 at h hmM hmT hth ⊢
  refine wl (fun w => ∃ j, w = (nI ((M.take j).countP (mat (ax x) (ax y) (ax z) (an T x) (an T y) (an T z))), nI j) ∧ j ≤ M.length) (fun w => 60 - w.2.toNatClampNeg) ⟨0, rfl, by omega⟩ ?_
  rintro w ⟨j, rfl, hj⟩ K hK
  refine ⟨fun c => ?_, fun c => ⟨fun d => absurd hth d, fun _ => ?_⟩⟩
  · have c : m0.triples ≤ nI j := c
    rw [hmM.1] at c
    have := (nI_leI (by omega) (by omega)).mp c
    have e : j = M.length := by omega
    subst e
    show post (nI _) m0
    rw [List.take_length]; exact h
  · have hlt : j < M.length := by
      rcases Nat.lt_or_ge j M.length with q | q
      · exact q
      · exact absurd (show m0.triples ≤ nI j by rw [hmM.1]; exact n_le q (by omega)) c
    have hin := List.getElem_mem hlt
    have st0 := m_st hmM i6 hlt (p := 0) (by omega)
    have st1 := m_st hmM i6 hlt (p := 1) (by omega)
    have st2 := m_st hmM i6 hlt (p := 2) (by omega)
    have tm0 := m_tm hmT i1 (i7 _ hin 0 (by omega))
    have tm1 := m_tm hmT i1 (i7 _ hin 1 (by omega))
    have tm2 := m_tm hmT i1 (i7 _ hin 2 (by omega))
    have ea := fun hp => anT i1 i2 i3 (i7 _ hin 0 (by omega)) hx hp
    have eb := fun hp => anT i1 i2 i3 (i7 _ hin 1 (by omega)) hy hp
    have ed := fun hp => anT i1 i2 i3 (i7 _ hin 2 (by omega)) hz hp
    have stp := cnt_take (p := mat (ax x) (ax y) (ax z) (an T x) (an T y) (an T z)) hlt
    have fin : ∀ b : Bool, b = mat (ax x) (ax y) (ax z) (an T x) (an T y) (an T z) M[j] → K (nI ((M.take j).countP (mat (ax x) (ax y) (ax z) (an T x) (an T y) (an T z))) + ob b, nI j + (1 : Int32)) := by
      intro b e
      have e2 : ob b = nI (if mat (ax x) (ax y) (ax z) (an T x) (an T y) (an T z) M[j] = true then 1 else 0) := by
        rw [← e]; cases b <;> rfl
      rw [e2, n_add, nI_1, ← stp]
      refine hK _ ⟨j + 1, rfl, by omega⟩ ?_
      show 60 - (nI (j + 1)).toNatClampNeg < 60 - (nI j).toNatClampNeg
      rw [n_cl (by omega), n_cl (by omega)]; omega
    generalize nI ((M.take j).countP (mat (ax x) (ax y) (ax z) (an T x) (an T y) (an T z))) = ct at fin ⊢
    have and_ob : ∀ a b : Bool, ob a &&& ob b = ob (a && b) := by intro a b; cases a <;> cases b <;> decide
    have j135 : ∀ a b : Bool, (a && b) = mat (ax x) (ax y) (ax z) (an T x) (an T y) (an T z) M[j] → P_X8_count_j135 m0 x y z ct (nI j) (ob b) (ob a) K post := by
      intro a b e
      show (ob a &&& ob b = 0 → K (ct + ob false, nI j + (1 : Int32))) ∧ (¬ ob a &&& ob b = 0 → K (ct + ob true, nI j + (1 : Int32)))
      rw [and_ob]
      refine ⟨fun c => fin false ?_, fun c => fin true ?_⟩
      · rw [← e, (obz _).mp c]
      · rw [← e]
        cases hq : (a && b)
        · exact absurd ((obz _).mpr hq) c
        · rfl
    have two : ∀ (w : Int32) (v n : Nat), (¬ w < 0 → (nI v = w ↔ n = an T w)) → True := fun _ _ _ _ => True.intro
    have bx : ∀ {w : Int32}, w < 0 → ax w = false := fun c => ax_iff.mp c
    have bn : ∀ {w : Int32}, ¬ w < 0 → ax w = true := fun {w} c => by
      cases hq : ax w
      · exact absurd (ax_iff.mpr hq) c
      · rfl
    have mt : mat (ax x) (ax y) (ax z) (an T x) (an T y) (an T z) M[j] = ((!ax x || part M[j] 0 == an T x) && (!ax y || part M[j] 1 == an T y) && (!ax z || part M[j] 2 == an T z)) := rfl
    have j101 : ∀ a b : Bool, a = (!ax x || part M[j] 0 == an T x) → b = (!ax y || part M[j] 1 == an T y) → P_X8_count_j101 m0 x y z ct (nI j) (ob b) (ob a) K post := by
      intro a b e1 e2
      refine ⟨fun c => ?_, fun c => ?_⟩
      · show P_X8_count_j135 m0 x y z ct (nI j) (ob true) (ob a &&& ob b) K post
        rw [and_ob]
        refine j135 _ _ ?_
        rw [mt, ← e1, ← e2, bx c]; rfl
      · show vp_in ((3 : Int32) * nI j + (2 : Int32)) 180 ∧ vp_in (m0.store ((3 : Int32) * nI j + (2 : Int32)).toNatClampNeg) 40 ∧ (¬ m0.term (m0.store ((3 : Int32) * nI j + (2 : Int32)).toNatClampNeg).toNatClampNeg = z → P_X8_count_j135 m0 x y z ct (nI j) (ob false) (ob a &&& ob b) K post) ∧ (m0.term (m0.store ((3 : Int32) * nI j + (2 : Int32)).toNatClampNeg).toNatClampNeg = z → P_X8_count_j135 m0 x y z ct (nI j) (ob true) (ob a &&& ob b) K post)
        rw [ix2, st2.2, tm2.2, ed c, and_ob]
        refine ⟨st2.1, tm2.1, fun q => j135 _ _ ?_, fun q => j135 _ _ ?_⟩
        · rw [mt, ← e1, ← e2, bn c]
          have : (part M[j] 2 == an T z) = false := by simpa using q
          rw [this]; rfl
        · rw [mt, ← e1, ← e2, bn c]
          have : (part M[j] 2 == an T z) = true := by simpa using q
          rw [this]; rfl
    have j68 : ∀ a : Bool, a = (!ax x || part M[j] 0 == an T x) → P_X8_count_j68 m0 x y z ct (nI j) (ob a) K post := by
      intro a e1
      refine ⟨fun c => ?_, fun c => ?_⟩
      · exact j101 a true e1 (by rw [bx c]; rfl)
      · show vp_in ((3 : Int32) * nI j + (1 : Int32)) 180 ∧ vp_in (m0.store ((3 : Int32) * nI j + (1 : Int32)).toNatClampNeg) 40 ∧ (¬ m0.term (m0.store ((3 : Int32) * nI j + (1 : Int32)).toNatClampNeg).toNatClampNeg = y → P_X8_count_j101 m0 x y z ct (nI j) (ob false) (ob a) K post) ∧ (m0.term (m0.store ((3 : Int32) * nI j + (1 : Int32)).toNatClampNeg).toNatClampNeg = y → P_X8_count_j101 m0 x y z ct (nI j) (ob true) (ob a) K post)
        rw [ix1, st1.2, tm1.2, eb c]
        refine ⟨st1.1, tm1.1, fun q => j101 _ _ e1 ?_, fun q => j101 _ _ e1 ?_⟩
        · rw [bn c]
          have : (part M[j] 1 == an T y) = false := by simpa using q
          rw [this]; rfl
        · rw [bn c]
          have : (part M[j] 1 == an T y) = true := by simpa using q
          rw [this]; rfl
    refine ⟨fun c => j68 true (by rw [bx c]; rfl), fun c => ?_⟩
    show vp_in ((3 : Int32) * nI j) 180 ∧ vp_in (m0.store ((3 : Int32) * nI j).toNatClampNeg) 40 ∧ (¬ m0.term (m0.store ((3 : Int32) * nI j).toNatClampNeg).toNatClampNeg = x → P_X8_count_j68 m0 x y z ct (nI j) (ob false) K post) ∧ (m0.term (m0.store ((3 : Int32) * nI j).toNatClampNeg).toNatClampNeg = x → P_X8_count_j68 m0 x y z ct (nI j) (ob true) K post)
    rw [ix0, st0.2, tm0.2, ea c]
    refine ⟨st0.1, tm0.1, fun q => j68 _ ?_, fun q => j68 _ ?_⟩
    · rw [bn c]
      have : (part M[j] 0 == an T x) = false := by simpa using q
      rw [this]; rfl
    · rw [bn c]
      have : (part M[j] 0 == an T x) = true := by simpa using q
      rw [this]; rfl
-- seek
theorem N_seek0 {m : ModS} {x y : Int32} {post : Int32 → ModS → Prop} (hn : ¬ (isN 3 x ∧ isT y)) (h : post 0 (setX m 1)) : P_X8_seek m x y post := by
  have j24 : P_X8_seek_j24 m x y post := ⟨fun c => absurd c (by decide), fun _ => h⟩
  exact N_isN3 (fun hx => ⟨fun c => absurd c (by decide), fun _ => N_isT (fun hy => absurd ⟨hx, hy⟩ hn) (fun _ => ⟨fun _ => j24, fun c => absurd rfl c⟩)⟩) (fun _ => ⟨fun _ => j24, fun c => absurd rfl c⟩)
theorem N_seek1 {T : List Nat} {m : ModS} {o a : Nat} {post : Int32 → ModS → Prop} (hmT : mdlT T m) (hT : T.length ≤ 40) (ho : o < 3) (ha : a < 100) (hn : a ∉ T) (h : post 0 (setX m 2)) : P_X8_seek m (nI o) (nI a) post := by
  refine N_isN3 (fun _ => ⟨fun c => absurd c (by decide), fun _ => N_isT (fun _ => ⟨fun c => absurd c (by decide), fun _ => ⟨fun _ => ⟨(m_nb hmT ha).1, fun c => ?_, fun _ => ?_⟩, fun c => absurd (by decide) c⟩⟩) (fun n => absurd ⟨a, ha, rfl⟩ n)⟩) (fun n => absurd ⟨o, ho, rfl⟩ n)
  · have c : 0 ≤ m.number (nI a).toNatClampNeg := c
    rw [(m_nb hmT ha).2] at c
    exact absurd ((nb_le hT).mp c) hn
  · refine wl (fun w => w = ((0 : Int32), (0 : Int32))) (fun _ => 0) rfl ?_
    rintro w rfl K hK
    exact ⟨fun _ => h, fun _ => ⟨fun _ => h, fun c => absurd c (by decide : ¬ (2 : Int32) = 0)⟩⟩
theorem rk_fld {T M K : List Nat} {Q : List Pt3} {A : List Nat} {kv : Nat} (hi : inv T M Q A kv) {o n : Nat} (ho : o < 3) (hn : n < 40) (hp : K.Perm (keysOf M o)) : rk K (rol (fld o n) o) = M.countP (fun t => decide (part t o < n)) := by
  obtain ⟨i1, i2, i3, i4, i5, i6, i7, -⟩ := hi
  unfold rk
  rw [hp.countP_eq]
  unfold keysOf
  rw [List.countP_map]
  refine List.countP_congr (fun u hu => ?_)
  simp only [Function.comp, decide_eq_true_iff]
  have e : rol (fld o n) o = n * 4096 := by
    obtain ⟨a0, -, -⟩ := rol_enc (show n < 64 by omega) (show 0 < 64 by omega) (show 0 < 64 by omega)
    obtain ⟨-, a1, -⟩ := rol_enc (show 0 < 64 by omega) (show n < 64 by omega) (show 0 < 64 by omega)
    obtain ⟨-, -, a2⟩ := rol_enc (show 0 < 64 by omega) (show 0 < 64 by omega) (show n < 64 by omega)
    rcases (show o = 0 ∨ o = 1 ∨ o = 2 by omega) with rfl | rfl | rfl
    · show rol (enc n 0 0) 0 = _
      rw [a0]; unfold enc; omega
    · show rol (enc 0 n 0) 1 = _
      rw [a1]; unfold enc; omega
    · show rol (enc 0 0 n) 2 = _
      rw [a2]; unfold enc; omega
  rw [e, rol_parts (i5 u hu) ho]
  have := part_lt u ((o + 1) % 3)
  have := part_lt u ((o + 2) % 3)
  unfold enc
  omega
theorem N_seek2 {T M K : List Nat} {Q : List Pt3} {A : List Nat} {kv : Nat} {m : ModS} {o a : Nat} {post : Int32 → ModS → Prop} (hi : inv T M Q A kv) (hm : mdl T M Q A kv m) (ho : o < 3) (ha : a < 100) (hin : a ∈ T) (hpm : K.Perm (keysOf M o)) (h : post (nI (rk K (rol (fld o (T.idxOf a)) o))) (setX m 0)) : P_X8_seek m (nI o) (nI a) post := by
  have hix := List.idxOf_lt_length_of_mem hin
  rw [rk_fld hi ho (by have := hi.1; omega) hpm] at h
  obtain ⟨i1, i2, i3, i4, i5, i6, i7, -⟩ := hi
  have hnb := m_nb hm.1 ha
  refine N_isN3 (fun _ => ⟨fun c => absurd c (by decide), fun _ => N_isT (fun _ => ⟨fun c => absurd c (by decide), fun _ => ⟨fun _ => ⟨hnb.1, fun _ => ?_, fun c => ?_⟩, fun c => absurd (by decide) c⟩⟩) (fun n => absurd ⟨a, ha, rfl⟩ n)⟩) (fun n => absurd ⟨o, ho, rfl⟩ n)
  · show wloop (P_X8_seek_B60 (setX m 0) (nI o) (nI a) post) ((0 : Int32), (0 : Int32))
    have hmM : mdlM M (setX m 0) := hm.2.1
    have hnb : vp_in (nI a) 100 ∧ (setX m 0).number (nI a).toNatClampNeg = nb T a := hnb
    have hth : (setX m 0).thrown = 0 := rfl
    generalize setX m 0 = m0 at h hmM hnb hth ⊢
    have e1 : nb T a = nI (T.idxOf a) := by unfold nb; rw [if_pos hin]
    generalize T.idxOf a = n at h e1 hix
    refine wl (fun w => ∃ j, w = (nI ((M.take j).countP (fun t => decide (part t o < n))), nI j) ∧ j ≤ M.length) (fun w => 60 - w.2.toNatClampNeg) ⟨0, rfl, by omega⟩ ?_
    rintro w ⟨j, rfl, hj⟩ K hK
    refine ⟨fun c => ?_, fun c => ⟨fun d => absurd hth d, fun _ => ?_⟩⟩
    · have c : m0.triples ≤ nI j := c
      rw [hmM.1] at c
      have := (nI_leI (by omega) (by omega)).mp c
      have e : j = M.length := by omega
      subst e
      show post (nI _) m0
      rw [List.take_length]; exact h
    · have hlt : j < M.length := by
        rcases Nat.lt_or_ge j M.length with q | q
        · exact q
        · exact absurd (show m0.triples ≤ nI j by rw [hmM.1]; exact n_le q (by omega)) c
      have st := m_st hmM i6 hlt ho
      have stp := cnt_take (p := fun t => decide (part t o < n)) hlt
      have dec : 60 - (nI (j + 1)).toNatClampNeg < 60 - (nI j).toNatClampNeg := by
        rw [n_cl (by omega), n_cl (by omega)]; omega
      show vp_in ((3 : Int32) * nI j + nI o) 180 ∧ vp_in (nI a) 100 ∧ (m0.number (nI a).toNatClampNeg ≤ m0.store ((3 : Int32) * nI j + nI o).toNatClampNeg → K (nI _ + nI 0, nI j + (1 : Int32))) ∧ (¬ m0.number (nI a).toNatClampNeg ≤ m0.store ((3 : Int32) * nI j + nI o).toNatClampNeg → K (nI _ + nI 1, nI j + (1 : Int32)))
      rw [ix, st.2, hnb.2, e1]
      have hp := part_lt M[j] o
      refine ⟨st.1, hnb.1, fun d => ?_, fun d => ?_⟩
      · have d := (nI_leI (by omega) (by omega)).mp d
        rw [if_neg (by simp; omega)] at stp
        rw [n_add, nI_1, ← stp]
        exact hK _ ⟨j + 1, rfl, by omega⟩ dec
      · have d2 : part M[j] o < n := by
          rcases Nat.lt_or_ge (part M[j] o) n with q | q
          · exact q
          · exact absurd (n_le q (by omega)) d
        rw [if_pos (by simpa using d2)] at stp
        rw [n_add, nI_1, ← stp]
        exact hK _ ⟨j + 1, rfl, by omega⟩ dec
  · have c : ¬ 0 ≤ m.number (nI a).toNatClampNeg := c
    rw [hnb.2] at c
    exact absurd ((nb_le i1).mpr hin) c
