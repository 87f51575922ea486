/-! rows and texts: the relation is kept -/
theorem z_R.ra {μ ν ξ σ : m_S} {B P : Nat} {g : Int → Option Nat} (h : z_R μ ξ B P g) (h1 : z_Ra ν σ) (e : ∀ k, k ≤ 15 → k ≠ 7 → k ≠ 8 → ν k = μ k) (ex : ∀ k, ¬ (32 ≤ k ∧ k < 44) → k ≠ 4 → k ≠ 5 → k ≠ 6 → k ≠ 15 → k ≠ 16 → k ≠ 17 → σ k = ξ k) : z_R ν σ B P g :=
  ⟨h1, h.2.1.c (e 9 (by omega) (by omega) (by omega)) (e 10 (by omega) (by omega) (by omega)) (fun k _ _ => ex k (by omega) (by omega) (by omega) (by omega) (by omega) (by omega) (by omega)), h.2.2.1.c (fun k _ _ => e k (by omega) (by omega) (by omega)) (ex 0 (by omega) (by omega) (by omega) (by omega) (by omega) (by omega) (by omega)) (ex 31 (by omega) (by omega) (by omega) (by omega) (by omega) (by omega) (by omega)), h.2.2.2.1.c (fun k _ => e k (by omega) (by omega) (by omega)) (fun k _ => ex k (by omega) (by omega) (by omega) (by omega) (by omega) (by omega) (by omega)), h.2.2.2.2.c (fun k _ => e k (by omega) (by omega) (by omega)) (fun k _ _ => ex k (by omega) (by omega) (by omega) (by omega) (by omega) (by omega) (by omega))⟩
theorem z_R.rb {μ ν ξ σ : m_S} {B P : Nat} {g : Int → Option Nat} (h : z_R μ ξ B P g) (h1 : z_Rb ν σ) (e : ∀ k, k ≤ 15 → k ≠ 9 → k ≠ 10 → ν k = μ k) (ex : ∀ k, ¬ (44 ≤ k ∧ k < 52) → k ≠ 4 → k ≠ 5 → k ≠ 6 → k ≠ 15 → k ≠ 16 → k ≠ 17 → σ k = ξ k) : z_R ν σ B P g :=
  ⟨h.1.c (e 7 (by omega) (by omega) (by omega)) (e 8 (by omega) (by omega) (by omega)) (fun k _ _ => ex k (by omega) (by omega) (by omega) (by omega) (by omega) (by omega) (by omega)), h1, h.2.2.1.c (fun k _ _ => e k (by omega) (by omega) (by omega)) (ex 0 (by omega) (by omega) (by omega) (by omega) (by omega) (by omega) (by omega)) (ex 31 (by omega) (by omega) (by omega) (by omega) (by omega) (by omega) (by omega)), h.2.2.2.1.c (fun k _ => e k (by omega) (by omega) (by omega)) (fun k _ => ex k (by omega) (by omega) (by omega) (by omega) (by omega) (by omega) (by omega)), h.2.2.2.2.c (fun k _ => e k (by omega) (by omega) (by omega)) (fun k _ _ => ex k (by omega) (by omega) (by omega) (by omega) (by omega) (by omega) (by omega))⟩
theorem z_Ra.set {μ ν ξ σ : m_S} (h : z_Ra μ ξ) {r : Int} (h0 : 0 ≤ r) (h1 : r < 6) (hs : -1 ≤ ν 7 r ∧ ν 7 r ≤ 40) (hs2 : σ (32 + 2 * r.toNat) 1 = ν 7 r) (hp : ∀ j : Int, 0 ≤ j → j < ν 7 r → σ (32 + 2 * r.toNat + 1) j = ν 8 (40 * r + j)) (e7 : ∀ q : Int, q ≠ r → ν 7 q = μ 7 q) (e8 : ∀ q j : Int, q ≠ r → 0 ≤ j → j < 40 → ν 8 (40 * q + j) = μ 8 (40 * q + j)) (ex : ∀ k, 32 ≤ k → k < 44 → k ≠ 32 + 2 * r.toNat → k ≠ 32 + 2 * r.toNat + 1 → σ k = ξ k) (hq : ∀ j, q_r (ν 8 j)) : z_Ra ν σ := by
  refine ⟨fun q g0 g1 => ?_, hq⟩
  by_cases e : q = r
  · subst e
    exact ⟨hs, hs2, hp⟩
  · have hh := h.1 q g0 g1
    rw [e7 q e, ex (32 + 2 * q.toNat) (by omega) (by omega) (by omega) (by omega), ex (32 + 2 * q.toNat + 1) (by omega) (by omega) (by omega) (by omega)]
    exact ⟨hh.1, hh.2.1, fun j a0 a1 => by rw [e8 q j e a0 (by omega)]; exact hh.2.2 j a0 a1⟩
theorem z_Rb.set {μ ν ξ σ : m_S} (h : z_Rb μ ξ) {r : Int} (h0 : 0 ≤ r) (h1 : r < 4) (hs : -1 ≤ ν 9 r ∧ ν 9 r ≤ 60) (hs2 : σ (44 + 2 * r.toNat) 1 = ν 9 r) (hp : ∀ j : Int, 0 ≤ j → j < ν 9 r → σ (44 + 2 * r.toNat + 1) j = ν 10 (60 * r + j)) (hbb : ∀ j : Int, -128 ≤ σ (44 + 2 * r.toNat + 1) j ∧ σ (44 + 2 * r.toNat + 1) j ≤ 127) (e7 : ∀ q : Int, q ≠ r → ν 9 q = μ 9 q) (e8 : ∀ q j : Int, q ≠ r → 0 ≤ j → j < 60 → ν 10 (60 * q + j) = μ 10 (60 * q + j)) (ex : ∀ k, 44 ≤ k → k < 52 → k ≠ 44 + 2 * r.toNat → k ≠ 44 + 2 * r.toNat + 1 → σ k = ξ k) (hq : ∀ j, -128 ≤ ν 10 j ∧ ν 10 j ≤ 127) : z_Rb ν σ := by
  refine ⟨fun q g0 g1 => ?_, hq⟩
  by_cases e : q = r
  · subst e
    exact ⟨hs, hs2, hp, hbb⟩
  · have hh := h.1 q g0 g1
    rw [e7 q e, ex (44 + 2 * q.toNat) (by omega) (by omega) (by omega) (by omega), ex (44 + 2 * q.toNat + 1) (by omega) (by omega) (by omega) (by omega)]
    exact ⟨hh.1, hh.2.1, fun j a0 a1 => by rw [e8 q j e a0 (by omega)]; exact hh.2.2.1 j a0 a1, hh.2.2.2⟩
theorem z_us_r {f : Int → Int} (h : ∀ j, q_r (f j)) (i : Int) {v : Int} (hv : q_r v) : ∀ j, q_r (q_us f i v j) := fun j => by
  unfold q_us
  split
  · exact hv
  · exact h j
theorem z_fl_r {f : Int → Int} (h : ∀ j, q_r (f j)) (s k : Int) {v : Int} (hv : q_r v) : ∀ j, q_r (q_fl f s k v j) := fun j => by
  unfold q_fl
  split
  · exact hv
  · exact h j
theorem z_cpy_r {f g : Int → Int} (h : ∀ j, q_r (f j)) (h2 : ∀ j, q_r (g j)) (s d n : Int) : ∀ j, q_r (q_cpy f g s d n j) := fun j => by
  unfold q_cpy
  split
  · exact h _
  · exact h2 j
section
variable {μ ξ : m_S} {B P : Nat} {g : Int → Option Nat}
theorem z_R.mk (h : z_R μ ξ B P g) {r n : Int} (h0 : 0 ≤ r) (h1 : r < 6) (hn0 : 0 ≤ n) (hn1 : n ≤ 40) : z_R (m_mk μ r n) (x_mr ξ (32 + 2 * r.toNat) n 0) B P g := by
  refine h.ra (h.1.set h0 h1 ?_ ?_ ?_ ?_ ?_ ?_ ?_) ?_ ?_
  · show -1 ≤ q_us (μ 7) r n r ∧ q_us (μ 7) r n r ≤ 40
    rw [q_us_s]; omega
  · show x_mr ξ (32 + 2 * r.toNat) n 0 (32 + 2 * r.toNat) 1 = q_us (μ 7) r n r
    unfold x_mr
    rw [m_un (by omega), m_us, q_us_s, q_us_s]
  · intro j a0 a1
    have a1 : j < q_us (μ 7) r n r := a1
    rw [q_us_s] at a1
    show x_mr ξ (32 + 2 * r.toNat) n 0 (32 + 2 * r.toNat + 1) j = q_fl (μ 8) (40 * r) 40 0 (40 * r + j)
    unfold x_mr
    rw [m_us]
    unfold q_fl
    rw [if_pos (by omega), if_pos (by omega)]
  · intro q hq
    exact q_us_n hq
  · intro q j hq a0 a1
    show q_fl (μ 8) (40 * r) 40 0 (40 * q + j) = _
    unfold q_fl
    rw [if_neg (by omega)]
  · intro k _ _ k0 k1
    unfold x_mr
    rw [m_un k1, m_un k0]
  · exact z_fl_r h.1.2 _ _ q_r0
  · intro k _ k0 k1
    unfold m_mk
    rw [m_un k1, m_un k0]
  · intro k k0 _ _ _ _ _ _
    unfold x_mr
    rw [m_un (by omega), m_un (by omega)]
theorem z_R.lay (h : z_R μ ξ B P g) {r i v : Int} (h0 : 0 ≤ r) (h1 : r < 6) (hi0 : 0 ≤ i) (hi1 : i < μ 7 r) (hv : q_r v) : z_R (m_u (m_u μ 8 (q_us (μ 8) (40 * r + i) v)) 11 (fun _ => μ 8 (40 * r + i))) (m_u (x_tn ξ (ξ (32 + 2 * r.toNat + 1) i)) (32 + 2 * r.toNat + 1) (q_us (x_tn ξ (ξ (32 + 2 * r.toNat + 1) i) (32 + 2 * r.toNat + 1)) i v)) B P g := by
  rw [h.ri h0 h1 hi0 hi1, m_uc _ _ _ (by decide)]
  have hz := (h.rz h0 h1).1
  have ht := h.tell (μ 8 (40 * r + i))
  refine ht.ra (ht.1.set h0 h1 hz ?_ ?_ ?_ ?_ ?_ ?_) ?_ ?_
  · rw [m_un (by omega)]
    unfold x_tn
    rw [m_un (by omega)]
    exact (h.rz h0 h1).2
  · intro j a0 a1
    have a1 : j < μ 7 r := a1
    rw [m_us]
    show q_us _ i v j = q_us (μ 8) (40 * r + i) v (40 * r + j)
    unfold q_us
    by_cases e : j = i
    · rw [if_pos e, if_pos (by omega)]
    · rw [if_neg e, if_neg (by omega)]
      unfold x_tn
      rw [m_un (by omega)]
      exact h.ri h0 h1 a0 a1
  · intro q _
    rfl
  · intro q j hq a0 a1
    show q_us (μ 8) (40 * r + i) v (40 * q + j) = μ 8 (40 * q + j)
    rw [q_us_n (by omega)]
  · intro k _ _ k0 k1
    exact m_un k1
  · exact z_us_r h.1.2 _ hv
  · intro k _ k0 k1
    exact m_un k1
  · intro k k0 _ _ _ _ _ _
    exact m_un (by omega)
theorem z_R.tear (h : z_R μ ξ B P g) {r : Int} (h0 : 0 ≤ r) (h1 : r < 6) : z_R (m_u μ 7 (q_us (μ 7) r (-1))) (m_u ξ (32 + 2 * r.toNat) (q_us (ξ (32 + 2 * r.toNat)) 1 (-1))) B P g := by
  refine h.ra (h.1.set h0 h1 ?_ ?_ ?_ ?_ ?_ ?_ ?_) ?_ ?_
  · show -1 ≤ q_us (μ 7) r (-1) r ∧ q_us (μ 7) r (-1) r ≤ 40
    rw [q_us_s]; omega
  · rw [m_us, q_us_s]
    exact (q_us_s _ _ _).symm
  · intro j a0 a1
    have a1 : j < q_us (μ 7) r (-1) r := a1
    rw [q_us_s] at a1
    omega
  · intro q hq
    exact q_us_n hq
  · intro q j hq a0 a1
    rfl
  · intro k _ _ k0 k1
    exact m_un k0
  · exact h.1.2
  · intro k _ k0 k1
    exact m_un k0
  · intro k k0 _ _ _ _ _ _
    exact m_un (by omega)
theorem z_R.copy (h : z_R μ ξ B P g) {r i t j n : Int} (h0 : 0 ≤ r) (h1 : r < 6) (ht0 : 0 ≤ t) (ht1 : t < 6) (hi : 0 ≤ i ∧ i + n ≤ μ 7 r) (hj : 0 ≤ j ∧ j + n ≤ μ 7 t) (hn : 0 ≤ n) : z_R (m_u μ 8 (q_cpy (μ 8) (μ 8) (40 * r + i) (40 * t + j) n)) (m_u ξ (32 + 2 * t.toNat + 1) (q_cpy (ξ (32 + 2 * r.toNat + 1)) (ξ (32 + 2 * t.toNat + 1)) i j n)) B P g := by
  have hz := h.rz ht0 ht1
  refine h.ra (h.1.set ht0 ht1 hz.1 ?_ ?_ ?_ ?_ ?_ ?_) ?_ ?_
  · rw [m_un (by omega)]
    exact hz.2
  · intro y a0 a1
    have a1 : y < μ 7 t := a1
    rw [m_us]
    show q_cpy _ _ i j n y = q_cpy (μ 8) (μ 8) (40 * r + i) (40 * t + j) n (40 * t + y)
    unfold q_cpy
    by_cases e : j ≤ y ∧ y < j + n
    · rw [if_pos e, if_pos (by omega), h.ri h0 h1 (by omega) (by omega)]
      congr 1
      omega
    · rw [if_neg e, if_neg (by omega)]
      exact h.ri ht0 ht1 a0 a1
  · intro q _
    rfl
  · intro q y hq a0 a1
    show q_cpy (μ 8) (μ 8) (40 * r + i) (40 * t + j) n (40 * q + y) = μ 8 (40 * q + y)
    rw [q_cpy_o _ _ (by omega)]
  · intro k _ _ k0 k1
    exact m_un k1
  · exact z_cpy_r h.1.2 h.1.2 _ _ _
  · intro k _ k0 k1
    exact m_un k1
  · intro k k0 _ _ _ _ _ _
    exact m_un (by omega)
theorem z_R.text (h : z_R μ ξ B P g) {r n : Int} (h0 : 0 ≤ r) (h1 : r < 4) (hn0 : 0 ≤ n) (hn1 : n ≤ 60) : z_R (m_u (m_u μ 9 (q_us (μ 9) r n)) 10 (q_fl (μ 10) (60 * r) 60 32)) (x_mr ξ (44 + 2 * r.toNat) n 32) B P g := by
  refine h.rb (h.2.1.set h0 h1 ?_ ?_ ?_ ?_ ?_ ?_ ?_ ?_) ?_ ?_
  · show -1 ≤ q_us (μ 9) r n r ∧ q_us (μ 9) r n r ≤ 60
    rw [q_us_s]; omega
  · show x_mr ξ (44 + 2 * r.toNat) n 32 (44 + 2 * r.toNat) 1 = q_us (μ 9) r n r
    unfold x_mr
    rw [m_un (by omega), m_us, q_us_s, q_us_s]
  · intro j a0 a1
    have a1 : j < q_us (μ 9) r n r := a1
    rw [q_us_s] at a1
    show x_mr ξ (44 + 2 * r.toNat) n 32 (44 + 2 * r.toNat + 1) j = q_fl (μ 10) (60 * r) 60 32 (60 * r + j)
    unfold x_mr
    rw [m_us]
    unfold q_fl
    rw [if_pos (by omega), if_pos (by omega)]
  · intro j
    unfold x_mr
    rw [m_us]
    unfold q_fl
    split
    · omega
    · exact h.tb h0 h1 j
  · intro q hq
    exact q_us_n hq
  · intro q j hq a0 a1
    show q_fl (μ 10) (60 * r) 60 32 (60 * q + j) = _
    unfold q_fl
    rw [if_neg (by omega)]
  · intro k _ _ k0 k1
    unfold x_mr
    rw [m_un k1, m_un k0]
  · intro j
    show -128 ≤ q_fl (μ 10) (60 * r) 60 32 j ∧ q_fl (μ 10) (60 * r) 60 32 j ≤ 127
    unfold q_fl
    split
    · omega
    · exact h.2.1.2 j
  · intro k _ k0 k1
    rw [m_un k1, m_un k0]
  · intro k k0 _ _ _ _ _ _
    unfold x_mr
    rw [m_un (by omega), m_un (by omega)]
theorem z_bm (v : Int) : -128 ≤ v.bmod 256 ∧ v.bmod 256 ≤ 127 := by
  have h1 := Int.le_bmod (x := v) (m := 256) (by decide)
  have h2 := Int.bmod_lt (x := v) (m := 256) (by decide)
  omega
theorem z_R.put (h : z_R μ ξ B P g) {r i v : Int} (h0 : 0 ≤ r) (h1 : r < 4) (hi0 : 0 ≤ i) (hi1 : i < μ 9 r) : z_R (m_u μ 10 (q_us (μ 10) (60 * r + i) (v.bmod 256))) (m_u ξ (44 + 2 * r.toNat + 1) (q_us (ξ (44 + 2 * r.toNat + 1)) i (v.bmod 256))) B P g := by
  have hz := h.tz h0 h1
  refine h.rb (h.2.1.set h0 h1 hz.1 ?_ ?_ ?_ ?_ ?_ ?_ ?_) ?_ ?_
  · rw [m_un (by omega)]
    exact hz.2
  · intro j a0 a1
    have a1 : j < μ 9 r := a1
    rw [m_us]
    show q_us _ i (v.bmod 256) j = q_us (μ 10) (60 * r + i) (v.bmod 256) (60 * r + j)
    unfold q_us
    by_cases e : j = i
    · rw [if_pos e, if_pos (by omega)]
    · rw [if_neg e, if_neg (by omega)]
      exact h.ti h0 h1 a0 a1
  · intro j
    rw [m_us]
    unfold q_us
    split
    · exact z_bm v
    · exact h.tb h0 h1 j
  · intro q _
    rfl
  · intro q j hq a0 a1
    show q_us (μ 10) (60 * r + i) (v.bmod 256) (60 * q + j) = μ 10 (60 * q + j)
    rw [q_us_n (by omega)]
  · intro k _ _ k0 k1
    exact m_un k1
  · intro j
    show -128 ≤ q_us (μ 10) (60 * r + i) (v.bmod 256) j ∧ q_us (μ 10) (60 * r + i) (v.bmod 256) j ≤ 127
    unfold q_us
    split
    · exact z_bm v
    · exact h.2.1.2 j
  · intro k _ k0 k1
    exact m_un k1
  · intro k k0 _ _ _ _ _ _
    exact m_un (by omega)
end
