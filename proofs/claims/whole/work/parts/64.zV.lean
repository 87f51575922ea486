/-! what the relation says of told looks and of marks -/
theorem x_ok_c {f f' : Int → Int} {A S : Int} : ∀ k : Nat, (∀ j : Int, 0 ≤ j → j < 2 * k → f j = f' j) → x_ok0 f A S k = x_ok0 f' A S k
  | 0, _ => rfl
  | k + 1, h => by
    have ih := x_ok_c (A := A) (S := S) k (fun j h0 h1 => h j h0 (by omega))
    show (if x_ok0 f A S k ≠ 0 ∧ (0 ≤ f (2 * (k : Int)) ∧ f (2 * (k : Int)) ≤ A - 1) ∧ (0 ≤ f (2 * (k : Int) + 1) ∧ f (2 * (k : Int) + 1) ≤ S - 1) then (1 : Int) else 0) = (if x_ok0 f' A S k ≠ 0 ∧ (0 ≤ f' (2 * (k : Int)) ∧ f' (2 * (k : Int)) ≤ A - 1) ∧ (0 ≤ f' (2 * (k : Int) + 1) ∧ f' (2 * (k : Int) + 1) ≤ S - 1) then (1 : Int) else 0)
    rw [ih, h (2 * (k : Int)) (by omega) (by omega), h (2 * (k : Int) + 1) (by omega) (by omega)]
theorem x_ok_m (μ : m_S) (r : Int) : ∀ k : Nat, x_ok0 (m_it μ r) (μ 4 0) (μ 3 0) k = m_ok0 μ r k
  | 0 => rfl
  | k + 1 => by
    have ih := x_ok_m μ r k
    show (if x_ok0 (m_it μ r) (μ 4 0) (μ 3 0) k ≠ 0 ∧ _ then (1 : Int) else 0) = (if m_ok0 μ r k ≠ 0 ∧ _ then (1 : Int) else 0)
    rw [ih]
section
variable {μ ξ : m_S} {B P : Nat} {g : Int → Option Nat}
theorem z_R.ri2 (h : z_R μ ξ B P g) {r : Int} (h0 : 0 ≤ r) (h1 : r < 6) {j : Int} (h2 : 0 ≤ j) (h3 : j < μ 7 r) : ξ (32 + 2 * r.toNat + 1) j = m_it μ r j := h.ri h0 h1 h2 h3
theorem z_R.ok (h : z_R μ ξ B P g) {r : Int} (h0 : 0 ≤ r) (h1 : r < 6) (hz : 0 ≤ μ 7 r) : x_ok (ξ (32 + 2 * r.toNat + 1)) (ξ 7 0) (ξ 8 2) ((ξ (32 + 2 * r.toNat) 1).tdiv 2) = m_ok μ r (m_np μ r) := by
  rw [h.n.1, h.n.2.2.2.1, (h.rz h0 h1).2]
  unfold x_ok m_ok m_np
  have e : 2 * (μ 7 r).tdiv 2 ≤ μ 7 r ∧ 0 ≤ (μ 7 r).tdiv 2 := by
    rw [Int.tdiv_eq_ediv_of_nonneg hz]
    omega
  rw [x_ok_c (f' := m_it μ r) _ (fun j g0 g1 => h.ri2 h0 h1 g0 (by omega)), x_ok_m]
theorem z_R.rtv (h : z_R μ ξ B P g) {r : Int} (h0 : 0 ≤ r) (h1 : r < 6) : x_rt_v ξ (32 + 2 * r.toNat) = m_nl_v μ r := by
  have hz := h.rz h0 h1
  unfold x_rt_v m_nl_v
  by_cases e1 : μ 4 0 = 0
  · rw [if_pos (h.n.1.trans e1), if_pos e1]
  · rw [if_neg (by rw [h.n.1]; exact e1), if_neg e1]
    by_cases e2 : μ 7 r < 0
    · rw [if_pos (by omega), if_pos e2]
    · rw [if_neg (by omega), if_neg e2, h.ok h0 h1 (by omega), hz.2]
      by_cases e3 : (μ 7 r).tmod 2 ≠ 0
      · rw [if_pos (Or.inr e3), if_pos e3]
      · rw [if_neg e3]
        by_cases e4 : 12 < μ 7 r
        · rw [if_pos (Or.inl e4), if_pos e4]
        · rw [if_neg (by omega), if_neg e4]
          by_cases e5 : m_ok μ r (m_np μ r) = 0
          · rw [if_pos e5, if_neg (by omega)]
          · rw [if_neg e5, if_pos e5]
theorem z_R.rts (h : z_R μ ξ B P g) {r : Int} (h0 : 0 ≤ r) (h1 : r < 6) : z_R (m_nl_s μ r) (x_rt_s ξ (32 + 2 * r.toNat)) B P g := by
  have hz := h.rz h0 h1
  unfold x_rt_s m_nl_s
  rw [h.n.1, hz.2]
  by_cases e1 : μ 4 0 = 0
  · rw [if_pos e1, if_pos e1]
    exact h
  · rw [if_neg e1, if_neg e1]
    by_cases e2 : μ 7 r < 0
    · rw [if_pos e2, if_pos e2]
      exact h.find 1
    · have hok := h.ok h0 h1 (by omega)
      rw [h.n.1, hz.2] at hok
      rw [if_neg e2, if_neg e2, hok]
      by_cases e3 : (μ 7 r).tmod 2 ≠ 0
      · rw [if_pos e3, if_pos (Or.inr e3)]
        exact h.find 5
      · rw [if_neg e3]
        by_cases e4 : 12 < μ 7 r
        · rw [if_pos e4, if_pos (Or.inl e4)]
          exact h.find 5
        · rw [if_neg e4, if_neg (show ¬ (12 < μ 7 r ∨ (μ 7 r).tmod 2 ≠ 0) by omega)]
          by_cases e5 : m_ok μ r (m_np μ r) = 0
          · rw [if_neg (show ¬ m_ok μ r (m_np μ r) ≠ 0 by omega), if_pos e5]
            exact h.find 3
          · rw [if_pos (show m_ok μ r (m_np μ r) ≠ 0 from e5), if_neg e5]
            exact h.mm (by decide) _
theorem x_rt_0 {ξ : m_S} {a : Nat} (h : x_rt_v ξ a = 0) : x_rt_s ξ a = ξ := by
  unfold x_rt_v at h
  unfold x_rt_s
  by_cases e1 : ξ 7 0 = 0
  · rw [if_pos e1] at h; omega
  · rw [if_neg e1] at h ⊢
    by_cases e2 : ξ a 1 < 0
    · rw [if_pos e2] at h; omega
    · rw [if_neg e2] at h ⊢
      by_cases e3 : 12 < ξ a 1 ∨ (ξ a 1).tmod 2 ≠ 0
      · rw [if_pos e3] at h; omega
      · rw [if_neg e3] at h ⊢
        by_cases e4 : x_ok (ξ (a + 1)) (ξ 7 0) (ξ 8 2) ((ξ a 1).tdiv 2) = 0
        · rw [if_pos e4] at h; omega
        · rw [if_neg e4]
/-- what a row of told looks gives, once it is not refused -/
theorem z_R.told (h : z_R μ ξ B P g) {r : Int} (h0 : 0 ≤ r) (h1 : r < 6) (hv : m_nl_v μ r = 0) : (0 ≤ m_np μ r ∧ m_np μ r ≤ 6) ∧ ξ (32 + 2 * r.toNat) 1 = 2 * m_np μ r ∧ ∀ k : Int, 0 ≤ k → k < m_np μ r → (ξ (32 + 2 * r.toNat + 1) (2 * k) = m_it μ r (2 * k) ∧ ξ (32 + 2 * r.toNat + 1) (2 * k + 1) = m_it μ r (2 * k + 1)) ∧ (0 ≤ m_it μ r (2 * k) ∧ m_it μ r (2 * k) < μ 4 0) ∧ 0 ≤ m_it μ r (2 * k + 1) ∧ m_it μ r (2 * k + 1) < μ 3 0 := by
  obtain ⟨q1, q2, q3, q4, q5, -⟩ := m_nl_0 hv
  have hh := z_half q2 q3
  have hnp : m_np μ r = (μ 7 r).tdiv 2 := rfl
  refine ⟨by omega, by rw [(h.rz h0 h1).2, hnp]; exact hh, fun k k0 k1 => ?_⟩
  have ha := m_ok_a q5 k0 k1
  exact ⟨⟨h.ri2 h0 h1 (by omega) (by omega), h.ri2 h0 h1 (by omega) (by omega)⟩, by omega, by omega⟩
theorem z_R.tlw (h : z_R μ ξ B P g) {r : Int} (h0 : 0 ≤ r) (h1 : r < 6) (hv : m_nl_v μ r = 0) {c : Int} (c0 : 0 ≤ c) (c1 : c < μ 3 0) : x_tlf ξ (32 + 2 * r.toNat) (m_np μ r) c = m_tl μ r c := by
  have ht := h.told h0 h1 hv
  unfold x_tlf
  rw [if_pos (by have := h.n.2.2.2.1; omega)]
  unfold x_tw m_tl m_tw
  refine z_prod_c (fun k k0 k1 => ?_)
  have hk := ht.2.2 k k0 k1
  (try dsimp only)
  rw [hk.1.1, hk.1.2, h.pw hk.2.1.1 hk.2.1.2]
theorem z_R.tlr (h : z_R μ ξ B P g) {r : Int} (h0 : 0 ≤ r) (h1 : r < 6) (hv : m_nl_v μ r = 0) (c : Int) : 0 ≤ m_tl μ r c ∧ m_tl μ r c ≤ 4294967296 := by
  have hn := m_nl_0 hv
  have hb := h.Sh.b
  exact m_tw_r (h.mG (by omega)) r c (h.told h0 h1 hv).1.2
theorem z_R.tlp (h : z_R μ ξ B P g) {r : Int} (h0 : 0 ≤ r) (h1 : r < 6) (hv : m_nl_v μ r = 0) : z_pos (x_tlf ξ (32 + 2 * r.toNat) (m_np μ r)) (ξ 8 2) = z_sum (m_tpos μ r) (μ 3 0) := by
  have e : z_pos (x_tlf ξ (32 + 2 * r.toNat) (m_np μ r)) (μ 3 0) = z_pos (m_tl μ r) (μ 3 0) := z_pos_c (fun c c0 c1 => h.tlw h0 h1 hv c0 c1)
  rw [show z_pos (x_tlf ξ (32 + 2 * r.toNat) (m_np μ r)) (ξ 8 2) = z_pos (x_tlf ξ (32 + 2 * r.toNat) (m_np μ r)) (μ 3 0) from congrArg _ h.n.2.2.2.1, e]
  rfl
theorem z_R.tls (h : z_R μ ξ B P g) {r : Int} (h0 : 0 ≤ r) (h1 : r < 6) (hv : m_nl_v μ r = 0) : z_sum (x_tlf ξ (32 + 2 * r.toNat) (m_np μ r)) (ξ 8 2) = z_sum (m_tl μ r) (μ 3 0) := by
  rw [show z_sum (x_tlf ξ (32 + 2 * r.toNat) (m_np μ r)) (ξ 8 2) = z_sum (x_tlf ξ (32 + 2 * r.toNat) (m_np μ r)) (μ 3 0) from congrArg _ h.n.2.2.2.1]
  exact z_sum_c (fun c c0 c1 => h.tlw h0 h1 hv c0 c1)
theorem z_R.tla (h : z_R μ ξ B P g) {r : Int} (h0 : 0 ≤ r) (h1 : r < 6) (hv : m_nl_v μ r = 0) : z_am (x_tlf ξ (32 + 2 * r.toNat) (m_np μ r)) (ξ 8 2) = z_am (m_tl μ r) (μ 3 0) := by
  rw [show z_am (x_tlf ξ (32 + 2 * r.toNat) (m_np μ r)) (ξ 8 2) = z_am (x_tlf ξ (32 + 2 * r.toNat) (m_np μ r)) (μ 3 0) from congrArg _ h.n.2.2.2.1]
  exact z_am_c (fun c c0 c1 => h.tlw h0 h1 hv c0 c1)
theorem z_R.tlb (h : z_R μ ξ B P g) {r : Int} (h0 : 0 ≤ r) (h1 : r < 6) (hv : m_nl_v μ r = 0) (hS : 0 < μ 3 0) : z_back (m_tl μ r) (μ 3 0) (μ 3 0) = if z_pos (x_tlf ξ (32 + 2 * r.toNat) (m_np μ r)) (ξ 8 2) = 0 then -9 else z_fa (x_tlf ξ (32 + 2 * r.toNat) (m_np μ r)) (ξ 8 2) := by
  rw [z_back_e hS (fun c _ _ => (h.tlr h0 h1 hv c).1), h.tlp h0 h1 hv]
  rw [show z_fa (x_tlf ξ (32 + 2 * r.toNat) (m_np μ r)) (ξ 8 2) = z_fa (x_tlf ξ (32 + 2 * r.toNat) (m_np μ r)) (μ 3 0) from congrArg _ h.n.2.2.2.1, z_fa_c hS (fun c c0 c1 => h.tlw h0 h1 hv c0 c1)]
  rfl
theorem z_R.tlwy (h : z_R μ ξ B P g) {r : Int} (h0 : 0 ≤ r) (h1 : r < 6) (hv : m_nl_v μ r = 0) : ξ 8 2 * z_prod (fun i => ξ 1004 (ξ (32 + 2 * r.toNat + 1) (2 * i))) (m_np μ r) = m_bel μ r (m_np μ r) := by
  unfold m_bel
  rw [h.n.2.2.2.1]
  congr 1
  refine z_prod_c (fun k k0 k1 => ?_)
  have hk := (h.told h0 h1 hv).2.2 k k0 k1
  (try dsimp only)
  rw [hk.1.1, h.inn hk.2.1.1 hk.2.1.2]
theorem z_R.tl0 (h : z_R μ ξ B P g) {r : Int} (h0 : 0 ≤ r) (h1 : r < 6) (hv : m_nl_v μ r = 0) (hS : 0 < μ 3 0) : z_pos (x_tlf ξ (32 + 2 * r.toNat) (m_np μ r)) (ξ 8 2) = 0 ↔ m_tl μ r (z_am (m_tl μ r) (μ 3 0)) = 0 := by
  have e : z_pos (x_tlf ξ (32 + 2 * r.toNat) (m_np μ r)) (ξ 8 2) = z_pos (m_tl μ r) (μ 3 0) := h.tlp h0 h1 hv
  have ha := z_am_r (m_tl μ r) hS
  have hr := h.tlr h0 h1 hv (z_am (m_tl μ r) (μ 3 0))
  rw [e, z_pos_0]
  constructor
  · intro q
    rcases (show m_tl μ r (z_am (m_tl μ r) (μ 3 0)) = 0 ∨ 0 < m_tl μ r (z_am (m_tl μ r) (μ 3 0)) by omega) with g1 | g1
    · exact g1
    · exact absurd ⟨_, ha.1, ha.2, g1⟩ q
  · rintro q ⟨c, c0, c1, c2⟩
    have := z_a_max (m_tl μ r) (μ 3 0).toNat c c0 (by omega)
    have q' : m_tl μ r (z_a (m_tl μ r) (μ 3 0).toNat) = 0 := q
    omega
/-! marks -/
theorem z_R.fp (h : z_R μ ξ B P g) {p : Int} (h0 : 0 ≤ p) (h1 : p < μ 4 0) (t : Int) : x_fp ξ p t = z_ways (μ 5 p) (μ 0 (1 + p)) (μ 1 0) (μ 2 0) 0 t := h.pw h0 h1 0 t
theorem z_R.mk1 (h : z_R μ ξ B P g) {p : Int} (h0 : 0 ≤ p) (h1 : p < μ 4 0) : ξ 1003 p = z_sum (fun c => if 0 < (z_ways (μ 5 p) (μ 0 (1 + p)) (μ 1 0) (μ 2 0) 0 c) then 1 else 0) (μ 3 0) := by
  rw [(h.Ts p h0 (by have := h.n.1; omega)).2.2.2.1, h.n.2.2.2.1]
  exact z_pos_c (fun t _ _ => h.fp h0 h1 t)
theorem z_tls (f b G : Int → Int) {n : Int} (hn : 0 ≤ n) : z_sum (fun i => G (z_tl f b n i)) (z_pos f n) = z_sum (fun t => if 0 < f t then G t else 0) n := by
  have := z_sum_tl f b G n.toNat
  rw [Int.toNat_of_nonneg hn] at this
  exact this
theorem z_R.mk2 (h : z_R μ ξ B P g) {p : Int} (h0 : 0 ≤ p) (h1 : p < μ 4 0) : z_sum (fun i => if z_nt (ξ 8 0) (ξ 8 1) (z_tl (x_fp ξ p) (fun _ => 0) (ξ 8 2) i) 0 = 0 then x_fp ξ p (z_tl (x_fp ξ p) (fun _ => 0) (ξ 8 2) i) else 0) (ξ 1003 p) = z_sum (fun c => if z_nt (μ 1 0) (μ 2 0) c 0 = 0 then (z_ways (μ 5 p) (μ 0 (1 + p)) (μ 1 0) (μ 2 0) 0 c) else 0) (μ 3 0) := by
  have hG := h.mG (by omega)
  have hS := h.mV.1
  rw [(h.Ts p h0 (by have := h.n.1; omega)).2.2.2.1]
  rw [z_tls (x_fp ξ p) (fun _ => 0) (fun t => if z_nt (ξ 8 0) (ξ 8 1) t 0 = 0 then x_fp ξ p t else 0) (n := ξ 8 2) (by rw [h.n.2.2.2.1]; exact hS.1), h.n.2.2.2.1, h.n.2.1, h.n.2.2.1]
  refine z_sum_c (fun t t0 t1 => ?_)
  (try dsimp only)
  have hr := z_ways_r (k := μ 5 p) (f := μ 0 (1 + p)) (N := μ 2 0) 0 t hG.1
  rw [h.fp h0 h1]
  (repeat' split) <;> omega
theorem z_R.mk5 (h : z_R μ ξ B P g) {p : Int} (h0 : 0 ≤ p) (h1 : p < μ 4 0) : z_sum (fun i => z_sum (fun v => x_fp ξ p (z_tl (x_fp ξ p) (fun _ => 0) (ξ 8 2) i) * z_nt (ξ 8 0) (ξ 8 1) (z_tl (x_fp ξ p) (fun _ => 0) (ξ 8 2) i) v) (ξ 8 0)) (ξ 1003 p) = z_sum (fun c => z_sum (fun v => (z_ways (μ 5 p) (μ 0 (1 + p)) (μ 1 0) (μ 2 0) 0 c) * z_nt (μ 1 0) (μ 2 0) c v) (μ 1 0)) (μ 3 0) := by
  have hG := h.mG (by omega)
  have hS := h.mV.1
  rw [(h.Ts p h0 (by have := h.n.1; omega)).2.2.2.1]
  rw [z_tls (x_fp ξ p) (fun _ => 0) (fun t => z_sum (fun v => x_fp ξ p t * z_nt (ξ 8 0) (ξ 8 1) t v) (ξ 8 0)) (n := ξ 8 2) (by rw [h.n.2.2.2.1]; exact hS.1), h.n.2.2.2.1, h.n.2.1, h.n.2.2.1]
  refine z_sum_c (fun t t0 t1 => ?_)
  (try dsimp only)
  have hr := z_ways_r (k := μ 5 p) (f := μ 0 (1 + p)) (N := μ 2 0) 0 t hG.1
  have e : z_sum (fun v => x_fp ξ p t * z_nt (μ 1 0) (μ 2 0) t v) (μ 1 0) = z_sum (fun v => (z_ways (μ 5 p) (μ 0 (1 + p)) (μ 1 0) (μ 2 0) 0 t) * z_nt (μ 1 0) (μ 2 0) t v) (μ 1 0) := z_sum_c (fun v _ _ => by (try dsimp only); rw [h.fp h0 h1])
  rw [e, h.fp h0 h1]
  by_cases e2 : 0 < z_ways (μ 5 p) (μ 0 (1 + p)) (μ 1 0) (μ 2 0) 0 t
  · rw [if_pos e2]
  · rw [if_neg e2, show z_ways (μ 5 p) (μ 0 (1 + p)) (μ 1 0) (μ 2 0) 0 t = 0 by omega]
    have e3 : z_sum (fun v => (0 : Int) * z_nt (μ 1 0) (μ 2 0) t v) (μ 1 0) = z_sum (fun _ => 0) (μ 1 0) := z_sum_c (fun v _ _ => Int.zero_mul _)
    rw [e3]
    exact (z_s_z _).symm
end
