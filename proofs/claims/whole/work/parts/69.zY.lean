/-! the small language: the class's reader and the reference's -/
theorem z_sp_c {b b' : Int → Int} {L : Int} (h : ∀ j : Int, 0 ≤ j → j < L → b j = b' j) : ∀ (k : Nat) (p : Int), 0 ≤ p → z_sp b L k p = z_sp b' L k p
  | 0, p, _ => rfl
  | k + 1, p, h0 => by
    show (if p < L ∧ b p = 32 then z_sp b L k (p + 1) else p) = (if p < L ∧ b' p = 32 then z_sp b' L k (p + 1) else p)
    by_cases e : p < L
    · rw [h p h0 e, z_sp_c h k (p + 1) (by omega)]
    · rw [if_neg (fun q => e q.1), if_neg (fun q => e q.1)]
theorem z_skp_c {b b' : Int → Int} {L p : Int} (h : ∀ j : Int, 0 ≤ j → j < L → b j = b' j) (h0 : 0 ≤ p) : z_skp b L p = z_skp b' L p := z_sp_c h _ p h0
/-- the reference stands at place l of the text b of L bytes, having read p persons -/
def z_at (b : Int → Int) (L : Int) (ν : m_S) (l p : Int) : Prop := (∀ j : Int, 0 ≤ j → j < L → m_b ν j = b j) ∧ ν 18 0 = L ∧ ν 17 0 = l ∧ ν 22 0 = p
/-- what was read is the same -/
def z_mt (ν ξ : m_S) (p : Int) : Prop := ξ 4 0 = ν 19 0 ∧ ξ 4 1 = ν 20 0 ∧ (0 < p → ξ 4 2 = p) ∧ ∀ j : Int, 0 ≤ j → j < p → ξ 5 j = ν 21 (2 * j) ∧ ξ 6 j = ν 21 (2 * j + 1)
theorem z_at.mv {b : Int → Int} {L : Int} {ν : m_S} {l p : Int} (h : z_at b L ν l p) (l' : Int) : z_at b L (m_u ν 17 (fun _ => l')) l' p := ⟨h.1, h.2.1, rfl, h.2.2.2⟩
theorem z_at.sk {b : Int → Int} {L : Int} {ν : m_S} {l p : Int} (h : z_at b L ν l p) (h0 : 0 ≤ l) : z_at b L (m_sk ν) (z_skp b L l) p := by
  refine ⟨h.1, h.2.1, ?_, h.2.2.2⟩
  show z_skp (m_b ν) (ν 18 0) (ν 17 0) = _
  rw [h.2.1, h.2.2.1]
  exact z_skp_c h.1 h0
theorem z_at.fv {b : Int → Int} {L : Int} {ν : m_S} {l p : Int} (h : z_at b L ν l p) (h0 : 0 ≤ l) (h1 : l ≤ L) {lo hi : Int} (hh : hi ≤ 9) : m_fg_v ν lo hi = z_fg b L l lo hi := by
  unfold m_fg_v z_fg z_sg
  rw [h.2.1, h.2.2.1]
  by_cases e : l = L
  · rw [if_pos (Or.inl e), if_neg (show ¬ (0 ≤ l ∧ l < L) by omega), if_pos (by omega)]
  · rw [h.1 l h0 (by omega), if_pos (show 0 ≤ l ∧ l < L by omega)]
    by_cases e2 : b l - 48 < lo ∨ hi < b l - 48
    · rw [if_pos e2, if_pos (by omega)]
    · rw [if_neg e2, if_neg (by omega)]
theorem z_at.fs {b : Int → Int} {L : Int} {ν : m_S} {l p : Int} (h : z_at b L ν l p) (h0 : 0 ≤ l) (h1 : l ≤ L) {lo hi : Int} (hh : hi ≤ 9) : m_fg_s ν lo hi = if z_fg b L l lo hi = -9 ∧ (z_sg b L l - 48 < lo ∨ hi < z_sg b L l - 48) then ν else m_u ν 17 (fun _ => l + 1) := by
  unfold m_fg_s z_fg z_sg
  rw [h.2.1, h.2.2.1]
  by_cases e : l = L
  · rw [if_pos (Or.inl e), if_neg (show ¬ (0 ≤ l ∧ l < L) by omega), if_pos (by rw [if_pos (by omega)]; omega)]
  · rw [h.1 l h0 (by omega), if_pos (show 0 ≤ l ∧ l < L by omega)]
    by_cases e2 : b l - 48 < lo ∨ hi < b l - 48
    · rw [if_pos (show l = L ∨ ¬ (48 + lo ≤ b l ∧ b l ≤ 48 + hi) by omega), if_pos (by rw [if_pos e2]; exact ⟨rfl, e2⟩)]
    · rw [if_neg (show ¬ (l = L ∨ ¬ (48 + lo ≤ b l ∧ b l ≤ 48 + hi)) by omega), if_neg (fun q => e2 q.2)]
theorem z_fg_no {b : Int → Int} {L l lo hi : Int} (hlo : 0 ≤ lo) : z_fg b L l lo hi = -9 ↔ (z_sg b L l - 48 < lo ∨ hi < z_sg b L l - 48) := by
  unfold z_fg
  by_cases e : z_sg b L l - 48 < lo ∨ hi < z_sg b L l - 48
  · rw [if_pos e]
    exact ⟨fun _ => e, fun _ => rfl⟩
  · rw [if_neg e]
    exact ⟨fun q => by omega, fun q => absurd q e⟩
theorem z_at.fs0 {b : Int → Int} {L : Int} {ν : m_S} {l p : Int} (h : z_at b L ν l p) (h0 : 0 ≤ l) (h1 : l ≤ L) {lo hi : Int} (hlo : 0 ≤ lo) (hh : hi ≤ 9) (hf : z_fg b L l lo hi = -9) : m_fg_s ν lo hi = ν := by
  rw [h.fs h0 h1 hh, if_pos ⟨hf, (z_fg_no hlo).mp hf⟩]
theorem z_at.fs1 {b : Int → Int} {L : Int} {ν : m_S} {l p : Int} (h : z_at b L ν l p) (h0 : 0 ≤ l) (h1 : l ≤ L) {lo hi : Int} (hlo : 0 ≤ lo) (hh : hi ≤ 9) (hf : z_fg b L l lo hi ≠ -9) : m_fg_s ν lo hi = m_u ν 17 (fun _ => l + 1) ∧ l < L := by
  rw [h.fs h0 h1 hh, if_neg (fun q => hf q.1)]
  refine ⟨rfl, ?_⟩
  rcases (show l < L ∨ l = L by omega) with e | e
  · exact e
  · refine absurd ?_ hf
    rw [z_fg_no hlo]
    unfold z_sg
    rw [if_neg (by omega)]
    omega
theorem z_pl_e (b : Int → Int) (L : Int) : ∀ (k : Nat) (p l : Int) (ν ξ : m_S) (N : Nat), (k : Int) + p = 5 → 0 ≤ p → 0 ≤ l → l ≤ L → z_at b L ν l p → z_mt ν ξ p → k + 1 ≤ N →
    (x_pl b L k p l ξ).1 = (if (m_lp N 1 ν).1 ≠ 0 ∧ 0 < (m_lp N 1 ν).2 22 0 then -9 else (m_lp N 1 ν).2 17 0) ∧ ((x_pl b L k p l ξ).1 = -9 → z_mt (m_lp N 1 ν).2 (x_pl b L k p l ξ).2 ((m_lp N 1 ν).2 22 0))
  | 0, p, l, ν, ξ, N, hk, hp, h0, h1, ha, hm, hN => by
    show (if l < L then l else -9) = _ ∧ ((if l < L then l else -9) = -9 → z_mt _ ξ _)
    by_cases e : l < L
    · have hr : m_rp_v ν = 0 := by
        unfold m_rp_v
        by_cases e2 : m_k0 ν = -9
        · rw [if_pos e2]
        · rw [if_neg e2, if_pos (by rw [ha.2.2.2]; omega)]
      have hs : m_rp_s ν = ν := by
        unfold m_rp_s
        by_cases e2 : m_k0 ν = -9
        · rw [if_pos e2]
        · rw [if_neg e2, if_pos (by rw [ha.2.2.2]; omega)]
      have hst : m_st ν = ν := by
        unfold m_st
        rw [if_pos hr, hs]
      rw [m_lp_go (by omega) (by decide) (by rw [ha.2.2.1, ha.2.1]; exact e), hr, hst, m_lp_no (by omega), if_pos e]
      refine ⟨?_, fun q => by omega⟩
      rw [if_neg (fun q => q.1 rfl)]
      exact ha.2.2.1.symm
    · rw [m_lp_no (by rw [ha.2.2.1, ha.2.1]; exact fun q => e q.2), if_neg e]
      rw [if_pos (show (1 : Int) ≠ 0 ∧ 0 < ν 22 0 from ⟨by decide, by rw [ha.2.2.2]; omega⟩)]
      refine ⟨rfl, fun _ => ?_⟩
      show z_mt ν ξ (ν 22 0)
      rw [ha.2.2.2]
      exact hm
  | k + 1, p, l, ν, ξ, N, hk, hp, h0, h1, ha, hm, hN => by
    show (if ¬ l < L then (if p = 0 then l else -9, ξ) else if z_kd (z_sg b L l) = -9 then (l, x_p1 ξ p (z_kd (z_sg b L l))) else if z_fg b L (l + 1) 1 3 = -9 then (l + 1, x_p2 ξ p (z_kd (z_sg b L l)) (z_fg b L (l + 1) 1 3)) else x_pl b L k (p + 1) (z_skp b L (l + 2)) (x_p3 ξ p (z_kd (z_sg b L l)) (z_fg b L (l + 1) 1 3))).1 = _ ∧ ((if ¬ l < L then (if p = 0 then l else -9, ξ) else if z_kd (z_sg b L l) = -9 then (l, x_p1 ξ p (z_kd (z_sg b L l))) else if z_fg b L (l + 1) 1 3 = -9 then (l + 1, x_p2 ξ p (z_kd (z_sg b L l)) (z_fg b L (l + 1) 1 3)) else x_pl b L k (p + 1) (z_skp b L (l + 2)) (x_p3 ξ p (z_kd (z_sg b L l)) (z_fg b L (l + 1) 1 3))).1 = -9 → z_mt _ (if ¬ l < L then (if p = 0 then l else -9, ξ) else if z_kd (z_sg b L l) = -9 then (l, x_p1 ξ p (z_kd (z_sg b L l))) else if z_fg b L (l + 1) 1 3 = -9 then (l + 1, x_p2 ξ p (z_kd (z_sg b L l)) (z_fg b L (l + 1) 1 3)) else x_pl b L k (p + 1) (z_skp b L (l + 2)) (x_p3 ξ p (z_kd (z_sg b L l)) (z_fg b L (l + 1) 1 3))).2 _)
    by_cases e : l < L
    · rw [if_neg (fun q => q e)]
      have hsg : z_sg b L l = b l := by
        unfold z_sg
        rw [if_pos ⟨h0, e⟩]
      have hk0 : m_k0 ν = z_kd (z_sg b L l) := by
        unfold m_k0
        rw [ha.2.2.1, ha.1 l h0 e, hsg]
      have hlt : ν 17 0 < ν 18 0 := by rw [ha.2.2.1, ha.2.1]; exact e
      by_cases e2 : z_kd (z_sg b L l) = -9
      · have hr : m_rp_v ν = 0 := by unfold m_rp_v; rw [if_pos (by rw [hk0]; exact e2)]
        have hs : m_rp_s ν = ν := by unfold m_rp_s; rw [if_pos (by rw [hk0]; exact e2)]
        have hst : m_st ν = ν := by unfold m_st; rw [if_pos hr, hs]
        rw [m_lp_go (by omega) (by decide) hlt, hr, hst, m_lp_no (by omega), if_pos e2]
        refine ⟨?_, fun q => ?_⟩
        · rw [if_neg (fun q => q.1 rfl)]
          exact ha.2.2.1.symm
        · have q : l = -9 := q
          omega
      · rw [if_neg e2]
        have ey1 : m_y1 ν = m_u ν 17 (fun _ => l + 1) := by unfold m_y1; rw [ha.2.2.1]
        have ha1 : z_at b L (m_y1 ν) (l + 1) p := by rw [ey1]; exact ha.mv (l + 1)
        have hf0 : m_f0 ν = z_fg b L (l + 1) 1 3 := ha1.fv (by omega) (by omega) (by decide)
        have h5 : ν 22 0 ≠ 5 := by rw [ha.2.2.2]; omega
        by_cases e3 : z_fg b L (l + 1) 1 3 = -9
        · have ey2 : m_y2 ν = m_y1 ν := ha1.fs0 (by omega) (by omega) (by decide) (by decide) e3
          have hr : m_rp_v ν = 0 := by unfold m_rp_v; rw [if_neg (by rw [hk0]; exact e2), if_neg h5, if_pos (by rw [hf0]; exact e3)]
          have hs : m_rp_s ν = m_y1 ν := by unfold m_rp_s; rw [if_neg (by rw [hk0]; exact e2), if_neg h5, if_pos (by rw [hf0]; exact e3), ey2]
          have hst : m_st ν = m_y1 ν := by unfold m_st; rw [if_pos hr, hs]
          rw [m_lp_go (by omega) (by decide) hlt, hr, hst, m_lp_no (by omega), if_pos e3]
          refine ⟨?_, fun q => ?_⟩
          · rw [if_neg (fun q => q.1 rfl)]
            exact ha1.2.2.1.symm
          · have q : l + 1 = -9 := q
            omega
        · rw [if_neg e3]
          obtain ⟨ey2, hl1⟩ := ha1.fs1 (by omega) (by omega) (by decide) (by decide) e3
          have ey2 : m_y2 ν = m_u (m_y1 ν) 17 (fun _ => l + 1 + 1) := ey2
          have hr : m_rp_v ν = 1 := by unfold m_rp_v; rw [if_neg (by rw [hk0]; exact e2), if_neg h5, if_neg (by rw [hf0]; exact e3)]
          have hs : m_rp_s ν = m_y3 ν := by unfold m_rp_s; rw [if_neg (by rw [hk0]; exact e2), if_neg h5, if_neg (by rw [hf0]; exact e3)]
          have hst : m_st ν = m_sk (m_y3 ν) := by unfold m_st; rw [if_neg (by rw [hr]; decide), hs]
          have ha3 : z_at b L (m_y3 ν) (l + 2) (p + 1) := by
            refine ⟨?_, ?_, ?_, ?_⟩
            · intro j j0 j1
              have := ha.1 j j0 j1
              unfold m_y3
              rw [ey2, ey1]
              exact this
            · unfold m_y3
              rw [ey2, ey1]
              exact ha.2.1
            · unfold m_y3
              rw [ey2, ey1]
              show l + 1 + 1 = l + 2
              omega
            · show ν 22 0 + 1 = p + 1
              rw [ha.2.2.2]
          have ha4 := ha3.sk (by omega)
          have hsk := z_skp_r b (L := L) (p := l + 2) (by omega)
          have hm3 : z_mt (m_sk (m_y3 ν)) (x_p3 ξ p (z_kd (z_sg b L l)) (z_fg b L (l + 1) 1 3)) (p + 1) := by
            have e19 : m_sk (m_y3 ν) 19 = ν 19 := by
              rw [m_sk_k _ (by decide)]
              unfold m_y3
              rw [ey2, ey1]
              rfl
            have e20 : m_sk (m_y3 ν) 20 = ν 20 := by
              rw [m_sk_k _ (by decide)]
              unfold m_y3
              rw [ey2, ey1]
              rfl
            have e21 : m_sk (m_y3 ν) 21 = q_us (q_us (ν 21) (2 * p) (z_kd (z_sg b L l))) (2 * p + 1) (z_fg b L (l + 1) 1 3) := by
              rw [m_sk_k _ (by decide)]
              show m_rpa ν = _
              unfold m_rpa
              rw [ha.2.2.2, hk0, hf0]
            unfold z_mt
            rw [e19, e20, e21]
            refine ⟨?_, ?_, fun _ => ?_, fun j j0 j1 => ?_⟩
            · show q_us (ξ 4) 2 (p + 1) 0 = _
              rw [q_us_n (by decide)]
              exact hm.1
            · show q_us (ξ 4) 2 (p + 1) 1 = _
              rw [q_us_n (by decide)]
              exact hm.2.1
            · show q_us (ξ 4) 2 (p + 1) 2 = _
              exact q_us_s _ _ _
            · show q_us (ξ 5) p (z_kd (z_sg b L l)) j = _ ∧ q_us (ξ 6) p (z_fg b L (l + 1) 1 3) j = _
              by_cases ej : j = p
              · rw [ej, q_us_s, q_us_s, q_us_n (show 2 * p ≠ 2 * p + 1 by omega), q_us_s, q_us_s]
                exact ⟨rfl, rfl⟩
              · rw [q_us_n ej, q_us_n ej, q_us_n (show 2 * j ≠ 2 * p + 1 by omega), q_us_n (show 2 * j ≠ 2 * p by omega), q_us_n (show 2 * j + 1 ≠ 2 * p + 1 by omega), q_us_n (show 2 * j + 1 ≠ 2 * p by omega)]
                exact hm.2.2.2 j j0 (by omega)
          have ih := z_pl_e b L k (p + 1) (z_skp b L (l + 2)) (m_sk (m_y3 ν)) (x_p3 ξ p (z_kd (z_sg b L l)) (z_fg b L (l + 1) 1 3)) (N - 1) (by omega) (by omega) (by omega) hsk.2 ha4 hm3 (by omega)
          rw [m_lp_go (by omega) (by decide) hlt, hr, hst]
          exact ih
    · rw [if_pos e, m_lp_no (by rw [ha.2.2.1, ha.2.1]; exact fun q => e q.2)]
      by_cases ep : p = 0
      · rw [if_neg (show ¬ ((1 : Int) ≠ 0 ∧ 0 < ν 22 0) from fun q => by have := q.2; rw [ha.2.2.2] at this; omega)]
        show (if p = 0 then l else -9) = ν 17 0 ∧ ((if p = 0 then l else -9) = -9 → _)
        rw [if_pos ep]
        exact ⟨ha.2.2.1.symm, fun q => by omega⟩
      · rw [if_pos (show (1 : Int) ≠ 0 ∧ 0 < ν 22 0 from ⟨by decide, by rw [ha.2.2.2]; omega⟩)]
        show (if p = 0 then l else -9) = -9 ∧ ((if p = 0 then l else -9) = -9 → z_mt ν ξ (ν 22 0))
        rw [if_neg ep, ha.2.2.2]
        exact ⟨rfl, fun _ => hm⟩
theorem x_pl_k (b : Int → Int) (L : Int) {j : Nat} (hj : j ≠ 4 ∧ j ≠ 5 ∧ j ≠ 6) : ∀ (k : Nat) (p l : Int) (ξ : m_S), (x_pl b L k p l ξ).2 j = ξ j
  | 0, p, l, ξ => rfl
  | k + 1, p, l, ξ => by
    show (if ¬ l < L then (if p = 0 then l else -9, ξ) else if z_kd (z_sg b L l) = -9 then (l, x_p1 ξ p (z_kd (z_sg b L l))) else if z_fg b L (l + 1) 1 3 = -9 then (l + 1, x_p2 ξ p (z_kd (z_sg b L l)) (z_fg b L (l + 1) 1 3)) else x_pl b L k (p + 1) (z_skp b L (l + 2)) (x_p3 ξ p (z_kd (z_sg b L l)) (z_fg b L (l + 1) 1 3))).2 j = ξ j
    by_cases e : ¬ l < L
    · rw [if_pos e]
    · rw [if_neg e]
      by_cases e2 : z_kd (z_sg b L l) = -9
      · rw [if_pos e2]
        exact m_un hj.2.1
      · rw [if_neg e2]
        by_cases e3 : z_fg b L (l + 1) 1 3 = -9
        · rw [if_pos e3]
          exact (m_un hj.2.2).trans (m_un hj.2.1)
        · rw [if_neg e3, x_pl_k b L hj k]
          exact (m_un hj.1).trans ((m_un hj.2.2).trans (m_un hj.2.1))
theorem x_fo_k (ξ : m_S) (a : Nat) {j : Nat} (hj : j ≠ 4 ∧ j ≠ 5 ∧ j ≠ 6) : (x_fo ξ a).2 j = ξ j := by
  unfold x_fo
  split
  · rfl
  · split
    · exact m_un hj.1
    · split
      · exact m_un hj.1
      · unfold x_pf
        rw [x_pl_k _ _ hj]
        exact m_un hj.1
section
variable {μ ξ : m_S} {B P : Nat} {g : Int → Option Nat}
theorem z_R.fo (h : z_R μ ξ B P g) {t : Int} (h0 : 0 ≤ t) (h1 : t < 4) (hl : 0 ≤ μ 9 t) : (x_fo ξ (44 + 2 * t.toNat)).1 = m_fo_v μ t ∧ (m_fo_v μ t = -9 → z_mt (m_fo_s μ t) (x_fo ξ (44 + 2 * t.toNat)).2 (m_fo_s μ t 22 0)) := by
  have hz := h.tz h0 h1
  have hb : ∀ j : Int, 0 ≤ j → j < μ 9 t → ξ (44 + 2 * t.toNat + 1) j = μ 10 (60 * t + j) := fun j j0 j1 => h.ti h0 h1 j0 j1
  generalize hbb : ξ (44 + 2 * t.toNat + 1) = b at *
  have ha1 : z_at b (μ 9 t) (m_f1 μ t) 0 0 := ⟨fun j j0 j1 => (hb j j0 j1).symm, rfl, rfl, rfl⟩
  have ha2 := ha1.sk (Int.le_refl 0)
  have hs0 := z_skp_r b (L := μ 9 t) (p := 0) hl
  generalize hp0 : z_skp b (μ 9 t) 0 = p0 at *
  have hfo : x_fo ξ (44 + 2 * t.toNat) = if z_sg b (μ 9 t) p0 ≠ 119 then (p0, ξ) else if z_fg b (μ 9 t) (p0 + 1) 1 3 = -9 then (p0 + 1, m_u ξ 4 (q_us (ξ 4) 0 (-9))) else if z_fg b (μ 9 t) (p0 + 2) 4 6 = -9 then (p0 + 2, m_u ξ 4 (q_us (q_us (ξ 4) 0 (z_fg b (μ 9 t) (p0 + 1) 1 3)) 1 (-9))) else x_pl b (μ 9 t) 5 0 (z_skp b (μ 9 t) (p0 + 3)) (m_u ξ 4 (q_us (q_us (ξ 4) 0 (z_fg b (μ 9 t) (p0 + 1) 1 3)) 1 (z_fg b (μ 9 t) (p0 + 2) 4 6))) := by
    unfold x_fo x_pf
    rw [hz.2, hbb, hp0, m_un (show 44 + 2 * t.toNat + 1 ≠ 4 by omega), m_un (show 44 + 2 * t.toNat ≠ 4 by omega), hz.2, hbb]
  have hend : m_rl_v (m_f1 μ t) = 0 → m_fo_v μ t = m_rl_s (m_f1 μ t) 17 0 := fun e => by
    have e3 : m_f3 μ t = (0, m_rl_s (m_f1 μ t)) := by
      unfold m_f3 m_f2
      rw [if_pos e, e, m_lp_no (by omega)]
    unfold m_fo_v
    rw [e3, if_neg (fun q => q.1 rfl)]
  rw [hfo]
  by_cases e1 : z_sg b (μ 9 t) p0 = 119
  · rw [if_neg (fun q => q e1)]
    have hlt : p0 < μ 9 t := by
      rcases (show p0 < μ 9 t ∨ p0 = μ 9 t by omega) with e | e
      · exact e
      · unfold z_sg at e1
        rw [if_neg (by omega)] at e1
        omega
    have hbp : b p0 = 119 := by
      unfold z_sg at e1
      rw [if_pos ⟨hs0.1, hlt⟩] at e1
      exact e1
    have c1 : ¬ (m_sk (m_f1 μ t)) 17 0 = (m_sk (m_f1 μ t)) 18 0 := by rw [ha2.2.2.1, ha2.2.1]; omega
    have c2 : ¬ m_b (m_sk (m_f1 μ t)) ((m_sk (m_f1 μ t)) 17 0) ≠ 119 := by rw [ha2.2.2.1, ha2.1 p0 hs0.1 hlt]; exact fun q => q hbp
    have haq2 : z_at b (μ 9 t) (m_q2 (m_f1 μ t)) (p0 + 1) 0 := by
      unfold m_q2
      rw [ha2.2.2.1]
      exact ha2.mv (p0 + 1)
    have hf1 := haq2.fv (by omega) (by omega) (lo := 1) (hi := 3) (by decide)
    by_cases e2 : z_fg b (μ 9 t) (p0 + 1) 1 3 = -9
    · rw [if_pos e2]
      have hv : m_rl_v (m_f1 μ t) = 0 := by unfold m_rl_v; rw [if_neg c1, if_neg c2, if_pos (by rw [hf1]; exact e2)]
      have hs : m_rl_s (m_f1 μ t) 17 0 = p0 + 1 := by
        unfold m_rl_s
        rw [if_neg c1, if_neg c2, if_pos (by rw [hf1]; exact e2)]
        unfold m_q3
        rw [m_un (by decide), m_un (by decide), haq2.fs0 (by omega) (by omega) (by decide) (by decide) e2]
        exact haq2.2.2.1
      rw [hend hv, hs]
      exact ⟨rfl, fun q => by omega⟩
    · rw [if_neg e2]
      obtain ⟨es1, hl1⟩ := haq2.fs1 (by omega) (by omega) (by decide) (by decide) e2
      have haq3 : z_at b (μ 9 t) (m_q3 (m_f1 μ t)) (p0 + 2) 0 := by
        unfold m_q3
        rw [es1]
        have q := haq2.mv (p0 + 1 + 1)
        rw [show p0 + 1 + 1 = p0 + 2 by omega] at q ⊢
        exact ⟨q.1, q.2.1, q.2.2.1, q.2.2.2⟩
      have hf2 := haq3.fv (by omega) (by omega) (lo := 4) (hi := 6) (by decide)
      by_cases e3 : z_fg b (μ 9 t) (p0 + 2) 4 6 = -9
      · rw [if_pos e3]
        have hv : m_rl_v (m_f1 μ t) = 0 := by unfold m_rl_v; rw [if_neg c1, if_neg c2, if_neg (by rw [hf1]; exact e2), if_pos (by rw [hf2]; exact e3)]
        have hs : m_rl_s (m_f1 μ t) 17 0 = p0 + 2 := by
          unfold m_rl_s
          rw [if_neg c1, if_neg c2, if_neg (by rw [hf1]; exact e2)]
          unfold m_q4
          rw [m_un (by decide), haq3.fs0 (by omega) (by omega) (by decide) (by decide) e3]
          exact haq3.2.2.1
        rw [hend hv, hs]
        exact ⟨rfl, fun q => by omega⟩
      · rw [if_neg e3]
        obtain ⟨es2, hl2⟩ := haq3.fs1 (by omega) (by omega) (by decide) (by decide) e3
        have hv : m_rl_v (m_f1 μ t) = 1 := by unfold m_rl_v; rw [if_neg c1, if_neg c2, if_neg (by rw [hf1]; exact e2), if_neg (by rw [hf2]; exact e3)]
        have hs : m_rl_s (m_f1 μ t) = m_q4 (m_f1 μ t) := by unfold m_rl_s; rw [if_neg c1, if_neg c2, if_neg (by rw [hf1]; exact e2)]
        have haq4 : z_at b (μ 9 t) (m_q4 (m_f1 μ t)) (p0 + 3) 0 := by
          unfold m_q4
          rw [es2]
          have q := haq3.mv (p0 + 2 + 1)
          rw [show p0 + 2 + 1 = p0 + 3 by omega] at q ⊢
          exact ⟨q.1, q.2.1, q.2.2.1, q.2.2.2⟩
        have ha5 := haq4.sk (by omega)
        have hsk := z_skp_r b (L := μ 9 t) (p := p0 + 3) (by omega)
        have e19 : m_sk (m_q4 (m_f1 μ t)) 19 0 = z_fg b (μ 9 t) (p0 + 1) 1 3 := by
          rw [m_sk_k _ (by decide)]
          unfold m_q4
          rw [m_un (by decide), m_fg_k _ _ _ (by decide)]
          exact hf1
        have e20 : m_sk (m_q4 (m_f1 μ t)) 20 0 = z_fg b (μ 9 t) (p0 + 2) 4 6 := by
          rw [m_sk_k _ (by decide)]
          exact hf2
        have hm : z_mt (m_sk (m_q4 (m_f1 μ t))) (m_u ξ 4 (q_us (q_us (ξ 4) 0 (z_fg b (μ 9 t) (p0 + 1) 1 3)) 1 (z_fg b (μ 9 t) (p0 + 2) 4 6))) 0 := by
          refine ⟨?_, ?_, fun q => by omega, fun j j0 j1 => by omega⟩
          · rw [e19]
            show q_us (q_us (ξ 4) 0 (z_fg b (μ 9 t) (p0 + 1) 1 3)) 1 (z_fg b (μ 9 t) (p0 + 2) 4 6) 0 = _
            rw [q_us_n (by decide), q_us_s]
          · rw [e20]
            show q_us (q_us (ξ 4) 0 (z_fg b (μ 9 t) (p0 + 1) 1 3)) 1 (z_fg b (μ 9 t) (p0 + 2) 4 6) 1 = _
            rw [q_us_s]
        have hf3 : m_f3 μ t = m_lp 62 1 (m_sk (m_q4 (m_f1 μ t))) := by
          unfold m_f3 m_f2
          rw [if_neg (by rw [hv]; decide), hv, hs]
        have hp := z_pl_e b (μ 9 t) 5 0 (z_skp b (μ 9 t) (p0 + 3)) (m_sk (m_q4 (m_f1 μ t))) (m_u ξ 4 (q_us (q_us (ξ 4) 0 (z_fg b (μ 9 t) (p0 + 1) 1 3)) 1 (z_fg b (μ 9 t) (p0 + 2) 4 6))) 62 (by decide) (by decide) (by omega) hsk.2 ha5 hm (by decide)
        rw [← hf3] at hp
        refine ⟨hp.1, fun q => hp.2 (hp.1.trans q)⟩
  · rw [if_pos e1]
    have hv : m_rl_v (m_f1 μ t) = 0 ∧ m_rl_s (m_f1 μ t) = m_sk (m_f1 μ t) := by
      unfold m_rl_v m_rl_s
      by_cases e : p0 = μ 9 t
      · rw [if_pos (by rw [ha2.2.2.1, ha2.2.1]; exact e), if_pos (by rw [ha2.2.2.1, ha2.2.1]; exact e)]
        exact ⟨rfl, rfl⟩
      · have hlt : p0 < μ 9 t := by omega
        have hbp : b p0 ≠ 119 := fun q => e1 (by unfold z_sg; rw [if_pos ⟨hs0.1, hlt⟩]; exact q)
        have c1 : ¬ (m_sk (m_f1 μ t)) 17 0 = (m_sk (m_f1 μ t)) 18 0 := by rw [ha2.2.2.1, ha2.2.1]; exact e
        have c2 : m_b (m_sk (m_f1 μ t)) ((m_sk (m_f1 μ t)) 17 0) ≠ 119 := by rw [ha2.2.2.1, ha2.1 p0 hs0.1 hlt]; exact hbp
        rw [if_neg c1, if_pos c2, if_neg c1, if_pos c2]
        exact ⟨rfl, rfl⟩
    rw [hend hv.1, hv.2, ha2.2.2.1]
    exact ⟨rfl, fun q => by omega⟩
theorem z_R.fos (h : z_R μ ξ B P g) (t : Int) (a : Nat) : z_R (m_fo_s μ t) (x_fo ξ a).2 B P g := h.c (fun k hk => m_fo_k μ t (Or.inl (by omega))) (fun k h4 h5 h6 _ _ _ => x_fo_k ξ a ⟨h4, h5, h6⟩)
end
