/-! a shed begun, against the reference -/
theorem x_pw_c {w : q_W} {ξ σ : m_S} {B P : Nat} (e : ∀ k, 1000 ≤ k → σ k = ξ k) : x_pw w σ B P = x_pw w ξ B P := by
  unfold x_pw x_po
  rw [e 1000 (by omega), e 1003 (by omega), e 1004 (by omega), e 1005 (by omega)]
theorem x_dom_c {w : q_W} {ξ σ : m_S} {B P n : Nat} {g g' : Int → Option Nat} (hd : q_dom (x_w w ξ B P g) n) : q_dom (x_w w σ B P g') n := by
  intro a
  have q := hd a
  by_cases h6 : a < 64
  · unfold x_w at q ⊢
    rw [List.getElem?_eq_getElem (show a < (x_cells g).length from h6)] at q
    rw [List.getElem?_eq_getElem (show a < (x_cells g').length from h6)]
    exact ⟨fun _ => q.mp (Option.some_ne_none _), fun _ => Option.some_ne_none _⟩
  · rw [x_hi (by omega)] at q ⊢
    unfold x_pw at q ⊢
    by_cases e : B ≤ a ∧ a < B + P
    · rw [if_pos e] at q ⊢
      exact ⟨fun _ => q.mp (Option.some_ne_none _), fun _ => Option.some_ne_none _⟩
    · rw [if_neg e] at q ⊢
      exact q
def x_k3 (σ : m_S) : m_S := m_u (m_u (m_u σ 52 (q_us (σ 52) 0 (-1))) 56 (q_us (σ 56) 0 (-1))) 60 (q_us (σ 60) 0 (-1))
theorem x_k3_k {σ : m_S} {k : Nat} (h : k ≠ 52 ∧ k ≠ 56 ∧ k ≠ 60) : x_k3 σ k = σ k := by
  unfold x_k3
  rw [m_un h.2.2, m_un h.2.1, m_un h.1]
theorem z_shd {μ ξ ξ' σ : m_S} {B P n : Nat} {g g' : Int → Option Nat} (hR : z_R μ ξ' B P g) (hν : m_R μ) (hd : m_Rd μ) (hm : 0 < μ 22 0) (hz : z_mt μ ξ' (μ 22 0)) (h76 : 76 ≤ n) (hb : x_bg ξ' σ n g' (ξ' 4 2)) (h00 : σ 10 0 = 0) : z_R (m_lw (m_shd μ)) (x_k3 (x_wg σ)) n (μ 22 0).toNat g' := by
  have h42 : ξ' 4 2 = μ 22 0 := hz.2.2.1 hm
  have h5 := hν.2.2.2.1
  have hG := m_shd_G hν hd hm
  have hs0 := m_shd_0 μ
  have h4 : (m_shd μ) 4 0 = μ 22 0 := rfl
  have h70 : σ 7 0 = μ 22 0 := hb.2.2.1.2.2.trans h42
  have hRs : z_Rs (m_shd μ) σ n (μ 22 0).toNat g' := by
    refine ⟨⟨h70, hb.2.2.1.1.trans hz.1, hb.2.2.1.2.1.trans hz.2.1, ?_, by rw [h00, hs0]⟩, fun p p0 p1 => ?_, fun d d0 d1 => by omega, Or.inr hG, m_shd_D μ, ⟨h76, by omega, by omega, fun p p0 p1 => hb.2.2.2.1 p p0 (by omega)⟩, fun p p0 p1 => (hb.2.2.2.2 p p0 (by omega)).2.2.2, fun _ => hb.2.1⟩
    · show σ 8 2 = z_pw (μ 20 0) (μ 19 0)
      rw [hb.2.1.2.1, hb.2.2.1.1, hb.2.2.1.2.1, hz.1, hz.2.1]
    · rw [h4] at p1
      have q := hb.2.2.2.2 p p0 (by omega)
      have e := hz.2.2.2 p p0 p1
      have e1 : (m_shd μ) 5 p = μ 21 (2 * p) := by
        show m_sh_k μ (μ 22 0) p = _
        unfold m_sh_k
        rw [if_pos (by omega)]
      have e2 : (m_shd μ) 0 (1 + p) = μ 21 (2 * p + 1) := by
        show m_sh_r μ 4 (1 + p) = _
        unfold m_sh_r m_sh_f
        rw [if_neg (by omega), if_pos (by omega), show 1 + p - 1 = p by omega]
      rw [e1, e2, q.1, q.2.1, q.2.2.1, e.1, e.2]
      exact ⟨rfl, rfl, rfl⟩
  have h4' : z_Rd (m_lw (m_shd μ)) (x_k3 (x_wg σ)) n (μ 22 0).toNat g' := (hRs.lw (fun q => ⟨0, by omega, q, by
    rw [hs0]
    exact (by decide : (0 : Int) < 1)⟩)).c (fun _ _ => rfl) (fun k hk => x_k3_k (by omega))
  refine hR.rd h4' (fun k k0 k1 => ?_) (fun k k0 k1 => ?_) (fun k hk => ?_)
  · rcases (show k = 0 ∨ k = 1 ∨ k = 2 by omega) with rfl | rfl | rfl
    · have e : m_lw (m_shd μ) 0 (38 * (1 + 0)) = -1 := by
        show m_sh_r μ 4 38 = -1
        unfold m_sh_r
        rw [if_pos (by omega)]
      rw [e]
      exact ⟨rfl, Or.inl rfl⟩
    · have e : m_lw (m_shd μ) 0 (38 * (1 + 1)) = -1 := by
        show m_sh_r μ 4 76 = -1
        unfold m_sh_r
        rw [if_pos (by omega)]
      rw [e]
      exact ⟨rfl, Or.inl rfl⟩
    · have e : m_lw (m_shd μ) 0 (38 * (1 + 2)) = -1 := by
        show m_sh_r μ 4 114 = -1
        unfold m_sh_r
        rw [if_pos (by omega)]
      rw [e]
      exact ⟨rfl, Or.inl rfl⟩
  · show m_u (m_shd μ) 6 _ k = μ k
    rw [m_un (by omega)]
    unfold m_shd m_sh5 m_sh4
    rw [m_un (by omega), m_un (by omega), m_un (by omega), m_un (by omega), m_un (by omega), m_un (by omega)]
  · rw [x_k3_k (by omega)]
    show m_u σ 14 _ k = ξ' k
    rw [m_un (by omega)]
    exact hb.1 k (by omega)
