/-! deeds, flicks, kept sheds, lots: the relation is kept -/
theorem z_R.rd {μ ν ξ σ : m_S} {B P B' P' : Nat} {g g' : Int → Option Nat} (h : z_R μ ξ B P g) (h4 : z_Rd ν σ B' P' g') (h5 : z_Re ν σ) (e : ∀ k, 7 ≤ k → k ≤ 15 → ν k = μ k) (ex : ∀ k, (32 ≤ k ∧ k < 52) ∨ k = 0 ∨ k = 31 → σ k = ξ k) : z_R ν σ B' P' g' :=
  ⟨h.1.c (e 7 (by omega) (by omega)) (e 8 (by omega) (by omega)) (fun k _ _ => ex k (by omega)), h.2.1.c (e 9 (by omega) (by omega)) (e 10 (by omega) (by omega)) (fun k _ _ => ex k (by omega)), h.2.2.1.c (fun k _ _ => e k (by omega) (by omega)) (ex 0 (by omega)) (ex 31 (by omega)), h4, h5⟩
/-- the shed's part but for its weights -/
def z_Rs (μ ξ : m_S) (B P : Nat) (g : Int → Option Nat) : Prop :=
  (ξ 7 0 = μ 4 0 ∧ ξ 8 0 = μ 1 0 ∧ ξ 8 1 = μ 2 0 ∧ ξ 8 2 = μ 3 0 ∧ ξ 10 0 = μ 0 0) ∧
  (∀ p : Int, 0 ≤ p → p < μ 4 0 → ξ 1000 p = μ 5 p ∧ ξ 1005 p = μ 0 (1 + p) ∧ ξ 11 p = μ 0 (1 + p)) ∧
  (∀ d : Int, 0 ≤ d → d < μ 0 0 → ξ 12 d = z_nn (μ 0 (6 + d)) ∧ ξ 13 d = μ 0 (22 + d)) ∧
  m_Sh μ ∧ m_De μ ∧ x_Ps ξ B P g ∧ (∀ p : Int, 0 ≤ p → p < ξ 7 0 → x_Pt ξ p) ∧ (0 < ξ 7 0 → x_G ξ)
theorem z_Rs.d {μ ξ : m_S} {B P : Nat} {g : Int → Option Nat} (h : z_Rs μ ξ B P g) (hw : ∀ c : Int, 0 ≤ c → c < μ 3 0 → ξ 14 c = μ 6 c ∧ μ 6 c = m_Z μ c (μ 0 0)) (hp : 0 < μ 3 0 → ∃ c : Int, 0 ≤ c ∧ c < μ 3 0 ∧ 0 < μ 6 c) : z_Rd μ ξ B P g := ⟨h.1, h.2.1, h.2.2.1, hw, h.2.2.2.1, h.2.2.2.2.1, hp, h.2.2.2.2.2.1, h.2.2.2.2.2.2.1, h.2.2.2.2.2.2.2⟩
theorem z_Rd.s {μ ξ : m_S} {B P : Nat} {g : Int → Option Nat} (h : z_Rd μ ξ B P g) : z_Rs μ ξ B P g := ⟨h.1, h.2.1, h.2.2.1, h.2.2.2.2.1, h.2.2.2.2.2.1, h.2.2.2.2.2.2.2.1, h.2.2.2.2.2.2.2.2.1, h.2.2.2.2.2.2.2.2.2⟩
/-- weights laid anew from the story -/
theorem z_Rs.lw {μ ξ : m_S} {B P : Nat} {g : Int → Option Nat} (h : z_Rs μ ξ B P g) (hp : 0 < μ 3 0 → ∃ c : Int, 0 ≤ c ∧ c < μ 3 0 ∧ 0 < m_Z μ c (μ 0 0)) : z_Rd (m_lw μ) (x_wg ξ) B P g := by
  have hb := h.2.2.2.1.b
  have hD := h.2.2.2.2.1
  have hz : ∀ c : Int, 0 ≤ c → c < μ 3 0 → m_lw μ 6 c = m_Z μ c (μ 0 0) := fun c c0 c1 => by
    show m_lwf μ (μ 3 0) c = _
    unfold m_lwf
    rw [if_pos ⟨c0, c1⟩]
  have hps := h.2.2.2.2.2.1
  have h75 : ξ 7 0 ≤ 5 := by have h1 := hps.2.1; have h2 := hps.2.2.1; omega
  refine ⟨h.1, h.2.1, h.2.2.1, fun c c0 c1 => ⟨?_, hz c c0 c1⟩, h.2.2.2.1, hD, fun q => ?_, hps, fun p h0 h1 => ?_, fun q => (h.2.2.2.2.2.2.2 q).c rfl rfl⟩
  · rw [hz c c0 c1]
    have c1 : c < μ 3 0 := c1
    show x_wgf ξ (ξ 10 0) c = _
    unfold x_wgf
    rw [if_pos (by rw [h.1.2.2.2.1]; exact ⟨c0, c1⟩), h.1.2.2.2.2]
    unfold x_Z m_Z
    rw [h.1.2.1, h.1.2.2.1]
    refine z_wt_c (fun d d0 d1 => ?_)
    have hd := h.2.2.1 d d0 d1
    have hm := hD.2 d d0 d1
    show ξ 13 d = μ 0 (22 + d) ∧ ((μ 0 (6 + d) < 0 ∧ ξ 12 d < 0) ∨ (0 ≤ μ 0 (6 + d) ∧ ξ 12 d = μ 0 (6 + d) ∧ ξ 1000 (μ 0 (6 + d)) = μ 5 (μ 0 (6 + d)) ∧ ξ 1005 (μ 0 (6 + d)) = μ 0 (1 + μ 0 (6 + d))))
    refine ⟨hd.2, ?_⟩
    rcases hm.1 with q | q
    · left
      rw [hd.1, q]
      exact ⟨by decide, by decide⟩
    · right
      have hpp := h.2.1 _ q.1 q.2
      refine ⟨q.1, ?_, hpp.1, hpp.2.1⟩
      rw [hd.1]
      unfold z_nn
      rw [if_neg (by omega)]
  · have q : 0 < μ 3 0 := q
    obtain ⟨c, c0, c1, c2⟩ := hp q
    exact ⟨c, c0, c1, by rw [hz c c0 c1]; exact c2⟩
  · have h1 : p < ξ 7 0 := h1
    exact (h.2.2.2.2.2.2.1 p h0 h1).u (by omega) (by decide) _
theorem z_Rd.zw {μ ξ : m_S} {B P : Nat} {g : Int → Option Nat} (h : z_Rd μ ξ B P g) : ∀ {c : Int}, 0 ≤ c → c < μ 3 0 → μ 6 c = m_Z μ c (μ 0 0) := fun h0 h1 => (h.2.2.2.1 _ h0 h1).2
section
variable {μ ξ : m_S} {B P : Nat} {g : Int → Option Nat}
theorem z_R.flicks (h : z_R μ ξ B P g) {p v : Int} (h0 : 0 ≤ p) (h1 : p < μ 4 0) (hv : 1 ≤ v ∧ v ≤ 3) (hd : μ 0 0 = 0) : z_R (m_u μ 0 (q_us (μ 0) (1 + p) v)) (x_sf ξ p v) B P g := by
  have hn := h.n
  have hb := h.Sh.b
  have hG := h.mG (by omega)
  have hxk : ∀ k : Nat, k ≠ 11 → k ≠ 1003 → k ≠ 1004 → k ≠ 1005 → ¬ (20 ≤ k ∧ k ≤ 30) → x_sf ξ p v k = ξ k := fun k a b c d e => x_sf_k a b c d (by omega) (by omega)
  have e7 := hxk 7 (by omega) (by omega) (by omega) (by omega) (by omega)
  have e10 := hxk 10 (by omega) (by omega) (by omega) (by omega) (by omega)
  have hm0 : ∀ j : Int, j ≠ 1 + p → m_u μ 0 (q_us (μ 0) (1 + p) v) 0 j = μ 0 j := fun j hj => q_us_n hj
  have hGn : m_G (m_u μ 0 (q_us (μ 0) (1 + p) v)) := by
    refine ⟨hG.1, hG.2.1, hG.2.2.1, hG.2.2.2.1, fun q g0 g1 => ?_⟩
    have hq := hG.2.2.2.2 q g0 g1
    show 0 ≤ μ 5 q ∧ μ 5 q ≤ 5 ∧ 1 ≤ q_us (μ 0) (1 + p) v (1 + q) ∧ q_us (μ 0) (1 + p) v (1 + q) ≤ 3
    by_cases e : q = p
    · rw [e, q_us_s, ← e]; exact ⟨hq.1, hq.2.1, hv⟩
    · rw [q_us_n (by omega)]; exact hq
  refine h.rd (z_Rs.d ⟨?_, ?_, ?_, Or.inr hGn, ?_, ?_, ?_, ?_⟩ ?_ ?_) (h.2.2.2.2.c2 (fun k g0 _ => m_un (by omega)) (fun j g0 g1 => hm0 j (by omega)) (fun k g0 g1 => hxk k (by omega) (by omega) (by omega) (by omega) (by omega))) (fun k g0 _ => m_un (by omega)) (fun k hk => hxk k (by omega) (by omega) (by omega) (by omega) (by omega))
  · rw [e7, e10, x_sf_8]
    refine ⟨hn.1, hn.2.1, hn.2.2.1, hn.2.2.2.1, ?_⟩
    rw [hm0 0 (by omega)]
    exact hn.2.2.2.2
  · intro q g0 g1
    have g1 : q < μ 4 0 := g1
    have hq := h.p g0 g1
    show x_sf ξ p v 1000 q = μ 5 q ∧ x_sf ξ p v 1005 q = q_us (μ 0) (1 + p) v (1 + q) ∧ x_sf ξ p v 11 q = q_us (μ 0) (1 + p) v (1 + q)
    rw [x_sf_1000 (by omega), x_sf_1005 h0, x_sf_11]
    refine ⟨hq.1, ?_⟩
    by_cases e : q = p
    · rw [e, q_us_s, q_us_s, q_us_s]
      exact ⟨rfl, rfl⟩
    · rw [q_us_n e, q_us_n e, q_us_n (by omega)]
      exact hq.2
  · intro d g0 g1
    rw [hm0 0 (by omega)] at g1
    omega
  · refine ⟨by rw [hm0 0 (by omega)]; omega, fun d g0 g1 => ?_⟩
    rw [hm0 0 (by omega)] at g1
    omega
  · have hps := h.Ps
    unfold x_Ps
    rw [e7]
    exact hps
  · rw [e7]
    intro q g0 g1
    have hq5 : q < 5 := by omega
    by_cases e : q = p
    · rw [e]
      exact x_sf_Pt h0 (by omega) (h.Ts p h0 (by omega)).1 hv (by omega)
    · exact x_sf_Pq h0 (by omega) g0 hq5 e (h.Ts q g0 g1)
  · rw [e7]
    exact fun q => x_sf_G (h.G (Or.inl q))
  · intro c c0 c1
    have c1 : c < μ 3 0 := c1
    rw [hxk 14 (by omega) (by omega) (by omega) (by omega) (by omega), hm0 0 (by omega)]
    refine ⟨h.w c0 c1, ?_⟩
    show μ 6 c = _
    rw [h.Z c0 c1, hd]
    rfl
  · exact h.pos
/-- one deed more -/
theorem z_R.deed (h : z_R μ ξ B P g) {o o' t : Int} (ho : (o = -9 ∧ o' = -1) ∨ ((0 ≤ o ∧ o < μ 4 0) ∧ o' = o)) (ht : 0 ≤ t ∧ t < μ 3 0) (h16 : μ 0 0 < 16) {f : Int → Int} (hf : ∀ c : Int, 0 ≤ c → c < μ 3 0 → f c = z_w1 (μ 5) (m_fl μ) (μ 1 0) (μ 2 0) (μ 6 c) o t c) (hp : m_left μ o t ≠ 0) : z_R (m_lw (m_u μ 0 (m_dr μ o t))) (m_u (x_ad ξ o' t) 14 f) B P g := by
  have hn := h.n
  have hb := h.Sh.b
  have hD := h.De
  have hd0 := hD.1
  have hG := h.mG (by omega)
  have hm0 : m_dr μ o t 0 = μ 0 0 + 1 := q_us_s _ _ _
  have hm6 : m_dr μ o t (6 + μ 0 0) = o := by
    unfold m_dr
    rw [q_us_n (by omega), q_us_n (by omega), q_us_s]
  have hm22 : m_dr μ o t (22 + μ 0 0) = t := by
    unfold m_dr
    rw [q_us_n (by omega), q_us_s]
  have hZ : ∀ c : Int, 0 ≤ c → c < μ 3 0 → m_Z (m_u μ 0 (m_dr μ o t)) c (μ 0 0 + 1) = f c := fun c c0 c1 => by
    rw [m_Z_s _ _ hd0.1, hf c c0 c1]
    show z_w1 (μ 5) (m_fl (m_u μ 0 (m_dr μ o t))) (μ 1 0) (μ 2 0) (m_Z (m_u μ 0 (m_dr μ o t)) c (μ 0 0)) (m_dr μ o t (6 + μ 0 0)) (m_dr μ o t (22 + μ 0 0)) c = _
    rw [hm6, hm22]
    have e1 : m_Z (m_u μ 0 (m_dr μ o t)) c (μ 0 0) = μ 6 c := by
      rw [h.Z c0 c1]
      unfold m_Z
      refine z_wt_c (fun d d0 d1 => ?_)
      have hm := hD.2 d d0 d1
      show m_dr μ o t (22 + d) = μ 0 (22 + d) ∧ ((μ 0 (6 + d) < 0 ∧ m_dr μ o t (6 + d) < 0) ∨ (0 ≤ μ 0 (6 + d) ∧ m_dr μ o t (6 + d) = μ 0 (6 + d) ∧ μ 5 (μ 0 (6 + d)) = μ 5 (μ 0 (6 + d)) ∧ m_dr μ o t (1 + μ 0 (6 + d)) = μ 0 (1 + μ 0 (6 + d))))
      rw [m_dr_o o t (j := 22 + d) (by omega) (by omega) (by omega), m_dr_o o t (j := 6 + d) (by omega) (by omega) (by omega)]
      refine ⟨rfl, ?_⟩
      rcases hm.1 with q | q
      · exact Or.inl ⟨by omega, by omega⟩
      · exact Or.inr ⟨q.1, rfl, rfl, m_dr_o o t (by omega) (by omega) (by omega)⟩
    rw [e1]
    unfold z_w1
    rcases ho with q | q
    · rw [if_pos (show o < 0 by omega), if_pos (show o < 0 by omega)]
    · rw [if_neg (show ¬ o < 0 by omega), if_neg (show ¬ o < 0 by omega)]
      have e2 : m_fl (m_u μ 0 (m_dr μ o t)) o = m_fl μ o := m_dr_o o t (by omega) (by omega) (by omega)
      rw [e2]
  have hw6 : ∀ c : Int, 0 ≤ c → c < μ 3 0 → m_lw (m_u μ 0 (m_dr μ o t)) 6 c = f c := fun c c0 c1 => by
    show m_lwf (m_u μ 0 (m_dr μ o t)) (μ 3 0) c = _
    unfold m_lwf
    rw [if_pos ⟨c0, c1⟩]
    show m_Z (m_u μ 0 (m_dr μ o t)) c (m_dr μ o t 0) = _
    rw [hm0, hZ c c0 c1]
  have hps := h.Ps
  have h75 : ξ 7 0 ≤ 5 := by have h1 := hps.2.1; have h2 := hps.2.2.1; omega
  have hDn : m_De (m_lw (m_u μ 0 (m_dr μ o t))) := m_De_add hD (by omega) ht h16
  have hGn : m_G (m_lw (m_u μ 0 (m_dr μ o t))) := by
    refine ⟨hG.1, hG.2.1, hG.2.2.1, hG.2.2.2.1, fun q g0 g1 => ?_⟩
    have g1 : q < μ 4 0 := g1
    show 0 ≤ μ 5 q ∧ μ 5 q ≤ 5 ∧ 1 ≤ m_dr μ o t (1 + q) ∧ m_dr μ o t (1 + q) ≤ 3
    rw [m_dr_o o t (by omega) (by omega) (by omega)]
    exact hG.2.2.2.2 q g0 g1
  refine h.rd (z_Rs.d ⟨?_, ?_, ?_, Or.inr hGn, hDn, hps, ?_, ?_⟩ ?_ ?_) (h.2.2.2.2.c2 (fun k g0 g1 => ?_) (fun j g0 g1 => m_dr_o o t (by omega) (by omega) (by omega)) (fun k g0 g1 => ?_)) (fun k g0 g1 => ?_) (fun k hk => ?_)
  · refine ⟨hn.1, hn.2.1, hn.2.2.1, hn.2.2.2.1, ?_⟩
    show q_us (ξ 10) 0 (ξ 10 0 + 1) 0 = m_dr μ o t 0
    rw [q_us_s, hm0, hn.2.2.2.2]
  · intro q g0 g1
    have g1 : q < μ 4 0 := g1
    have hq := h.p g0 g1
    show ξ 1000 q = μ 5 q ∧ ξ 1005 q = m_dr μ o t (1 + q) ∧ ξ 11 q = m_dr μ o t (1 + q)
    rw [m_dr_o o t (by omega) (by omega) (by omega)]
    exact hq
  · intro d g0 g1
    have g1 : d < m_dr μ o t 0 := g1
    rw [hm0] at g1
    show q_us (ξ 12) (ξ 10 0) o' d = z_nn (m_dr μ o t (6 + d)) ∧ q_us (ξ 13) (ξ 10 0) t d = m_dr μ o t (22 + d)
    rw [hn.2.2.2.2]
    by_cases e : d = μ 0 0
    · rw [e, q_us_s, q_us_s, hm6, hm22]
      refine ⟨?_, rfl⟩
      unfold z_nn
      split <;> omega
    · rw [q_us_n e, q_us_n e, m_dr_o o t (by omega) (by omega) (by omega), m_dr_o o t (by omega) (by omega) (by omega)]
      exact h.d g0 (by omega)
  · intro q g0 g1
    have g1 : q < ξ 7 0 := g1
    exact ((((h.Ts q g0 g1).u (by omega) (k := 12) (by decide) _).u (by omega) (k := 13) (by decide) _).u (by omega) (k := 10) (by decide) _).u (by omega) (k := 14) (by decide) _
  · intro q
    exact (h.G (Or.inl q)).c rfl rfl
  · intro c c0 c1
    have c1 : c < μ 3 0 := c1
    refine ⟨(hw6 c c0 c1).symm, ?_⟩
    rw [hw6 c c0 c1]
    show f c = m_Z (m_u μ 0 (m_dr μ o t)) c (m_dr μ o t 0)
    rw [hm0, hZ c c0 c1]
  · intro _
    have hl := m_left_r (μ := μ) o t hb.2.1
    have hl2 : 0 < m_left μ o t := by omega
    obtain ⟨c, c0, c1, c2⟩ := (z_sum_pos (fun j _ _ => by (try dsimp only); split <;> omega)).mp hl2
    refine ⟨c, c0, c1, ?_⟩
    rw [hw6 c c0 c1, hf c c0 c1]
    (try dsimp only at c2)
    split at c2
    · assumption
    · omega
  · show m_u (m_u μ 0 (m_dr μ o t)) 6 _ k = μ k
    rw [m_un (by omega), m_un (by omega)]
  · show m_u (m_u (m_u (m_u ξ 12 _) 13 _) 10 _) 14 f k = ξ k
    rw [m_un (by omega), m_un (by omega), m_un (by omega), m_un (by omega)]
  · show m_u (m_u μ 0 (m_dr μ o t)) 6 _ k = μ k
    rw [m_un (by omega), m_un (by omega)]
  · show m_u (m_u (m_u (m_u ξ 12 _) 13 _) 10 _) 14 f k = ξ k
    rw [m_un (by omega), m_un (by omega), m_un (by omega), m_un (by omega)]
theorem z_R.lb (h : z_R μ ξ B P g) {p t : Int} (h0 : 0 ≤ p) (h1 : p < μ 4 0) : x_lb ξ p t = m_left μ p t := by
  unfold x_lb
  rw [h.n.2.2.2.1]
  show _ = z_pos (fun c => z_w1 (μ 5) (m_fl μ) (μ 1 0) (μ 2 0) (μ 6 c) p t c) (μ 3 0)
  refine z_pos_c (fun c c0 c1 => ?_)
  have e : z_w1 (μ 5) (m_fl μ) (μ 1 0) (μ 2 0) (μ 6 c) p t c = μ 6 c * m_ways μ p c t := by
    unfold z_w1
    rw [if_neg (show ¬ p < 0 by omega)]
    rfl
  show ξ 14 c * z_ways (ξ 1000 p) (ξ 1005 p) (ξ 8 0) (ξ 8 1) c t = z_w1 (μ 5) (m_fl μ) (μ 1 0) (μ 2 0) (μ 6 c) p t c
  rw [e, h.w c0 c1, h.pw h0 h1]
theorem z_R.lt (h : z_R μ ξ B P g) {t : Int} (h0 : 0 ≤ t) (h1 : t < μ 3 0) : z_pos (ξ 14) (ξ 8 2) - (if 0 < ξ 14 t then 1 else 0) = m_left μ (-9) t := by
  rw [h.zpos, h.w h0 h1]
  unfold m_left z_pos
  have e : z_sum (fun c => if 0 < μ 6 c then 1 else 0) (μ 3 0) = z_sum (fun c => (if 0 < z_w1 (μ 5) (m_fl μ) (μ 1 0) (μ 2 0) (μ 6 c) (-9) t c then 1 else 0) + (if c = t then (if 0 < μ 6 c then 1 else 0) else 0)) (μ 3 0) := z_sum_c (fun c _ _ => by
    (try dsimp only)
    unfold z_w1
    rw [if_pos (show (-9 : Int) < 0 by decide)]
    by_cases e2 : c = t
    · rw [if_pos e2, if_pos e2, if_neg (show ¬ (0 : Int) < 0 by decide), Int.zero_add]
    · rw [if_neg e2, if_neg e2, Int.add_zero])
  have e3 : z_sum (fun c => (if 0 < z_w1 (μ 5) (m_fl μ) (μ 1 0) (μ 2 0) (μ 6 c) (-9) t c then 1 else 0) + (if c = t then (if 0 < μ 6 c then 1 else 0) else 0)) (μ 3 0) = z_sum (fun c => if 0 < z_w1 (μ 5) (m_fl μ) (μ 1 0) (μ 2 0) (μ 6 c) (-9) t c then 1 else 0) (μ 3 0) + z_sum (fun c => if c = t then (if 0 < μ 6 c then 1 else 0) else 0) (μ 3 0) := z_sum_add _ _ _
  rw [e, e3, z_sum_one (fun c => if 0 < μ 6 c then 1 else 0) h0 h1]
  omega
/-- deeds undone -/
theorem z_R.undo (h : z_R μ ξ B P g) {n : Int} (h0 : 0 ≤ n) (h1 : n ≤ μ 0 0) : z_R (m_lw (m_u μ 0 (q_us (μ 0) 0 n))) (x_wg (m_u ξ 10 (q_us (ξ 10) 0 n))) B P g := by
  have hn := h.n
  have hb := h.Sh.b
  have hD := h.De
  have hd0 := hD.1
  have hps := h.Ps
  have h75 : ξ 7 0 ≤ 5 := by have h1 := hps.2.1; have h2 := hps.2.2.1; omega
  have hm : ∀ j : Int, j ≠ 0 → m_u μ 0 (q_us (μ 0) 0 n) 0 j = μ 0 j := fun j hj => q_us_n hj
  have hm0 : m_u μ 0 (q_us (μ 0) 0 n) 0 0 = n := by
    show q_us (μ 0) 0 n 0 = n
    exact q_us_s _ _ _
  have hs : z_Rs (m_u μ 0 (q_us (μ 0) 0 n)) (m_u ξ 10 (q_us (ξ 10) 0 n)) B P g := by
    refine ⟨⟨hn.1, hn.2.1, hn.2.2.1, hn.2.2.2.1, ?_⟩, ?_, ?_, m_Sh_row h.Sh (fun p p0 p1 => hm _ (by omega)), ?_, hps, ?_, fun q => (h.G (Or.inl q)).c rfl rfl⟩
    · rw [hm0]
      show q_us (ξ 10) 0 n 0 = n
      exact q_us_s _ _ _
    · intro p p0 p1
      rw [hm (1 + p) (by omega)]
      exact h.p p0 p1
    · intro d d0 d1
      rw [hm0] at d1
      rw [hm (6 + d) (by omega), hm (22 + d) (by omega)]
      exact h.d d0 (by omega)
    · refine ⟨by rw [hm0]; omega, fun d d0 d1 => ?_⟩
      rw [hm0] at d1
      rw [hm (6 + d) (by omega), hm (22 + d) (by omega)]
      exact hD.2 d d0 (by omega)
    · intro p p0 p1
      have p1 : p < ξ 7 0 := p1
      exact (h.Ts p p0 p1).u (by omega) (by decide) _
  refine h.rd (hs.lw (fun q => ?_)) (h.2.2.2.2.c2 (fun k g0 g1 => ?_) (fun j g0 g1 => hm j (by omega)) (fun k g0 g1 => ?_)) (fun k g0 g1 => ?_) (fun k hk => ?_)
  · have q : 0 < μ 3 0 := q
    obtain ⟨c, c0, c1, c2⟩ := h.pos q
    have hG := h.mG (by omega)
    refine ⟨c, c0, c1, ?_⟩
    rw [h.Z c0 c1] at c2
    rw [hm0]
    have e : m_Z (m_u μ 0 (q_us (μ 0) 0 n)) c n = m_Z μ c n := by
      unfold m_Z
      refine z_wt_c (fun d d0 d1 => ?_)
      have hx := hD.2 d d0 (by omega)
      show q_us (μ 0) 0 n (22 + d) = μ 0 (22 + d) ∧ ((μ 0 (6 + d) < 0 ∧ q_us (μ 0) 0 n (6 + d) < 0) ∨ (0 ≤ μ 0 (6 + d) ∧ q_us (μ 0) 0 n (6 + d) = μ 0 (6 + d) ∧ μ 5 (μ 0 (6 + d)) = μ 5 (μ 0 (6 + d)) ∧ q_us (μ 0) 0 n (1 + μ 0 (6 + d)) = μ 0 (1 + μ 0 (6 + d))))
      rw [q_us_n (by omega), q_us_n (by omega)]
      refine ⟨rfl, ?_⟩
      rcases hx.1 with q | q
      · exact Or.inl ⟨by omega, by omega⟩
      · exact Or.inr ⟨q.1, rfl, rfl, q_us_n (by omega)⟩
    rw [e]
    exact z_wt_dn hG.1 h1 c2
  · show m_u (m_u μ 0 _) 6 _ k = μ k
    rw [m_un (by omega), m_un (by omega)]
  · show m_u (m_u ξ 10 _) 14 _ k = ξ k
    rw [m_un (by omega), m_un (by omega)]
  · show m_u (m_u μ 0 _) 6 _ k = μ k
    rw [m_un (by omega), m_un (by omega)]
  · show m_u (m_u ξ 10 _) 14 _ k = ξ k
    rw [m_un (by omega), m_un (by omega)]
/-- a shed kept -/
theorem z_R.keep (h : z_R μ ξ B P g) {k : Int} (h0 : 0 ≤ k) (h1 : k < 3) (hp : 0 < μ 4 0) : z_R (m_u μ 0 (q_cpy (μ 0) (μ 0) 0 (38 * (1 + k)) 38)) (x_tf ξ (52 + 4 * k.toNat) 10) B P g := by
  have hn := h.n
  have hD := h.De
  have hd0 := hD.1
  have hG := h.mG (by omega)
  have hlo : ∀ j : Int, j < 38 * (1 + k) ∨ 38 * (1 + k) + 38 ≤ j → m_u μ 0 (q_cpy (μ 0) (μ 0) 0 (38 * (1 + k)) 38) 0 j = μ 0 j := fun j hj => q_cpy_o _ _ hj
  have hin : ∀ j : Int, 0 ≤ j → j < 38 → m_u μ 0 (q_cpy (μ 0) (μ 0) 0 (38 * (1 + k)) 38) 0 (38 * (1 + k) + j) = μ 0 j := fun j j0 j1 => by
    show q_cpy (μ 0) (μ 0) 0 (38 * (1 + k)) 38 (38 * (1 + k) + j) = μ 0 j
    rw [q_cpy_i _ _ (by omega) (by omega)]
    congr 1
    omega
  have hin0 : m_u μ 0 (q_cpy (μ 0) (μ 0) 0 (38 * (1 + k)) 38) 0 (38 * (1 + k)) = μ 0 0 := by
    have := hin 0 (by omega) (by omega)
    rwa [Int.add_zero] at this
  have hx : ∀ a : Nat, a ≠ 52 + 4 * k.toNat → a ≠ 52 + 4 * k.toNat + 1 → a ≠ 52 + 4 * k.toNat + 2 → a ≠ 52 + 4 * k.toNat + 3 → x_tf ξ (52 + 4 * k.toNat) 10 a = ξ a := fun a a0 a1 a2 a3 => x_tf_k ⟨a0, a1, a2, a3⟩
  have hxl : ∀ a : Nat, a < 52 ∨ 64 ≤ a → x_tf ξ (52 + 4 * k.toNat) 10 a = ξ a := fun a ha => hx a (by omega) (by omega) (by omega) (by omega)
  refine ⟨h.1.c rfl rfl (fun a _ _ => hxl a (by omega)), h.2.1.c rfl rfl (fun a _ _ => hxl a (by omega)), h.2.2.1.c (fun a _ _ => m_un (by omega)) (hxl 0 (by omega)) (hxl 31 (by omega)), ?_, ?_⟩
  · have h4 := h.2.2.2.1
    have hx4 : z_Rd μ (x_tf ξ (52 + 4 * k.toNat) 10) B P g := h4.c (fun _ _ => rfl) (fun a ha => hxl a (by omega))
    have e1 : ∀ j : Int, 0 ≤ j → j < 38 → m_u μ 0 (q_cpy (μ 0) (μ 0) 0 (38 * (1 + k)) 38) 0 j = μ 0 j := fun j j0 j1 => hlo j (by omega)
    have eu : ∀ j, 1 ≤ j → j ≤ 5 → m_u μ 0 (q_cpy (μ 0) (μ 0) 0 (38 * (1 + k)) 38) j = μ j := fun j j0 _ => m_un (by omega)
    have hP5 := hG.2.2.2.1
    refine ⟨?_, ?_, ?_, ?_, Or.inr (hG.c2 eu e1), hD.c2 eu e1, hx4.2.2.2.2.2.2.1, hx4.2.2.2.2.2.2.2.1, hx4.2.2.2.2.2.2.2.2.1, hx4.2.2.2.2.2.2.2.2.2⟩
    · rw [e1 0 (by omega) (by omega)]
      exact hx4.1
    · intro p p0 p1
      have p1 : p < μ 4 0 := p1
      rw [e1 (1 + p) (by omega) (by omega)]
      exact hx4.2.1 p p0 p1
    · intro d d0 d1
      rw [e1 0 (by omega) (by omega)] at d1
      rw [e1 (6 + d) (by omega) (by omega), e1 (22 + d) (by omega) (by omega)]
      exact hx4.2.2.1 d d0 d1
    · intro c c0 c1
      have hc := hx4.2.2.2.1 c c0 c1
      rw [e1 0 (by omega) (by omega), m_Z.c2 hD hP5.2 eu e1 c (Int.le_refl _)]
      exact hc
  · intro q q0 q1
    by_cases e : q = k
    · subst e
      rw [hin0]
      refine ⟨?_, Or.inr ?_⟩
      · unfold x_tf
        rw [m_un (by omega), m_un (by omega), m_un (by omega), m_us, q_us_s]
        exact hn.2.2.2.2
      · have f0 : ∀ j : Int, 0 ≤ j → j < 38 → m_kp (m_u μ 0 (q_cpy (μ 0) (μ 0) 0 (38 * (1 + q)) 38)) q 0 j = μ 0 j := fun j j0 j1 => hin j j0 j1
        have fe : ∀ j, 1 ≤ j → j ≤ 5 → m_kp (m_u μ 0 (q_cpy (μ 0) (μ 0) 0 (38 * (1 + q)) 38)) q j = μ j := fun j j0 _ => by
          unfold m_kp
          rw [m_un (by omega), m_un (by omega)]
        have hP5 := hG.2.2.2.1
        refine ⟨by rw [hin0]; exact hd0.1, hG.c2 fe f0, hD.c2 fe f0, ?_, ?_, ?_⟩
        · intro p p0 p1
          have p1 : p < μ 4 0 := p1
          rw [hin (1 + p) (by omega) (by omega), ← (h.p p0 p1).2.2]
          unfold x_tf
          rw [m_un (by omega), m_un (by omega), m_us, q_cpy_i _ _ (by omega) (by omega), show 0 + (p - 0) = p by omega]
        · intro d d0 d1
          rw [hin0] at d1
          rw [hin (6 + d) (by omega) (by omega), hin (22 + d) (by omega) (by omega), ← (h.d d0 d1).1, ← (h.d d0 d1).2]
          unfold x_tf
          constructor
          · rw [m_un (by omega), m_us, q_cpy_i _ _ (by omega) (by omega), show 0 + (d - 0) = d by omega]
          · rw [m_us, q_cpy_i _ _ (by omega) (by omega), show 0 + (d - 0) = d by omega]
        · obtain ⟨c, c0, c1, c2⟩ := h.pos (by have := hG.S; omega)
          refine ⟨c, c0, c1, ?_⟩
          rw [f0 0 (by omega) (by omega), m_Z.c2 hD hP5.2 fe f0 c (Int.le_refl _), ← h.Z c0 c1]
          exact c2
    · have hq := h.2.2.2.2 q q0 q1
      have e0 : ∀ j : Int, 0 ≤ j → j < 38 → m_u μ 0 (q_cpy (μ 0) (μ 0) 0 (38 * (1 + k)) 38) 0 (38 * (1 + q) + j) = μ 0 (38 * (1 + q) + j) := fun j j0 j1 => hlo _ (by omega)
      have e00 : m_u μ 0 (q_cpy (μ 0) (μ 0) 0 (38 * (1 + k)) 38) 0 (38 * (1 + q)) = μ 0 (38 * (1 + q)) := hlo _ (by omega)
      rw [e00, hx _ (by omega) (by omega) (by omega) (by omega)]
      refine ⟨hq.1, ?_⟩
      rcases hq.2 with w | w
      · exact Or.inl w
      · right
        obtain ⟨w0, w1, w2, w3, w4, w5⟩ := w
        have f0 : ∀ j : Int, 0 ≤ j → j < 38 → m_kp (m_u μ 0 (q_cpy (μ 0) (μ 0) 0 (38 * (1 + k)) 38)) q 0 j = m_kp μ q 0 j := fun j j0 j1 => e0 j j0 j1
        have fe : ∀ j, 1 ≤ j → j ≤ 5 → m_kp (m_u μ 0 (q_cpy (μ 0) (μ 0) 0 (38 * (1 + k)) 38)) q j = m_kp μ q j := fun j j0 _ => by
          unfold m_kp
          rw [m_un (by omega), m_un (by omega), m_un (by omega)]
        have h5 : m_kp μ q 4 0 ≤ 5 := w1.2.2.2.1.2
        have h5' : μ 4 0 ≤ 5 := h5
        have h16 : μ 0 (38 * (1 + q)) ≤ 16 := (h.kz q0 q1).2
        refine ⟨by rw [e00]; exact w0, w1.c2 fe f0, w2.c2 fe f0, ?_, ?_, ?_⟩
        · rw [hx _ (by omega) (by omega) (by omega) (by omega)]
          intro p p0 p1
          have p1 : p < μ 4 0 := p1
          rw [e0 (1 + p) (by omega) (by omega)]
          exact w3 p p0 p1
        · rw [e00, hx _ (by omega) (by omega) (by omega) (by omega), hx _ (by omega) (by omega) (by omega) (by omega)]
          intro d d0 d1
          rw [e0 (6 + d) (by omega) (by omega), e0 (22 + d) (by omega) (by omega)]
          exact w4 d d0 d1
        · obtain ⟨c, c0, c1, c2⟩ := w5
          refine ⟨c, c0, c1, ?_⟩
          rw [f0 0 (by omega) (by omega), m_Z.c2 w2 h5 fe f0 c (Int.le_refl _)]
          exact c2
end
