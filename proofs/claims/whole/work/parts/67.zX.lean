/-! going on from a kept shed, lots: the relation is kept -/
theorem z_Rs.xD {μ ξ : m_S} {B P : Nat} {g : Int → Option Nat} (h : z_Rs μ ξ B P g) : x_De ξ := by
  have hn := h.1
  have hD := h.2.2.2.2.1
  unfold x_De
  rw [hn.2.2.2.2, hn.1, hn.2.2.2.1]
  refine ⟨hD.1, fun d h0 h1 => ?_⟩
  have hd := h.2.2.1 d h0 h1
  have hm := hD.2 d h0 h1
  rw [hd.1, hd.2]
  unfold z_nn
  refine ⟨?_, hm.2⟩
  split <;> omega
section
variable {μ ξ : m_S} {B P : Nat} {g : Int → Option Nat}
theorem z_R.kp (h : z_R μ ξ B P g) {k : Int} (h0 : 0 ≤ k) (h1 : k < 3) (hk : 0 ≤ μ 0 (38 * (1 + k))) : z_Kp μ ξ k := by
  rcases (h.2.2.2.2 k h0 h1).2 with q | q
  · omega
  · exact q
theorem z_R.tf11 (h : z_R μ ξ B P g) {k : Int} (h0 : 0 ≤ k) (h1 : k < 3) (hk : 0 ≤ μ 0 (38 * (1 + k))) {p : Int} (p0 : 0 ≤ p) (p1 : p < μ 4 0) : x_tf ξ 10 (52 + 4 * k.toNat) 11 p = μ 0 (38 * (1 + k) + (1 + p)) := by
  have hK := h.kp h0 h1 hk
  have hb := h.Sh.b
  rw [← hK.2.2.2.1 p p0 p1]
  show q_cpy (ξ (52 + 4 * k.toNat + 1)) (ξ 11) 0 0 5 p = _
  rw [q_cpy_i _ _ (by omega) (by omega), show 0 + (p - 0) = p by omega]
theorem z_R.on0 (h : z_R μ ξ B P g) {k : Int} (h0 : 0 ≤ k) (h1 : k < 3) (hk : 0 ≤ μ 0 (38 * (1 + k))) : z_Rs (m_u μ 0 (m_onr μ k)) (x_gs (x_tf ξ 10 (52 + 4 * k.toNat)) (ξ 7 0)) B P g := by
  have hK := h.kp h0 h1 hk
  have hn := h.n
  have hb := h.Sh.b
  have hG := h.mG (by have := hK.2.1.2.2.2.1; have e : m_kp μ k 4 0 = μ 4 0 := rfl; omega)
  have h16 : μ 0 (38 * (1 + k)) ≤ 16 := (h.kz h0 h1).2
  have hps := h.Ps
  have ef : ∀ p : Int, 0 ≤ p → p < μ 4 0 → (0 ≤ x_tf ξ 10 (52 + 4 * k.toNat) 1000 p ∧ x_tf ξ 10 (52 + 4 * k.toNat) 1000 p ≤ 5) ∧ 1 ≤ x_tf ξ 10 (52 + 4 * k.toNat) 11 p ∧ x_tf ξ 10 (52 + 4 * k.toNat) 11 p ≤ 3 := fun p p0 p1 => by
    rw [h.tf11 h0 h1 hk p0 p1, x_tf_k (by omega)]
    exact ⟨(h.Ts p p0 (by omega)).1, (hK.2.1.2.2.2.2 p p0 p1).2.2⟩
  have eg : ∀ j : Nat, j < 20 ∨ j = 25 ∨ (30 < j ∧ j < 1003) ∨ 1005 < j → j ≠ 11 → x_gs (x_tf ξ 10 (52 + 4 * k.toNat)) (ξ 7 0) j = x_tf ξ 10 (52 + 4 * k.toNat) j := fun j hj h11 => x_gk_k hj h11 _ (by omega)
  have et : ∀ j : Nat, j ≠ 10 → j ≠ 11 → j ≠ 12 → j ≠ 13 → x_tf ξ 10 (52 + 4 * k.toNat) j = ξ j := fun j a b c d => x_tf_k ⟨a, b, c, d⟩
  have e7 : x_gs (x_tf ξ 10 (52 + 4 * k.toNat)) (ξ 7 0) 7 = ξ 7 := (eg 7 (by omega) (by omega)).trans (et 7 (by omega) (by omega) (by omega) (by omega))
  have e8 : x_gs (x_tf ξ 10 (52 + 4 * k.toNat)) (ξ 7 0) 8 = ξ 8 := (eg 8 (by omega) (by omega)).trans (et 8 (by omega) (by omega) (by omega) (by omega))
  have hPt := x_gk_Pt (ξ := x_tf ξ 10 (52 + 4 * k.toNat)) (by rw [et 8 (by omega) (by omega) (by omega) (by omega)]; omega) (ξ 7 0).toNat (by omega) (fun p p0 p1 => ef p p0 (by omega))
  have hm : ∀ j : Int, 0 ≤ j → j < 38 → m_u μ 0 (m_onr μ k) 0 j = μ 0 (38 * (1 + k) + j) := fun j j0 j1 => m_onr_i μ k j0 j1
  have hm0 : m_u μ 0 (m_onr μ k) 0 0 = μ 0 (38 * (1 + k)) := by
    rw [hm 0 (by omega) (by omega), Int.add_zero]
  refine ⟨?_, ?_, ?_, Or.inr (m_on_G hK.2.1), m_on_D hK.2.2.1, ?_, ?_, ?_⟩
  · rw [e7, e8, eg 10 (by omega) (by omega), hm0]
    refine ⟨hn.1, hn.2.1, hn.2.2.1, hn.2.2.2.1, ?_⟩
    show q_us (ξ 10) 0 (ξ (52 + 4 * k.toNat) 0) 0 = _
    rw [q_us_s]
    exact h.k h0 h1
  · intro p p0 p1
    have p1 : p < μ 4 0 := p1
    rw [hm (1 + p) (by omega) (by omega), eg 1000 (by omega) (by omega), et 1000 (by omega) (by omega) (by omega) (by omega)]
    have hp := hPt p p0 (by omega)
    have e1005 : x_gs (x_tf ξ 10 (52 + 4 * k.toNat)) (ξ 7 0) 1005 p = x_tf ξ 10 (52 + 4 * k.toNat) 11 p := hp.2
    have e11 : x_gs (x_tf ξ 10 (52 + 4 * k.toNat)) (ξ 7 0) 11 = x_tf ξ 10 (52 + 4 * k.toNat) 11 := x_gk_11 _
    rw [e1005, e11, h.tf11 h0 h1 hk p0 p1]
    exact ⟨(h.p p0 p1).1, rfl, rfl⟩
  · intro d d0 d1
    rw [hm0] at d1
    rw [hm (6 + d) (by omega) (by omega), hm (22 + d) (by omega) (by omega), eg 12 (by omega) (by omega), eg 13 (by omega) (by omega)]
    have hd := hK.2.2.2.2.1 d d0 d1
    show q_cpy (ξ (52 + 4 * k.toNat + 2)) (ξ 12) 0 0 16 d = _ ∧ q_cpy (ξ (52 + 4 * k.toNat + 3)) (ξ 13) 0 0 16 d = _
    rw [q_cpy_i _ _ (by omega) (by omega), q_cpy_i _ _ (by omega) (by omega), show 0 + (d - 0) = d by omega]
    exact hd
  · unfold x_Ps
    rw [e7]
    exact hps
  · rw [e7]
    intro p p0 p1
    exact (hPt p p0 (by omega)).1
  · intro _
    refine x_gk_G ?_ _
    have hP := hG.2.2.2.1
    exact (h.G (by omega)).c (et 8 (by omega) (by omega) (by omega) (by omega)) (et 9 (by omega) (by omega) (by omega) (by omega))
theorem z_R.on (h : z_R μ ξ B P g) {k : Int} (h0 : 0 ≤ k) (h1 : k < 3) (hk : 0 ≤ μ 0 (38 * (1 + k))) : z_R (m_lw (m_u μ 0 (m_onr μ k))) (x_wg (x_gs (x_tf ξ 10 (52 + 4 * k.toNat)) (ξ 7 0))) B P g := by
  have hK := h.kp h0 h1 hk
  have hb := h.Sh.b
  have hn := h.n
  have es : ∀ j : Nat, ¬ (10 ≤ j ∧ j ≤ 14) → (j < 20 ∨ (30 < j ∧ j < 1003)) → x_wg (x_gs (x_tf ξ 10 (52 + 4 * k.toNat)) (ξ 7 0)) j = ξ j := fun j a b => by
    unfold x_wg
    rw [m_un (by omega)]
    exact (x_gk_k (by omega) (by omega) _ (by omega)).trans (x_tf_k (by omega))
  have em : ∀ j : Nat, j ≠ 0 → j ≠ 6 → m_lw (m_u μ 0 (m_onr μ k)) j = μ j := fun j a b => by
    unfold m_lw
    rw [m_un b, m_un a]
  refine h.rd ((h.on0 h0 h1 hk).lw (fun _ => ?_)) (h.2.2.2.2.c2 (fun j g0 g1 => em j (by omega) (by omega)) (fun j g0 g1 => ?_) (fun j g0 g1 => es j (by omega) (by omega))) (fun j g0 g1 => em j (by omega) (by omega)) (fun j hj => es j (by omega) (by omega))
  · obtain ⟨c, c0, c1, c2⟩ := hK.2.2.2.2.2
    refine ⟨c, c0, c1, ?_⟩
    have f0 : ∀ j : Int, 0 ≤ j → j < 38 → m_u μ 0 (m_onr μ k) 0 j = m_kp μ k 0 j := fun j j0 j1 => m_onr_i μ k j0 j1
    have fe : ∀ j, 1 ≤ j → j ≤ 5 → m_u μ 0 (m_onr μ k) j = m_kp μ k j := fun j j0 _ => by
      unfold m_kp
      rw [m_un (by omega), m_un (by omega)]
    rw [f0 0 (by omega) (by omega), m_Z.c2 hK.2.2.1 hK.2.1.2.2.2.1.2 fe f0 c (Int.le_refl _)]
    exact c2
  · show q_cpy (μ 0) (μ 0) (38 * (1 + k)) 0 38 j = μ 0 j
    exact q_cpy_o _ _ (by omega)
end
/-! lots -/
theorem z_bk_pos (g : Int → Int) (S : Int) : ∀ (k : Nat) (l s : Int), S - s = k → 0 ≤ s → 0 ≤ l → l + z_sum g s < z_sum g S → 0 < g (z_bk g k l s)
  | 0, l, s, hk, h0, hl, h => by
    have e : s = S := by omega
    rw [e] at h
    omega
  | k + 1, l, s, hk, h0, hl, h => by
    show 0 < g (if g s ≤ l then z_bk g k (l - g s) (s + 1) else s)
    by_cases e : g s ≤ l
    · rw [if_pos e]
      refine z_bk_pos g S k (l - g s) (s + 1) (by omega) (by omega) (by omega) ?_
      rw [z_sum_s g h0]
      omega
    · rw [if_neg e]
      omega
theorem z_bt_pos {g : Int → Int} {S l : Int} (hS : 0 ≤ S) (hl : 0 ≤ l) (h : l < z_sum g S) : 0 < g (z_bt g S l) := z_bk_pos g S S.toNat l 0 (by omega) (by omega) hl (by rw [z_sum_0]; omega)
theorem x_lk_d (ξ : m_S) (x c : Int) : ∀ (k : Nat) (d : Int), 0 ≤ d → d < k → x_lk ξ x c k 12 d = xl_p ξ x d ∧ x_lk ξ x c k 13 d = xl_v ξ x c d
  | 0, d, h0, h1 => by omega
  | k + 1, d, h0, h1 => by
    show q_us (x_lk ξ x c k 12) (x_lk ξ x c k 10 0) (xl_p ξ x k) d = xl_p ξ x d ∧ q_us (x_lk ξ x c k 13) (x_lk ξ x c k 10 0) (xl_v ξ x c k) d = xl_v ξ x c d
    rw [x_lk_10]
    by_cases e : d = k
    · rw [e, q_us_s, q_us_s]
      exact ⟨rfl, rfl⟩
    · rw [q_us_n e, q_us_n e]
      exact x_lk_d ξ x c k d h0 (by omega)
theorem x_lk_w {ξ : m_S} (h1 : 1 ≤ ξ 7 0) {x : Int} (hx : 0 ≤ x ∧ x < 2147483647) (c : Int) : ∀ (k : Nat) (j : Int), 0 ≤ j → j < ξ 8 2 → x_lk ξ x c k 14 j = z_wt (ξ 1000) (ξ 1005) (ξ 8 0) (ξ 8 1) (xl_p ξ x) (xl_v ξ x c) j k
  | 0, j, j0, j1 => by
    show x_wgf (m_u ξ 10 (q_us (ξ 10) 0 0)) 0 j = _
    unfold x_wgf
    rw [if_pos ⟨j0, j1⟩]
    rfl
  | k + 1, j, j0, j1 => by
    have ih := x_lk_w h1 hx c k j j0 j1
    have hp : 0 ≤ xl_p ξ x k := Int.tmod_nonneg _ (Int.tdiv_nonneg (z_nx_r (z_it_r hx k).1).1 (by decide))
    show x_wlf (x_lk ξ x c k 14) (x_lk ξ x c k) (xl_p ξ x k) (xl_v ξ x c k) (x_lk ξ x c k 8 2) j = z_wt (ξ 1000) (ξ 1005) (ξ 8 0) (ξ 8 1) (xl_p ξ x) (xl_v ξ x c) j ((k : Int) + 1)
    rw [z_wt_s _ _ _ _ _ _ _ (by omega)]
    unfold x_wlf
    rw [x_lk_k ξ x c (j := 8) (by omega) k, x_lk_k ξ x c (j := 1000) (by omega) k, x_lk_k ξ x c (j := 1005) (by omega) k, if_pos ⟨j0, j1⟩, ih]
    unfold z_w1
    rw [if_neg (show ¬ xl_p ξ x k < 0 by omega)]
section
variable {μ ξ : m_S} {B P : Nat} {g : Int → Option Nat}
theorem z_R.lp (h : z_R μ ξ B P g) (x k : Int) : xl_p ξ x k = m_lw_p μ x k := by
  unfold xl_p m_lw_p
  rw [h.n.1]
theorem z_R.lv (h : z_R μ ξ B P g) (h1 : 1 ≤ μ 4 0) {x : Int} (hx : 0 ≤ x ∧ x < 2147483647) (c k : Int) : xl_v ξ x c k = m_lw_v μ x c k := by
  have hp := m_lw_pr h1 hx k
  have ew : x_wy ξ (xl_p ξ x k) c = m_wy μ (m_lw_p μ x k) c := by
    funext s
    rw [h.lp]
    exact h.pw hp.1 hp.2 c s
  unfold xl_v m_lw_v xl_w m_lw_w
  rw [ew, h.n.2.2.2.1, h.lp, h.inn hp.1 hp.2]
  rfl
theorem z_R.lots (h : z_R μ ξ B P g) (h1 : 1 ≤ μ 4 0) {n x c : Int} (hn : 1 ≤ n ∧ n ≤ 8) (hx : 0 ≤ x ∧ x < 2147483647) (hc : 0 ≤ c ∧ c < μ 3 0) : z_R (m_lw (m_lts μ n x c)) (x_ls ξ x c n) B P g := by
  have hG := h.mG (by omega)
  have hb := h.Sh.b
  have hps := h.Ps
  have h75 : ξ 7 0 ≤ 5 := by have h1 := hps.2.1; have h2 := hps.2.2.1; omega
  have hnn := h.n
  have hxk : ∀ j : Nat, j ≠ 10 → j ≠ 12 → j ≠ 13 → j ≠ 14 → x_ls ξ x c n j = ξ j := fun j a b d e => x_lk_k ξ x c ⟨a, b, d, e⟩ n.toNat
  have hm0 : m_lts μ n x c 0 0 = n := by
    show m_ltr μ n x c n 0 = n
    unfold m_ltr
    rw [if_pos rfl]
  have hm6 : ∀ d : Int, 0 ≤ d → d < n → m_lts μ n x c 0 (6 + d) = m_lw_p μ x d := fun d d0 d1 => by
    show m_ltr μ n x c n (6 + d) = _
    unfold m_ltr
    rw [if_neg (by omega), if_pos (by omega), show 6 + d - 6 = d by omega]
  have hm22 : ∀ d : Int, 0 ≤ d → d < n → m_lts μ n x c 0 (22 + d) = m_lw_v μ x c d := fun d d0 d1 => by
    show m_ltr μ n x c n (22 + d) = _
    unfold m_ltr
    rw [if_neg (by omega), if_neg (by omega), if_pos (by omega), show 22 + d - 22 = d by omega]
  have hmf : ∀ p : Int, 0 ≤ p → p < 5 → m_lts μ n x c 0 (1 + p) = μ 0 (1 + p) := fun p p0 p1 => m_ltr_f p0 p1 (by omega)
  have hpr : ∀ d : Int, 0 ≤ m_lw_p μ x d ∧ m_lw_p μ x d < μ 4 0 := fun d => m_lw_pr h1 hx d
  have hZ : ∀ j : Int, 0 ≤ j → j < μ 3 0 → x_ls ξ x c n 14 j = m_Z (m_lts μ n x c) j n := fun j j0 j1 => by
    have e := x_lk_w (ξ := ξ) (by omega) hx c n.toNat j j0 (by omega)
    rw [Int.toNat_of_nonneg (by omega)] at e
    show x_lk ξ x c n.toNat 14 j = _
    rw [e, hnn.2.1, hnn.2.2.1]
    unfold m_Z
    refine z_wt_c (fun d d0 d1 => ?_)
    show xl_v ξ x c d = m_lts μ n x c 0 (22 + d) ∧ ((m_lts μ n x c 0 (6 + d) < 0 ∧ xl_p ξ x d < 0) ∨ (0 ≤ m_lts μ n x c 0 (6 + d) ∧ xl_p ξ x d = m_lts μ n x c 0 (6 + d) ∧ ξ 1000 (m_lts μ n x c 0 (6 + d)) = μ 5 (m_lts μ n x c 0 (6 + d)) ∧ ξ 1005 (m_lts μ n x c 0 (6 + d)) = m_lts μ n x c 0 (1 + m_lts μ n x c 0 (6 + d))))
    rw [hm6 d d0 d1, hm22 d d0 d1, h.lv h1 hx, h.lp]
    have hp := hpr d
    have hpp := h.p hp.1 hp.2
    refine ⟨rfl, Or.inr ⟨hp.1, rfl, hpp.1, ?_⟩⟩
    rw [hmf _ hp.1 (by omega)]
    exact hpp.2.1
  have hw6 : ∀ j : Int, 0 ≤ j → j < μ 3 0 → m_lw (m_lts μ n x c) 6 j = m_Z (m_lts μ n x c) j n := fun j j0 j1 => by
    show m_lwf (m_lts μ n x c) (μ 3 0) j = _
    unfold m_lwf
    rw [if_pos ⟨j0, j1⟩, hm0]
  have hpos : ∀ k : Nat, k ≤ n → 0 < m_Z (m_lts μ n x c) c k := fun k => Nat.rec (motive := fun k => (k : Int) ≤ n → 0 < m_Z (m_lts μ n x c) c (k : Int)) (fun _ => by show (0 : Int) < 1; decide) (fun k ih hk => by
    have ih := ih (by omega)
    show 0 < m_Z (m_lts μ n x c) c ((k : Int) + 1)
    rw [m_Z_s _ _ (by omega), hm6 k (by omega) (by omega), hm22 k (by omega) (by omega)]
    have hp := hpr k
    unfold z_w1
    rw [if_neg (show ¬ m_lw_p μ x k < 0 by omega)]
    refine Int.mul_pos ih ?_
    have hw := m_lw_wr hG hx k
    have hs := m_wy_sum hG hp.1 hp.2 hc.1
    have hb2 := z_bt_pos (g := m_wy μ (m_lw_p μ x k) c) (S := μ 3 0) (l := m_lw_w μ x k) (by omega) hw.1 (by rw [hs]; exact hw.2)
    show 0 < z_ways (μ 5 (m_lw_p μ x k)) (m_fl (m_lts μ n x c) (m_lw_p μ x k)) (μ 1 0) (μ 2 0) c (m_lw_v μ x c k)
    have e : m_fl (m_lts μ n x c) (m_lw_p μ x k) = μ 0 (1 + m_lw_p μ x k) := hmf _ hp.1 (by omega)
    rw [e]
    exact hb2) k
  have em : ∀ j : Nat, j ≠ 0 → j ≠ 6 → m_lw (m_lts μ n x c) j = μ j := fun j a b => by
    unfold m_lw m_lts
    rw [m_un b, m_un a]
  refine h.rd (z_Rs.d ⟨?_, ?_, ?_, Or.inr (m_ltr_G hG (fun p p0 p1 => hmf p p0 p1)), m_lts_D hG hn hx hc.1, ?_, ?_, ?_⟩ ?_ ?_) (h.2.2.2.2.c2 (fun j g0 g1 => em j (by omega) (by omega)) (fun j g0 g1 => ?_) (fun j g0 g1 => hxk j (by omega) (by omega) (by omega) (by omega))) (fun j g0 g1 => em j (by omega) (by omega)) (fun j hj => hxk j (by omega) (by omega) (by omega) (by omega))
  · rw [hxk 7 (by omega) (by omega) (by omega) (by omega), hxk 8 (by omega) (by omega) (by omega) (by omega)]
    refine ⟨hnn.1, hnn.2.1, hnn.2.2.1, hnn.2.2.2.1, ?_⟩
    show x_lk ξ x c n.toNat 10 0 = m_lts μ n x c 0 0
    rw [x_lk_10, hm0]
    omega
  · intro p p0 p1
    have p1 : p < μ 4 0 := p1
    rw [hxk 1000 (by omega) (by omega) (by omega) (by omega), hxk 1005 (by omega) (by omega) (by omega) (by omega), hxk 11 (by omega) (by omega) (by omega) (by omega)]
    show ξ 1000 p = μ 5 p ∧ ξ 1005 p = m_lts μ n x c 0 (1 + p) ∧ ξ 11 p = m_lts μ n x c 0 (1 + p)
    rw [hmf p p0 (by omega)]
    exact h.p p0 p1
  · intro d d0 d1
    have d1 : d < m_lts μ n x c 0 0 := d1
    rw [hm0] at d1
    have hd := x_lk_d ξ x c n.toNat d d0 (by omega)
    show x_lk ξ x c n.toNat 12 d = z_nn (m_lts μ n x c 0 (6 + d)) ∧ x_lk ξ x c n.toNat 13 d = m_lts μ n x c 0 (22 + d)
    rw [hd.1, hd.2, hm6 d d0 d1, hm22 d d0 d1, h.lp, h.lv h1 hx]
    have hp := hpr d
    unfold z_nn
    rw [if_neg (by omega)]
    exact ⟨rfl, rfl⟩
  · unfold x_Ps
    rw [hxk 7 (by omega) (by omega) (by omega) (by omega)]
    exact hps
  · rw [hxk 7 (by omega) (by omega) (by omega) (by omega)]
    intro p p0 p1
    exact (h.Ts p p0 p1).c (by omega) (fun j hj => hxk j (by omega) (by omega) (by omega) (by omega))
  · intro _
    exact (h.G (by omega)).c (hxk 8 (by omega) (by omega) (by omega) (by omega)) (hxk 9 (by omega) (by omega) (by omega) (by omega))
  · intro j j0 j1
    have j1 : j < μ 3 0 := j1
    rw [hw6 j j0 j1, hZ j j0 j1]
    refine ⟨rfl, ?_⟩
    show _ = m_Z (m_lts μ n x c) j (m_lts μ n x c 0 0)
    rw [hm0]
  · intro _
    refine ⟨c, hc.1, hc.2, ?_⟩
    rw [hw6 c hc.1 hc.2]
    have := hpos n.toNat (by omega)
    rwa [Int.toNat_of_nonneg (by omega)] at this
  · show m_ltr μ n x c n j = μ 0 j
    unfold m_ltr
    rw [if_neg (by omega), if_neg (by omega), if_neg (by omega)]
end
