/-! what the relation says of chances, orders, worths, told looks -/
section
variable {μ ξ : m_S} {B P : Nat} {g : Int → Option Nat}
theorem z_R.s15 (h : z_R μ ξ B P g) (f : Int → Int) : z_R μ (m_u ξ 15 f) B P g := h.c (fun _ _ => rfl) (fun k _ _ _ h15 _ _ => m_un h15)
theorem z_R.s16 (h : z_R μ ξ B P g) (f : Int → Int) : z_R μ (m_u ξ 16 f) B P g := h.c (fun _ _ => rfl) (fun k _ _ _ _ h16 _ => m_un h16)
theorem z_R.s17 (h : z_R μ ξ B P g) (f : Int → Int) : z_R μ (m_u ξ 17 f) B P g := h.c (fun _ _ => rfl) (fun k _ _ _ _ _ h17 => m_un h17)
theorem z_R.mm (h : z_R μ ξ B P g) {k : Nat} (hk : 15 < k) (f : Int → Int) : z_R (m_u μ k f) ξ B P g := h.c (fun j hj => m_un (by omega)) (fun _ _ _ _ _ _ _ => rfl)
theorem z_R.fct (h : z_R μ ξ B P g) {p : Int} (h0 : 0 ≤ p) (h1 : p < μ 4 0) (t : Int) : x_fct ξ p t = m_told μ p t := by
  have hp := h.p h0 h1
  unfold x_fct m_told
  rw [hp.1, hp.2.1, h.inn h0 h1, h.n.2.2.2.2]
  have e : z_sum (fun d => if ξ 12 d = p then 1 else 0) (μ 0 0) = z_sum (fun d => if μ 0 (6 + d) = p then 1 else 0) (μ 0 0) := z_sum_c (fun d g0 g1 => by
    (try dsimp only)
    rw [(h.d g0 g1).1]
    unfold z_nn
    (repeat' split) <;> first | rfl | (exfalso; omega))
  rw [e]
  rfl
theorem z_R.am (h : z_R μ ξ B P g) : z_am (ξ 14) (ξ 8 2) = z_am (μ 6) (μ 3 0) := by
  rw [h.n.2.2.2.1]
  exact z_am_c (fun j h0 h1 => h.w h0 h1)
theorem z_R.ac (h : z_R μ ξ B P g) (hS : 0 < μ 3 0) : z_sum (fun c => if ξ 14 c = ξ 14 (z_am (ξ 14) (ξ 8 2)) then 1 else 0) (ξ 8 2) = z_ac (μ 6) (μ 3 0) := by
  have hr := z_am_r (μ 6) hS
  rw [h.am, z_ac_e, h.w hr.1 hr.2, h.n.2.2.2.1]
  exact z_sum_c (fun j h0 h1 => by
    (try dsimp only)
    rw [h.w h0 h1])
theorem z_R.wa (h : z_R μ ξ B P g) (v n : Int) : x_wa ξ v n = m_wa μ v n := by
  unfold x_wa m_wa
  rw [h.n.2.1, h.n.2.2.1, h.n.2.2.2.1]
  exact z_sum_c (fun j h0 h1 => by
    (try dsimp only)
    rw [h.w h0 h1])
theorem z_fk_c {f f' : Int → Int} {S : Int} : ∀ (k : Nat) (j : Int), 0 ≤ j → j < S → (∀ i, 0 ≤ i → i < S → f i = f' i) → z_fk f S k j = z_fk f' S k j
  | 0, j, _, _, _ => rfl
  | k + 1, j, h0, h1, h => by
    show (if j + 1 < S ∧ f j = 0 then z_fk f S k (j + 1) else j) = (if j + 1 < S ∧ f' j = 0 then z_fk f' S k (j + 1) else j)
    rw [h j h0 h1]
    by_cases e : j + 1 < S ∧ f' j = 0
    · rw [if_pos e, if_pos e]
      exact z_fk_c k (j + 1) (by omega) e.1 h
    · rw [if_neg e, if_neg e]
theorem z_fa_c {f f' : Int → Int} {S : Int} (hS : 0 < S) (h : ∀ i, 0 ≤ i → i < S → f i = f' i) : z_fa f S = z_fa f' S := z_fk_c S.toNat 0 (Int.le_refl 0) hS h
theorem z_R.cn (h : z_R μ ξ B P g) (hS : 0 < μ 3 0) (v : Int) : x_cn ξ v = z_nt (μ 1 0) (μ 2 0) (z_fa (μ 6) (μ 3 0)) v := by
  unfold x_cn
  rw [h.n.2.1, h.n.2.2.1, h.n.2.2.2.1, z_fa_c hS (fun i h0 h1 => h.w h0 h1)]
theorem z_R.sure (h : z_R μ ξ B P g) (hS : 0 < μ 3 0) {v : Int} (h0 : 0 ≤ v) (h1 : v < μ 1 0) : m_sure μ v = if x_wa ξ v (x_cn ξ v) = z_sum (ξ 14) (ξ 8 2) then x_cn ξ v else 9 := by
  rw [h.wa, h.cn hS, h.sum]
  exact z_cert (f := μ 6) (nt := fun c => z_nt (μ 1 0) (μ 2 0) c v) (N := μ 2 0) hS (fun c c0 c1 => (h.mV.2 c c0 c1).1) (h.pos hS) (fun c c0 c1 => z_nt_in (h.mG (by omega)).WN c0 h0 h1) rfl
theorem z_R.so (h : z_R μ ξ B P g) {j : Int} (h0 : 0 ≤ j) (h1 : j < z_pos (μ 6) (μ 3 0)) : x_so ξ j = m_so μ j := by
  unfold x_so m_so
  rw [h.n.2.2.2.1]
  exact z_lo_c _ _ h.mV.1.1 (fun i g0 g1 => h.w g0 g1) h0 (by rw [z_pos_c (fun i g0 g1 => h.w g0 g1)]; exact h1)
theorem z_R.wso (h : z_R μ ξ B P g) {j : Int} (h0 : 0 ≤ j) (h1 : j < z_pos (μ 6) (μ 3 0)) : ξ 14 (x_so ξ j) = μ 6 (m_so μ j) := by
  have hr := m_so_r h.mV h0 h1
  rw [h.so h0 h1, h.w hr.1 hr.2]
theorem z_R.tsum (h : z_R μ ξ B P g) : z_sum (fun j => (j + 1) * ξ 14 (x_so ξ j)) (z_pos (ξ 14) (ξ 8 2)) = m_tsum μ (z_pos (μ 6) (μ 3 0)) := by
  rw [h.zpos]
  unfold m_tsum
  exact z_sum_c (fun j h0 h1 => by
    (try dsimp only)
    rw [h.wso h0 h1])
theorem z_min_e (a b : Int) : z_min a b = z_min b a := by
  unfold z_min
  (repeat' split) <;> omega
theorem z_R.wsum (h : z_R μ ξ B P g) (n : Int) : z_sum (fun j => ξ 14 (x_so ξ j)) (z_min n (z_pos (ξ 14) (ξ 8 2))) = m_wsum μ (m_many μ n) := by
  rw [h.zpos, z_min_e]
  unfold m_wsum m_many
  exact z_sum_c (fun j h0 h1 => by
    have h1' : j < z_min (z_pos (μ 6) (μ 3 0)) n := h1
    have hm : z_min (z_pos (μ 6) (μ 3 0)) n ≤ z_pos (μ 6) (μ 3 0) := by unfold z_min; split <;> omega
    (try dsimp only)
    rw [h.wso h0 (by omega)])
theorem z_R.F (h : z_R μ ξ B P g) {p : Int} (h0 : 0 ≤ p) (h1 : p < μ 4 0) {c : Int} (c0 : 0 ≤ c) (c1 : c < μ 3 0) (s : Int) : x_F ξ p c s = μ 6 c * m_ways μ p c s := by
  unfold x_F
  rw [h.pw h0 h1, h.w c0 c1]
theorem z_R.gv1 (h : z_R μ ξ B P g) {p : Int} (h0 : 0 ≤ p) (h1 : p < μ 4 0) (s : Int) : x_gv ξ p 1 s (ξ 8 2) = m_sb μ p s := by
  unfold x_gv m_sb
  rw [if_pos rfl, h.n.2.2.2.1]
  exact z_sum_c (fun c c0 c1 => h.F h0 h1 c0 c1 s)
theorem z_R.gv0 (h : z_R μ ξ B P g) {p : Int} (h0 : 0 ≤ p) (h1 : p < μ 4 0) (s : Int) : x_gv ξ p 0 s (ξ 8 2) = m_mx μ p s (μ 3 0) := by
  unfold x_gv m_mx
  rw [if_neg (by decide), h.n.2.2.2.1]
  exact z_max_c (fun c c0 c1 => h.F h0 h1 c0 c1 s)
theorem z_R.wo (h : z_R μ ξ B P g) {p : Int} (h0 : 0 ≤ p) (h1 : p < μ 4 0) : x_wo ξ p = m_wo μ p := by
  unfold x_wo m_wo
  have e : z_sum (fun s => x_gv ξ p 0 s (ξ 8 2)) (ξ 8 2) = z_sum (fun s => m_mx μ p s (μ 3 0)) (ξ 8 2) := z_sum_c (fun s _ _ => h.gv0 h0 h1 s)
  rw [e, h.n.2.2.2.1]
theorem z_R.wsf (h : z_R μ ξ B P g) {p : Int} (h0 : 0 ≤ p) (h1 : p < μ 4 0) : x_wsf ξ (ξ 7 0) p = m_wo μ p := by
  unfold x_wsf
  rw [if_pos (by have := h.n.1; omega), h.wo h0 h1]
theorem z_R.most (h : z_R μ ξ B P g) (h1 : 1 ≤ μ 4 0) : z_most (x_wsf ξ (ξ 7 0)) (ξ 1004) (ξ 7 0 - 1) = z_most (m_wo μ) (m_inall μ) (μ 4 0 - 1) := by
  rw [show ξ 7 0 - 1 = μ 4 0 - 1 by have := h.n.1; omega]
  exact z_most_c (fun j g0 g1 => ⟨h.wsf g0 (by omega), h.inn g0 (by omega)⟩) (by omega)
theorem z_R.least (h : z_R μ ξ B P g) (h1 : 1 ≤ μ 4 0) : z_least (x_wsf ξ (ξ 7 0)) (ξ 1004) (ξ 7 0 - 1) = z_least (m_wo μ) (m_inall μ) (μ 4 0 - 1) := by
  rw [show ξ 7 0 - 1 = μ 4 0 - 1 by have := h.n.1; omega]
  exact z_least_c (fun j g0 g1 => ⟨h.wsf g0 (by omega), h.inn g0 (by omega)⟩) (by omega)
theorem z_R.sbp (h : z_R μ ξ B P g) {p : Int} (h0 : 0 ≤ p) (h1 : p < μ 4 0) : ∃ s : Int, 0 ≤ s ∧ s < μ 3 0 ∧ 0 < m_sb μ p s := by
  have hG := h.mG (by omega)
  have hS := hG.S
  obtain ⟨c, c0, c1, c2⟩ := h.pos (by omega)
  have hsum := m_wy_sum hG h0 h1 c0
  have hin := m_in_r hG h0 h1
  obtain ⟨s, s0, s1, s2⟩ := (z_sum_pos (f := m_wy μ p c) (n := μ 3 0) (fun j _ _ => (z_ways_r _ _ hG.1).1)).mp (by rw [hsum]; omega)
  refine ⟨s, s0, s1, (z_sum_pos (fun j j0 j1 => (m_ww_r hG h.mV p s j0 j1).1)).mpr ⟨c, c0, c1, Int.mul_pos c2 s2⟩⟩
theorem z_R.gcs (h : z_R μ ξ B P g) {p : Int} (h0 : 0 ≤ p) (h1 : p < μ 4 0) {s : Int} (s0 : 0 ≤ s) (s1 : s < μ 3 0) : x_gc ξ p 1 (ξ 8 2) s = m_sb μ p s := by
  unfold x_gc
  rw [if_pos (by have := h.n.2.2.2.1; omega), h.gv1 h0 h1]
theorem z_R.sgt (h : z_R μ ξ B P g) {p : Int} (h0 : 0 ≤ p) (h1 : p < μ 4 0) (a : Int) : z_am (x_gc ξ p 1 (ξ 8 2)) (ξ 8 2) = z_ag (m_sb μ p) a (μ 3 0) := by
  have hG := h.mG (by omega)
  rw [z_ag_e a (fun j _ _ => (m_sb_r hG h.mV p j).1) (h.sbp h0 h1), ← z_am_c (fun j j0 j1 => h.gcs h0 h1 j0 j1), h.n.2.2.2.1]
theorem z_R.sgn (h : z_R μ ξ B P g) {p : Int} (h0 : 0 ≤ p) (h1 : p < μ 4 0) : z_pos (x_gc ξ p 1 (ξ 8 2)) (ξ 8 2) = z_sum (fun s => if 0 < m_sb μ p s then 1 else 0) (μ 3 0) := by
  have e : z_pos (x_gc ξ p 1 (ξ 8 2)) (μ 3 0) = z_pos (m_sb μ p) (μ 3 0) := z_pos_c (fun j j0 j1 => h.gcs h0 h1 j0 j1)
  rw [show z_pos (x_gc ξ p 1 (ξ 8 2)) (ξ 8 2) = z_pos (x_gc ξ p 1 (ξ 8 2)) (μ 3 0) from congrArg _ h.n.2.2.2.1, e]
  rfl
theorem z_R.wfe (h : z_R μ ξ B P g) (c s : Int) {p : Int} (h0 : 0 ≤ p) (h1 : p < μ 4 0) : x_wf ξ c s p = m_wf μ c s p := h.pw h0 h1 c s
theorem z_R.whob (h : z_R μ ξ B P g) (c s : Int) : z_bits (fun p => if 0 < x_wf ξ c s p then 0 else 9) (ξ 7 0) = z_bits (fun p => if 0 < m_wf μ c s p then 0 else 9) (μ 4 0) := by
  rw [h.n.1]
  exact z_bits_c (fun p h0 h1 => by
    (try dsimp only)
    rw [h.wfe c s h0 h1])
theorem z_R.whoe (h : z_R μ ξ B P g) (c s : Int) : z_who (x_wf ξ c s) (ξ 1004) (ξ 7 0) = z_who (m_wf μ c s) (m_inall μ) (μ 4 0) := by
  rw [h.n.1]
  exact z_who_c (fun p h0 h1 => ⟨h.wfe c s h0 h1, h.inn h0 h1⟩)
theorem z_R.anye (h : z_R μ ξ B P g) : z_sum (fun p => if ξ 1000 p = 2 ∨ ξ 1000 p = 5 then 1 else 0) (ξ 7 0) = z_sum (fun p => if μ 5 p = 2 ∨ μ 5 p = 5 then 1 else 0) (μ 4 0) := by
  rw [h.n.1]
  exact z_sum_c (fun p h0 h1 => by
    (try dsimp only)
    rw [(h.p h0 h1).1])
theorem z_R.c7 (h : z_R μ ξ B P g) : z_sum (fun (k : Int) => if ξ (32 + 2 * k.toNat) 1 < 0 then 0 else 1) 6 = m_cnt μ 7 := by
  show _ = z_sum (fun k => if μ 7 k < 0 then 0 else 1) 6
  exact z_sum_c (fun k h0 h1 => by
    (try dsimp only)
    rw [(h.rz h0 h1).2])
theorem z_R.c8 (h : z_R μ ξ B P g) : z_sum (fun (k : Int) => if ξ (44 + 2 * k.toNat) 1 < 0 then 0 else 1) 4 = m_cnt μ 8 := by
  have e : m_cnt μ 8 = z_sum (fun k => if k < 4 ∧ 0 ≤ μ 9 k then 1 else 0) 4 := by
    show z_s (fun k => if k < 4 ∧ 0 ≤ μ 9 k then 1 else 0) 4 + (if ((4 : Nat) : Int) < 4 ∧ 0 ≤ μ 9 ((4 : Nat) : Int) then 1 else 0) + (if ((5 : Nat) : Int) < 4 ∧ 0 ≤ μ 9 ((5 : Nat) : Int) then 1 else 0) = z_s (fun k => if k < 4 ∧ 0 ≤ μ 9 k then 1 else 0) 4
    rw [if_neg (by omega), if_neg (by omega), Int.add_zero, Int.add_zero]
  rw [e]
  exact z_sum_c (fun k h0 h1 => by
    have hz := h.tz h0 h1
    (try dsimp only)
    rw [hz.2]
    (repeat' split) <;> first | rfl | (exfalso; omega))
theorem z_R.c9 (h : z_R μ ξ B P g) : z_sum (fun (k : Int) => if ξ (52 + 4 * k.toNat) 0 < 0 then 0 else 1) 3 = m_cnt μ 9 := by
  have e : m_cnt μ 9 = z_sum (fun k => if k < 3 ∧ 0 ≤ μ 0 (38 * (1 + k)) then 1 else 0) 3 := by
    show z_s (fun k => if k < 3 ∧ 0 ≤ μ 0 (38 * (1 + k)) then 1 else 0) 3 + (if ((3 : Nat) : Int) < 3 ∧ 0 ≤ μ 0 (38 * (1 + ((3 : Nat) : Int))) then 1 else 0) + (if ((4 : Nat) : Int) < 3 ∧ 0 ≤ μ 0 (38 * (1 + ((4 : Nat) : Int))) then 1 else 0) + (if ((5 : Nat) : Int) < 3 ∧ 0 ≤ μ 0 (38 * (1 + ((5 : Nat) : Int))) then 1 else 0) = z_s (fun k => if k < 3 ∧ 0 ≤ μ 0 (38 * (1 + k)) then 1 else 0) 3
    rw [if_neg (by omega), if_neg (by omega), if_neg (by omega), Int.add_zero, Int.add_zero, Int.add_zero]
  rw [e]
  exact z_sum_c (fun k h0 h1 => by
    have hz := h.k h0 h1
    (try dsimp only)
    rw [hz]
    (repeat' split) <;> first | rfl | (exfalso; omega))
theorem z_R.cr (h : z_R μ ξ B P g) {t : Int} (h0 : 0 ≤ t) (h1 : t ≤ 9) : 0 ≤ m_cnt μ t ∧ m_cnt μ t ≤ 216 := by
  have hb := h.Sh.b
  have hd := h.De.1
  have h4 := z_pos_r (μ 6) (n := μ 3 0) (by omega)
  have h6 := z_ind_r (fun p => μ 5 p = 2 ∨ μ 5 p = 5) (n := μ 4 0) (by omega)
  rcases (show t = 0 ∨ t = 1 ∨ t = 2 ∨ t = 3 ∨ t = 4 ∨ t = 5 ∨ t = 6 ∨ t = 7 ∨ t = 8 ∨ t = 9 by omega) with rfl | rfl | rfl | rfl | rfl | rfl | rfl | rfl | rfl | rfl
  · show 0 ≤ μ 4 0 ∧ μ 4 0 ≤ 216; omega
  · show 0 ≤ μ 1 0 ∧ μ 1 0 ≤ 216; omega
  · show 0 ≤ μ 2 0 ∧ μ 2 0 ≤ 216; omega
  · show 0 ≤ μ 3 0 ∧ μ 3 0 ≤ 216; omega
  · show 0 ≤ z_pos (μ 6) (μ 3 0) ∧ z_pos (μ 6) (μ 3 0) ≤ 216; omega
  · show 0 ≤ μ 0 0 ∧ μ 0 0 ≤ 216; omega
  · show 0 ≤ z_sum (fun p => if μ 5 p = 2 ∨ μ 5 p = 5 then 1 else 0) (μ 4 0) ∧ z_sum (fun p => if μ 5 p = 2 ∨ μ 5 p = 5 then 1 else 0) (μ 4 0) ≤ 216; omega
  · rw [← h.c7]
    have := z_ind_r (fun (k : Int) => ¬ ξ (32 + 2 * k.toNat) 1 < 0) (n := 6) (by decide)
    have e : z_sum (fun (k : Int) => if ξ (32 + 2 * k.toNat) 1 < 0 then 0 else 1) 6 = z_sum (fun (k : Int) => if ¬ ξ (32 + 2 * k.toNat) 1 < 0 then 1 else 0) 6 := z_sum_c (fun k _ _ => by (try dsimp only); (repeat' split) <;> first | rfl | (exfalso; omega))
    omega
  · rw [← h.c8]
    have := z_ind_r (fun (k : Int) => ¬ ξ (44 + 2 * k.toNat) 1 < 0) (n := 4) (by decide)
    have e : z_sum (fun (k : Int) => if ξ (44 + 2 * k.toNat) 1 < 0 then 0 else 1) 4 = z_sum (fun (k : Int) => if ¬ ξ (44 + 2 * k.toNat) 1 < 0 then 1 else 0) 4 := z_sum_c (fun k _ _ => by (try dsimp only); (repeat' split) <;> first | rfl | (exfalso; omega))
    omega
  · rw [← h.c9]
    have := z_ind_r (fun (k : Int) => ¬ ξ (52 + 4 * k.toNat) 0 < 0) (n := 3) (by decide)
    have e : z_sum (fun (k : Int) => if ξ (52 + 4 * k.toNat) 0 < 0 then 0 else 1) 3 = z_sum (fun (k : Int) => if ¬ ξ (52 + 4 * k.toNat) 0 < 0 then 1 else 0) 3 := z_sum_c (fun k _ _ => by (try dsimp only); (repeat' split) <;> first | rfl | (exfalso; omega))
    omega
end
