/-! the class: lots -/
set_option maxRecDepth 20000 in
theorem tX8_nextLot (w : q_W) (ξ : m_S) (B P : Nat) (g : Int → Option Nat) (x : Int) (hx : 0 ≤ x ∧ x < 2147483647) : q_D mX8_nextLot 0 [q_l x] (x_w w ξ B P g) (some (q_l (z_nx x))) (x_w w ξ B P g) := by
  refine q_T.of (lv := [some (q_l x), none]) (by decide) rfl (Nat.le_of_ble_eq_true rfl) ?_
  refine q_ldc2 48271 wd_947 dX8_nextLot_0 ?_
  refine q_lload_n dX8_nextLot_3 rfl ?_
  refine q_lmul dX8_nextLot_4 ?_
  refine q_ldc2 2147483647 wd_948 dX8_nextLot_5 ?_
  refine q_lrem dX8_nextLot_8 ⟨by omega, by omega⟩ ⟨by decide, by decide⟩ (by omega) (by omega) ?_
  exact q_lret rfl dX8_nextLot_9 (⟨by unfold z_nx; rw [Int.mul_comm], rfl⟩)
set_option maxRecDepth 20000 in
theorem tX8_lotAmong (w : q_W) (ξ : m_S) (B P : Nat) (g : Int → Option Nat) (x n : Int) (hx : 0 ≤ x ∧ x < 2147483647) (hn : 1 ≤ n ∧ n ≤ 216) : q_D mX8_lotAmong 0 [q_l x, q_i n] (x_w w ξ B P g) (some (q_i (x.tmod n))) (x_w w ξ B P g) := by
  refine q_T.of (lv := [some (q_l x), none, some (q_i n)]) (by decide) rfl (Nat.le_of_ble_eq_true rfl) ?_
  refine q_iload_n dX8_lotAmong_0 rfl ?_
  refine q_if_gt (tgt := 8) dX8_lotAmong_1 (by decide) ⟨by omega, by omega⟩ (fun h1 => ?_) (fun h1 => False.elim (by omega))
  refine q_lload_n dX8_lotAmong_8 rfl ?_
  refine q_iload_n dX8_lotAmong_9 rfl ?_
  refine q_i2lr dX8_lotAmong_10 ⟨by omega, by omega⟩ ?_
  refine q_lrem dX8_lotAmong_11 ⟨by omega, by omega⟩ ⟨by omega, by omega⟩ (by omega) (by omega) ?_
  refine q_l2i dX8_lotAmong_12 ?_
  exact q_iret rfl dX8_lotAmong_13 (⟨rfl, rfl⟩)
def x_wy (ξ : m_S) (p c : Int) : Int → Int := fun s => z_ways (ξ 1000 p) (ξ 1005 p) (ξ 8 0) (ξ 8 1) c s
set_option maxRecDepth 20000 in
theorem tX8_sightOf (w : q_W) (ξ : m_S) (B P : Nat) (g : Int → Option Nat) (p c x : Int) (hp0 : 0 ≤ p) (hp1 : p < ξ 7 0) (hPs : x_Ps ξ B P g) (hT : x_Pt ξ p) (hG : x_G ξ) (hc0 : 0 ≤ c) (hc1 : c < ξ 8 2) (hx0 : 0 ≤ x) (hx1 : x < z_sum (x_wy ξ p c) (ξ 8 2)) (hx2 : x ≤ 216) : q_D mX8_sightOf 2 [.ref 7, .ref (B + p.toNat), q_i c, q_i x] (x_w w ξ B P g) (some (q_i (z_bt (x_wy ξ p c) (ξ 8 2) x))) (x_w w ξ B P g) := by
  refine q_T.of (lv := [some (.ref 7), some (.ref (B + p.toNat)), some (q_i c), some (q_i x), none, none]) (by decide) rfl (Nat.le_of_ble_eq_true rfl) ?_
  have hPs1 := hPs.1
  have hPs2 := hPs.2.1
  have hPs3 := hPs.2.2.1
  have hWN := hG.1
  have hW := hG.1.1
  have hN := hG.1.2
  have hS := hG.S
  refine q_iload_n dX8_sightOf_0 rfl ?_
  refine q_istore (lv' := [some (.ref 7), some (.ref (B + p.toNat)), some (q_i c), some (q_i x), some (q_i x), none]) dX8_sightOf_1 (by decide) rfl ?_
  refine q_iconst dX8_sightOf_3 ?_
  refine q_istore (lv' := [some (.ref 7), some (.ref (B + p.toNat)), some (q_i c), some (q_i x), some (q_i x), some (q_i 0)]) dX8_sightOf_4 (by decide) rfl ?_
  have L6 : ∀ (m9 : Nat) (l : Int) (s : Int) (hl0 : 0 ≤ l) (hs0 : 0 ≤ s) (hs2 : s ≤ ξ 8 2) (hl1 : l + z_sum (x_wy ξ p c) s = x) (hbk : z_bk (x_wy ξ p c) (ξ 8 2 - s).toNat l s = z_bt (x_wy ξ p c) (ξ 8 2) x) (hl2 : l ≤ 216) (hm9 : ξ 8 2 - s < (m9 : Int)), q_J mX8_sightOf 2 (fun v' w' => v' = (some (q_i (z_bt (x_wy ξ p c) (ξ 8 2) x))) ∧ w' = (x_w w ξ B P g)) 0 0 6 [some (.ref 7), some (.ref (B + p.toNat)), some (q_i c), some (q_i x), some (q_i l), some (q_i s)] [] (x_w w ξ B P g) := by
    intro m9
    induction m9 with
    | zero => intro l s hl0 hs0 hs2 hl1 hbk hl2 hm9; exact absurd hm9 (by omega)
    | succ m9 ih6 =>
      intro l s hl0 hs0 hs2 hl1 hbk hl2 hm9
      refine q_iload dX8_sightOf_6 rfl ?_
      refine q_aload_n dX8_sightOf_8 rfl ?_
      refine q_get (v := .ref 8) fX8_18_8 rfl rfl dX8_sightOf_9 ?_
      refine q_get (v := q_i (ξ 8 2)) fX8_144_10 rfl rfl dX8_sightOf_12 ?_
      refine q_icmp_ge (tgt := 51) dX8_sightOf_15 (by decide) ⟨by omega, by omega⟩ ⟨by omega, by omega⟩ (fun h15 => False.elim (by rw [show s = ξ 8 2 by omega] at hl1; omega)) (fun h15 => ?_)
      have hwr : 0 ≤ x_wy ξ p c s ∧ x_wy ξ p c s ≤ 4 := z_ways_r c s hW
      refine q_iload dX8_sightOf_18 rfl ?_
      refine q_aload_n dX8_sightOf_20 rfl ?_
      refine q_aload_n dX8_sightOf_21 rfl ?_
      refine q_get (v := .ref 8) fX8_18_8 rfl rfl dX8_sightOf_22 ?_
      refine q_iload_n dX8_sightOf_25 rfl ?_
      refine q_iload dX8_sightOf_26 rfl ?_
      refine q_cV [q_i c, q_i s] kX8_146_10 rfl (tX10_turnBetween w ξ B P g c s (show (0 : Int) ≤ c by omega) (show c < ξ 8 2 by omega) (show (0 : Int) ≤ s by omega) (show s < ξ 8 2 by omega) hG) dX8_sightOf_28 rfl (by decide) (Nat.le_of_ble_eq_true rfl) rfl ?_
      have htn := z_tn_r hWN hc0 hs0
      refine q_cP [q_i (z_tn (ξ 8 0) (ξ 8 1) c s)] (kPX8_150 _) (x_pOi (p := p) (by omega) (by omega) (by omega)) (Eq.mp (congrArg (fun z => q_D mX5_timesOf 1 [.ref (B + p.toNat), q_i (z_tn (ξ 8 0) (ξ 8 1) c s)] (x_w w ξ B P g) (some (q_i z)) (x_w w ξ B P g)) (hT.tm hG hc0 hs0)) (tX5_timesOf w ξ B P g p.toNat (by omega) (by omega) (by omega) (z_tn (ξ 8 0) (ξ 8 1) c s) htn.1 (by rw [hG.2.1]; exact htn.2) hS.2)) dX8_sightOf_31 rfl (by decide) (Nat.le_of_ble_eq_true rfl) rfl ?_
      show q_J _ _ _ _ _ _ _ [q_i (x_wy ξ p c s), q_i l] (x_w w ξ B P g)
      refine q_isub dX8_sightOf_34 ?_
      refine q_istore (lv' := [some (.ref 7), some (.ref (B + p.toNat)), some (q_i c), some (q_i x), some (q_i (l - (x_wy ξ p c s))), some (q_i s)]) dX8_sightOf_35 (by decide) rfl ?_
      refine q_iload dX8_sightOf_37 rfl ?_
      refine q_if_ge (tgt := 45) dX8_sightOf_39 (by decide) ⟨by omega, by omega⟩ (fun h39 => ?_) (fun h39 => ?_)
      · skip
        refine q_iinc (lv' := [some (.ref 7), some (.ref (B + p.toNat)), some (q_i c), some (q_i x), some (q_i (l - (x_wy ξ p c s))), some (q_i (s + 1))]) dX8_sightOf_45 rfl (by decide) rfl ?_
        refine q_goto (tgt := 6) dX8_sightOf_48 (by decide) ?_
        exact q_Jle (q_le_s (rfl) (q_le_s (rfl) (q_le_s (rfl) (q_le_s (rfl) (q_le_s (rfl) (q_le_s (rfl) (q_le_e _))))))) (rfl) (rfl) (ih6 (l - (x_wy ξ p c s)) (s + 1) (by omega) (by omega) (by omega) (by rw [z_sum_s _ hs0]; omega) ((z_bk_go (by omega) (by omega)).symm.trans hbk) (by omega) (by omega))
      · skip
        refine q_iload dX8_sightOf_42 rfl ?_
        exact q_iret rfl dX8_sightOf_44 (⟨by rw [← hbk, z_bk_no (by omega) (by omega)], rfl⟩)
  exact q_Jle (q_le_s (rfl) (q_le_s (rfl) (q_le_s (rfl) (q_le_s (rfl) (q_le_s (rfl) (q_le_s (rfl) (q_le_e _))))))) (rfl) (rfl) (L6 ((ξ 8 2 : Int).toNat + 1) x 0 (by omega) (by omega) (by omega) (by rw [z_sum_0]; omega) (by rw [Int.sub_zero]; rfl) (by omega) (by omega))
theorem x_Pt.c {ξ σ : m_S} {p : Int} (h : x_Pt ξ p) (h5 : p < 5) (e : ∀ k, 8 = k ∨ (20 ≤ k ∧ k ≤ 30) ∨ 1000 ≤ k → σ k = ξ k) : x_Pt σ p := by
  have e0 : x_fp σ p = x_fp ξ p := by
    unfold x_fp
    rw [e 1000 (by omega), e 1005 (by omega), e 8 (by omega)]
  unfold x_Pt
  rw [e0, e 1000 (by omega), e 1005 (by omega), e 8 (by omega), e 1003 (by omega), e 1004 (by omega), e (26 + p.toNat) (by omega), e (20 + p.toNat) (by omega)]
  exact h
theorem x_G.c {ξ σ : m_S} (h : x_G ξ) (e8 : σ 8 = ξ 8) (e9 : σ 9 = ξ 9) : x_G σ := by
  unfold x_G
  rw [e8, e9]
  exact h
def xl_p (ξ : m_S) (x k : Int) : Int := ((z_nx (z_it x k)).tdiv 16).tmod (ξ 7 0)
def xl_w (ξ : m_S) (x k : Int) : Int := ((z_it x (k + 1)).tdiv 32).tmod (ξ 1004 (xl_p ξ x k))
def xl_v (ξ : m_S) (x c k : Int) : Int := z_bt (x_wy ξ (xl_p ξ x k) c) (ξ 8 2) (xl_w ξ x k)
def x_l0 (ξ : m_S) : m_S := x_wg (m_u ξ 10 (q_us (ξ 10) 0 0))
def x_lk (ξ : m_S) (x c : Int) : Nat → m_S
  | 0 => x_l0 ξ
  | k + 1 => m_u (x_ad (x_lk ξ x c k) (xl_p ξ x k) (xl_v ξ x c k)) 14 (x_wlf (x_lk ξ x c k 14) (x_lk ξ x c k) (xl_p ξ x k) (xl_v ξ x c k) (x_lk ξ x c k 8 2))
def x_ls (ξ : m_S) (x c k : Int) : m_S := x_lk ξ x c k.toNat
theorem x_ls_s (ξ : m_S) (x c : Int) {k : Int} (h : 0 ≤ k) : x_ls ξ x c (k + 1) = m_u (x_ad (x_ls ξ x c k) (xl_p ξ x k) (xl_v ξ x c k)) 14 (x_wlf (x_ls ξ x c k 14) (x_ls ξ x c k) (xl_p ξ x k) (xl_v ξ x c k) (x_ls ξ x c k 8 2)) := by
  unfold x_ls
  rw [show (k + 1).toNat = k.toNat + 1 by omega]
  show m_u (x_ad (x_lk ξ x c k.toNat) (xl_p ξ x (k.toNat : Int)) (xl_v ξ x c (k.toNat : Int))) 14 (x_wlf (x_lk ξ x c k.toNat 14) (x_lk ξ x c k.toNat) (xl_p ξ x (k.toNat : Int)) (xl_v ξ x c (k.toNat : Int)) (x_lk ξ x c k.toNat 8 2)) = _
  rw [Int.toNat_of_nonneg h]
theorem x_lk_k (ξ : m_S) (x c : Int) {j : Nat} (h : j ≠ 10 ∧ j ≠ 12 ∧ j ≠ 13 ∧ j ≠ 14) : ∀ k : Nat, x_lk ξ x c k j = ξ j
  | 0 => by
    show x_l0 ξ j = ξ j
    unfold x_l0 x_wg
    rw [m_un h.2.2.2, m_un h.1]
  | k + 1 => by
    show m_u (x_ad (x_lk ξ x c k) _ _) 14 _ j = ξ j
    unfold x_ad
    rw [m_un h.2.2.2, m_un h.1, m_un h.2.2.1, m_un h.2.1]
    exact x_lk_k ξ x c h k
theorem x_lk_10 (ξ : m_S) (x c : Int) : ∀ k : Nat, x_lk ξ x c k 10 0 = k
  | 0 => rfl
  | k + 1 => by
    show q_us (x_lk ξ x c k 10) 0 (x_lk ξ x c k 10 0 + 1) 0 = ((k + 1 : Nat) : Int)
    rw [q_us_s, x_lk_10 ξ x c k]
    omega
theorem x_lk_14 {ξ : m_S} (hG : x_G ξ) (x c : Int) : ∀ k : Nat, ∀ j : Int, 0 ≤ j → j < ξ 8 2 → 0 ≤ x_lk ξ x c k 14 j ∧ x_lk ξ x c k 14 j ≤ z_p (fun _ => 4) k
  | 0, j, h0, h1 => by
    have e : x_lk ξ x c 0 14 j = 1 := by
      show x_wgf (m_u ξ 10 (q_us (ξ 10) 0 0)) 0 j = 1
      unfold x_wgf
      rw [if_pos (show 0 ≤ j ∧ j < (m_u ξ 10 (q_us (ξ 10) 0 0)) 8 2 from ⟨h0, h1⟩)]
      rfl
    rw [e]
    exact ⟨by decide, Int.le_refl _⟩
  | k + 1, j, h0, h1 => by
    have e8 := x_lk_k ξ x c (j := 8) (by omega) k
    have ih := x_lk_14 hG x c k j h0 h1
    have e : x_lk ξ x c (k + 1) 14 j = x_lk ξ x c k 14 j * z_ways (x_lk ξ x c k 1000 (xl_p ξ x k)) (x_lk ξ x c k 1005 (xl_p ξ x k)) (x_lk ξ x c k 8 0) (x_lk ξ x c k 8 1) j (xl_v ξ x c k) := by
      show x_wlf (x_lk ξ x c k 14) (x_lk ξ x c k) (xl_p ξ x k) (xl_v ξ x c k) (x_lk ξ x c k 8 2) j = _
      unfold x_wlf
      rw [if_pos ⟨h0, by rw [e8]; exact h1⟩]
    rw [e]
    exact z_mul2 ih (z_ways_r _ _ (by rw [e8]; exact hG.1.1))
theorem x_wy_sum {ξ : m_S} (hG : x_G ξ) {p c : Int} (hT : x_Pt ξ p) (hc : 0 ≤ c) : z_sum (x_wy ξ p c) (ξ 8 2) = ξ 1004 p := by
  have e := z_sum_win hG.1 hT.1 hT.2.1 hc
  rw [← hG.2.1] at e
  exact e.trans (x_in_r hG hT).2.2.symm
set_option maxRecDepth 20000 in
theorem tX8_shutByLots (w : q_W) (ξ : m_S) (B P : Nat) (g : Int → Option Nat) (n e : Int) (hn : 1 ≤ n ∧ n ≤ 8) (he : 1 ≤ e ∧ e ≤ 2147483646) (h1 : 1 ≤ ξ 7 0) (hPs : x_Ps ξ B P g) (hTs : ∀ p, 0 ≤ p → p < ξ 7 0 → x_Pt ξ p) (hG : x_G ξ) : q_D mX8_shutByLots 5 [.ref 7, q_i n, q_i e] (x_w w ξ B P g) (some (q_i ((z_nx e).tmod (ξ 8 2)))) (x_w w (x_ls ξ (z_nx e) ((z_nx e).tmod (ξ 8 2)) n) B P g) := by
  refine q_T.of (lv := [some (.ref 7), some (q_i n), some (q_i e), none, none, none, none, none, none]) (by decide) rfl (Nat.le_of_ble_eq_true rfl) ?_
  have hPs1 := hPs.1
  have hPs2 := hPs.2.1
  have hPs3 := hPs.2.2.1
  have hWN := hG.1
  have hW := hG.1.1
  have hN := hG.1.2
  have hS := hG.S
  have hx := z_nx_r (x := e) (by omega)
  refine q_aload_n dX8_shutByLots_0 rfl ?_
  refine q_get (v := .ref 10) fX8_27_8 rfl rfl dX8_shutByLots_1 ?_
  refine q_iconst dX8_shutByLots_4 ?_
  refine q_puti (fs := [q_i (ξ 10 0), .ref 11, .ref 12, .ref 13]) pX8_85_9 rfl (Nat.le_of_ble_eq_true rfl) dX8_shutByLots_5 ?_
  refine q_Jeq rfl rfl (x_up (f := (q_us (ξ 10) 0 0)) rfl) ?_
  refine q_aload_n dX8_shutByLots_8 rfl ?_
  refine q_cVv [] kX8_88_8 rfl (tX8_weighAgain w (m_u ξ 10 (q_us (ξ 10) 0 0)) B P g hPs (fun q h0 h1 => (hTs q h0 h1).u (by have h1 : q < ξ 7 0 := h1; omega) (by decide) _) (fun _ => hG) (show 0 ≤ ξ 8 2 ∧ ξ 8 2 ≤ 216 by omega) ⟨⟨Int.le_refl 0, by show (0 : Int) ≤ 16; decide⟩, fun d h0 h1 => by have h1 : d < 0 := h1; omega⟩) dX8_shutByLots_9 rfl (by decide) (Nat.le_of_ble_eq_true rfl) rfl ?_
  show q_J _ _ _ _ _ _ _ _ (x_w w (x_l0 ξ) B P g)
  refine q_iload_n dX8_shutByLots_12 rfl ?_
  refine q_i2lr dX8_shutByLots_13 ⟨by omega, by omega⟩ ?_
  refine q_cS [q_l e] kX8_223 (tX8_nextLot w (x_l0 ξ) B P g e (by omega)) dX8_shutByLots_14 rfl (by decide) (Nat.le_of_ble_eq_true rfl) rfl ?_
  refine q_lstore_n (lv' := [some (.ref 7), some (q_i n), some (q_i e), some (q_l (z_nx e)), none, none, none, none, none]) dX8_shutByLots_17 (by decide) rfl ?_
  refine q_lload_n dX8_shutByLots_18 rfl ?_
  refine q_aload_n dX8_shutByLots_19 rfl ?_
  refine q_get (v := .ref 8) fX8_18_8 rfl rfl dX8_shutByLots_20 ?_
  refine q_get (v := q_i ((x_l0 ξ) 8 2)) fX8_144_10 rfl rfl dX8_shutByLots_23 ?_
  show q_J _ _ _ _ _ _ _ [q_i (ξ 8 2), q_l (z_nx e)] _
  refine q_cS [q_l (z_nx e), q_i (ξ 8 2)] kX8_227 (tX8_lotAmong w (x_l0 ξ) B P g (z_nx e) (ξ 8 2) hx (by omega)) dX8_shutByLots_26 rfl (by decide) (Nat.le_of_ble_eq_true rfl) rfl ?_
  obtain ⟨xc, hxc⟩ : ∃ z, z = ((z_nx e).tmod (ξ 8 2)) := ⟨_, rfl⟩
  refine q_Jeq rfl (show [q_i ((z_nx e).tmod (ξ 8 2))] = [q_i xc] by rw [hxc]) rfl ?_
  have hcr : 0 ≤ xc ∧ xc < ξ 8 2 := by rw [hxc]; exact ⟨Int.tmod_nonneg _ hx.1, Int.tmod_lt_of_pos _ (by omega)⟩
  refine q_istore (lv' := [some (.ref 7), some (q_i n), some (q_i e), some (q_l (z_nx e)), none, some (q_i xc), none, none, none]) dX8_shutByLots_29 (by decide) rfl ?_
  refine q_iconst dX8_shutByLots_31 ?_
  refine q_istore (lv' := [some (.ref 7), some (q_i n), some (q_i e), some (q_l (z_nx e)), none, some (q_i xc), some (q_i 0), none, none]) dX8_shutByLots_32 (by decide) rfl ?_
  have L34 : ∀ (m9 : Nat) (k : Int) (hk0 : 0 ≤ k) (hk1 : k ≤ n) (hm9 : n - k < (m9 : Int)), q_J mX8_shutByLots 5 (fun v' w' => v' = (some (q_i ((z_nx e).tmod (ξ 8 2)))) ∧ w' = (x_w w (x_ls ξ (z_nx e) ((z_nx e).tmod (ξ 8 2)) n) B P g)) 0 0 34 [some (.ref 7), some (q_i n), some (q_i e), some (q_l (z_it (z_nx e) k)), none, some (q_i xc), some (q_i k), none, none] [] (x_w w (x_ls ξ (z_nx e) xc k) B P g) := by
    intro m9
    induction m9 with
    | zero => intro k hk0 hk1 hm9; exact absurd hm9 (by omega)
    | succ m9 ih34 =>
      intro k hk0 hk1 hm9
      have eg7 : (x_ls ξ (z_nx e) xc k) 7 = ξ 7 := x_lk_k ξ _ _ (by omega) _
      have eg8 : (x_ls ξ (z_nx e) xc k) 8 = ξ 8 := x_lk_k ξ _ _ (by omega) _
      have eg10 : (x_ls ξ (z_nx e) xc k) 10 0 = k := (x_lk_10 ξ _ _ _).trans (by omega)
      refine q_iload dX8_shutByLots_34 rfl ?_
      refine q_iload_n dX8_shutByLots_36 rfl ?_
      refine q_icmp_ge (tgt := 110) dX8_shutByLots_37 (by decide) ⟨by omega, by omega⟩ ⟨by omega, by omega⟩ (fun h37 => ?_) (fun h37 => ?_)
      · skip
        refine q_iload dX8_shutByLots_110 rfl ?_
        exact q_iret rfl dX8_shutByLots_112 (⟨by rw [hxc], by rw [show k = n by omega, hxc]⟩)
      · skip
        have hi := z_it_r hx k
        have hj := z_nx_r hi.1
        have hi2 := z_it_r hx (k + 1)
        have hd1 := Int.tdiv_nonneg (b := 16) hj.1 (by decide)
        have hd2 := Int.tdiv_le_self 16 hj.1
        have hd3 := Int.tdiv_nonneg (b := 32) hi2.1 (by decide)
        have hd4 := Int.tdiv_le_self 32 hi2.1
        have hpr : 0 ≤ (xl_p ξ (z_nx e) k) ∧ (xl_p ξ (z_nx e) k) < ξ 7 0 := ⟨Int.tmod_nonneg _ hd1, Int.tmod_lt_of_pos _ (by omega)⟩
        have hin := x_in_r hG (hTs (xl_p ξ (z_nx e) k) hpr.1 hpr.2)
        have hwr : 0 ≤ (xl_w ξ (z_nx e) k) ∧ (xl_w ξ (z_nx e) k) < ξ 1004 (xl_p ξ (z_nx e) k) := ⟨Int.tmod_nonneg _ hd3, Int.tmod_lt_of_pos _ (by omega)⟩
        have hvr : 0 ≤ (xl_v ξ (z_nx e) xc k) ∧ (xl_v ξ (z_nx e) xc k) < ξ 8 2 := z_bt_r (by omega) hwr.1 (by rw [x_wy_sum hG (hTs _ hpr.1 hpr.2) hcr.1]; exact hwr.2)
        have hPsL : x_Ps (x_ls ξ (z_nx e) xc k) B P g := ⟨hPs1, by rw [eg7]; exact hPs2, hPs3, hPs.2.2.2⟩
        have hTL : ∀ q, 0 ≤ q → q < ξ 7 0 → x_Pt (x_ls ξ (z_nx e) xc k) q := fun q h0 h1 => (hTs q h0 h1).c (by omega) (fun j hj => x_lk_k ξ _ _ (by omega) _)
        have hGL : x_G (x_ls ξ (z_nx e) xc k) := hG.c eg8 (x_lk_k ξ _ _ (by omega) _)
        have ewy : x_wy (x_ls ξ (z_nx e) xc k) (xl_p ξ (z_nx e) k) xc = x_wy ξ (xl_p ξ (z_nx e) k) xc := by unfold x_wy; rw [eg8, show (x_ls ξ (z_nx e) xc k) 1000 = ξ 1000 from x_lk_k ξ _ _ (by omega) _, show (x_ls ξ (z_nx e) xc k) 1005 = ξ 1005 from x_lk_k ξ _ _ (by omega) _]
        refine q_lload_n dX8_shutByLots_40 rfl ?_
        refine q_cS [q_l (z_it (z_nx e) k)] kX8_223 (tX8_nextLot w (x_ls ξ (z_nx e) xc k) B P g (z_it (z_nx e) k) hi) dX8_shutByLots_41 rfl (by decide) (Nat.le_of_ble_eq_true rfl) rfl ?_
        refine q_lstore_n (lv' := [some (.ref 7), some (q_i n), some (q_i e), some (q_l (z_nx (z_it (z_nx e) k))), none, some (q_i xc), some (q_i k), none, none]) dX8_shutByLots_44 (by decide) rfl ?_
        refine q_lload_n dX8_shutByLots_45 rfl ?_
        refine q_ldc2 16 wd_952 dX8_shutByLots_46 ?_
        refine q_ldiv dX8_shutByLots_49 ⟨by omega, by omega⟩ ⟨by decide, by decide⟩ (by omega) (by omega) ?_
        refine q_aload_n dX8_shutByLots_50 rfl ?_
        refine q_get (v := q_i ((x_ls ξ (z_nx e) xc k) 7 0)) fX8_9_8 rfl rfl dX8_shutByLots_51 ?_
        rw [eg7]
        refine q_cS [q_l (((z_nx (z_it (z_nx e) k))).tdiv 16), q_i (ξ 7 0)] kX8_227 (tX8_lotAmong w (x_ls ξ (z_nx e) xc k) B P g (((z_nx (z_it (z_nx e) k))).tdiv 16) (ξ 7 0) (by omega) (by omega)) dX8_shutByLots_54 rfl (by decide) (Nat.le_of_ble_eq_true rfl) rfl ?_
        show q_J _ _ _ _ _ _ _ [q_i (xl_p ξ (z_nx e) k)] (x_w w (x_ls ξ (z_nx e) xc k) B P g)
        refine q_istore (lv' := [some (.ref 7), some (q_i n), some (q_i e), some (q_l (z_nx (z_it (z_nx e) k))), none, some (q_i xc), some (q_i k), some (q_i (xl_p ξ (z_nx e) k)), none]) dX8_shutByLots_57 (by decide) rfl ?_
        refine q_lload_n dX8_shutByLots_59 rfl ?_
        refine q_cS [q_l (z_nx (z_it (z_nx e) k))] kX8_223 (Eq.mp (congrArg (fun z => q_D mX8_nextLot 0 [q_l (z_nx (z_it (z_nx e) k))] (x_w w (x_ls ξ (z_nx e) xc k) B P g) (some (q_l z)) (x_w w (x_ls ξ (z_nx e) xc k) B P g)) (z_it_s (z_nx e) hk0).symm) (tX8_nextLot w (x_ls ξ (z_nx e) xc k) B P g (z_nx (z_it (z_nx e) k)) hj)) dX8_shutByLots_60 rfl (by decide) (Nat.le_of_ble_eq_true rfl) rfl ?_
        refine q_lstore_n (lv' := [some (.ref 7), some (q_i n), some (q_i e), some (q_l (z_it (z_nx e) (k + 1))), none, some (q_i xc), some (q_i k), some (q_i (xl_p ξ (z_nx e) k)), none]) dX8_shutByLots_63 (by decide) rfl ?_
        refine q_aload_n dX8_shutByLots_64 rfl ?_
        refine q_iload dX8_shutByLots_65 rfl ?_
        refine q_cV [q_i (xl_p ξ (z_nx e) k)] kX8_109_8 rfl (tX8_personAt_y w (x_ls ξ (z_nx e) xc k) B P g (xl_p ξ (z_nx e) k) hpr.1 (by rw [eg7]; exact hpr.2) hPsL) dX8_shutByLots_67 rfl (by decide) (Nat.le_of_ble_eq_true rfl) rfl ?_
        refine q_astore (lv' := [some (.ref 7), some (q_i n), some (q_i e), some (q_l (z_it (z_nx e) (k + 1))), none, some (q_i xc), some (q_i k), some (q_i (xl_p ξ (z_nx e) k)), some (.ref (B + (xl_p ξ (z_nx e) k).toNat))]) dX8_shutByLots_70 (by decide) rfl ?_
        refine q_aload dX8_shutByLots_72 rfl ?_
        refine q_ifnullS dX8_shutByLots_74 ?_
        refine q_aload_n dX8_shutByLots_77 rfl ?_
        refine q_iload dX8_shutByLots_78 rfl ?_
        refine q_aload_n dX8_shutByLots_80 rfl ?_
        refine q_aload dX8_shutByLots_81 rfl ?_
        refine q_iload dX8_shutByLots_83 rfl ?_
        refine q_lload_n dX8_shutByLots_85 rfl ?_
        refine q_ldc2 32 wd_953 dX8_shutByLots_86 ?_
        refine q_ldiv dX8_shutByLots_89 ⟨by omega, by omega⟩ ⟨by decide, by decide⟩ (by omega) (by omega) ?_
        refine q_aload dX8_shutByLots_90 rfl ?_
        refine q_get (v := q_i ((x_ls ξ (z_nx e) xc k) 1004 (xl_p ξ (z_nx e) k))) (fPX8_214 _) (x_pOi (p := (xl_p ξ (z_nx e) k)) (by omega) hpr.1 (by omega)) rfl dX8_shutByLots_92 ?_
        rw [show (x_ls ξ (z_nx e) xc k) 1004 = ξ 1004 from x_lk_k ξ _ _ (by omega) _]
        refine q_cS [q_l (((z_it (z_nx e) (k + 1))).tdiv 32), q_i (ξ 1004 (xl_p ξ (z_nx e) k))] kX8_227 (tX8_lotAmong w (x_ls ξ (z_nx e) xc k) B P g (((z_it (z_nx e) (k + 1))).tdiv 32) (ξ 1004 (xl_p ξ (z_nx e) k)) (by omega) (by omega)) dX8_shutByLots_95 rfl (by decide) (Nat.le_of_ble_eq_true rfl) rfl ?_
        show q_J _ _ _ _ _ _ _ [q_i (xl_w ξ (z_nx e) k), q_i xc, .ref (B + (xl_p ξ (z_nx e) k).toNat), .ref 7, q_i (xl_p ξ (z_nx e) k), .ref 7] (x_w w (x_ls ξ (z_nx e) xc k) B P g)
        refine q_cV [.ref (B + (xl_p ξ (z_nx e) k).toNat), q_i xc, q_i (xl_w ξ (z_nx e) k)] kX8_235_8 rfl (Eq.mp (congrArg (fun z => q_D mX8_sightOf 2 [.ref 7, .ref (B + (xl_p ξ (z_nx e) k).toNat), q_i xc, q_i (xl_w ξ (z_nx e) k)] (x_w w (x_ls ξ (z_nx e) xc k) B P g) (some (q_i z)) (x_w w (x_ls ξ (z_nx e) xc k) B P g)) (show z_bt (x_wy (x_ls ξ (z_nx e) xc k) (xl_p ξ (z_nx e) k) xc) ((x_ls ξ (z_nx e) xc k) 8 2) (xl_w ξ (z_nx e) k) = (xl_v ξ (z_nx e) xc k) by rw [ewy, eg8]; rfl)) (tX8_sightOf w (x_ls ξ (z_nx e) xc k) B P g (xl_p ξ (z_nx e) k) xc (xl_w ξ (z_nx e) k) hpr.1 (by rw [eg7]; exact hpr.2) hPsL (hTL _ hpr.1 hpr.2) hGL hcr.1 (by rw [eg8]; exact hcr.2) hwr.1 (by rw [ewy, eg8, x_wy_sum hG (hTs _ hpr.1 hpr.2) hcr.1]; exact hwr.2) (by omega))) dX8_shutByLots_98 rfl (by decide) (Nat.le_of_ble_eq_true rfl) rfl ?_
        refine q_cVv [q_i (xl_p ξ (z_nx e) k), q_i (xl_v ξ (z_nx e) xc k)] kX8_239_8 rfl (tX8_addDeed_y w (x_ls ξ (z_nx e) xc k) B P g (xl_p ξ (z_nx e) k) (xl_v ξ (z_nx e) xc k) hpr.1 (by rw [eg7]; exact hpr.2) hPsL (hTL _ hpr.1 hpr.2) hGL hvr.1 (by rw [eg8]; exact hvr.2) (fun j h0 h1 => by have q := x_lk_14 hG (z_nx e) xc k.toNat j h0 (by rw [eg8] at h1; exact h1); have q2 := z_p4 k.toNat (by omega); have e9 : (x_ls ξ (z_nx e) xc k) 14 j = x_lk ξ (z_nx e) xc k.toNat 14 j := rfl; omega) (by rw [eg10]; omega)) dX8_shutByLots_101 rfl (by decide) (Nat.le_of_ble_eq_true rfl) rfl ?_
        refine q_iinc (lv' := [some (.ref 7), some (q_i n), some (q_i e), some (q_l (z_it (z_nx e) (k + 1))), none, some (q_i xc), some (q_i (k + 1)), some (q_i (xl_p ξ (z_nx e) k)), some (.ref (B + (xl_p ξ (z_nx e) k).toNat))]) dX8_shutByLots_104 rfl (by decide) rfl ?_
        refine q_goto (tgt := 34) dX8_shutByLots_107 (by decide) ?_
        exact q_Jle (q_le_s (rfl) (q_le_s (rfl) (q_le_s (rfl) (q_le_s (rfl) (q_le_n (q_le_s (rfl) (q_le_s (rfl) (q_le_n (q_le_n (q_le_e _)))))))))) (rfl) (by rw [x_ls_s _ _ _ hk0]) (ih34 (k + 1) (by omega) (by omega) (by omega))
  exact q_Jle (q_le_s (rfl) (q_le_s (rfl) (q_le_s (rfl) (q_le_s (rfl) (q_le_n (q_le_s (rfl) (q_le_s (rfl) (q_le_n (q_le_n (q_le_e _)))))))))) (rfl) (rfl) (L34 ((n : Int).toNat + 1) 0 (by omega) (by omega) (by omega))
