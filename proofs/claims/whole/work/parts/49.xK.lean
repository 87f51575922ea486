/-! the class: deeds -/
def x_De (ξ : m_S) : Prop := (0 ≤ ξ 10 0 ∧ ξ 10 0 ≤ 16) ∧ ∀ d, 0 ≤ d → d < ξ 10 0 → (ξ 12 d = -1 ∨ (0 ≤ ξ 12 d ∧ ξ 12 d < ξ 7 0)) ∧ 0 ≤ ξ 13 d ∧ ξ 13 d < ξ 8 2
def x_Z (ξ : m_S) (c d : Int) : Int := z_wt (ξ 1000) (ξ 1005) (ξ 8 0) (ξ 8 1) (ξ 12) (ξ 13) c d
def x_wgf (ξ : m_S) (d : Int) : Int → Int := fun c => if 0 ≤ c ∧ c < ξ 8 2 then x_Z ξ c d else ξ 14 c
def x_wg (ξ : m_S) : m_S := m_u ξ 14 (x_wgf ξ (ξ 10 0))
theorem x_wgf_0 (ξ : m_S) : q_fl (ξ 14) 0 (ξ 8 2) 1 = x_wgf ξ 0 := by
  funext c
  unfold q_fl x_wgf
  rw [Int.zero_add]
  rfl
theorem x_wgf_y {ξ : m_S} {d : Int} (h0 : 0 ≤ d) (h : 0 ≤ ξ 12 d) : x_wlf (x_wgf ξ d) ξ (ξ 12 d) (ξ 13 d) (ξ 8 2) = x_wgf ξ (d + 1) := by
  funext c
  unfold x_wlf x_wgf
  by_cases hc : 0 ≤ c ∧ c < ξ 8 2
  · rw [if_pos hc, if_pos hc, if_pos hc]
    unfold x_Z
    rw [z_wt_s _ _ _ _ _ _ _ h0]
    unfold z_w1
    rw [if_neg (by omega)]
  · rw [if_neg hc, if_neg hc, if_neg hc]
theorem x_wgf_n {ξ : m_S} {d : Int} (h0 : 0 ≤ d) (h : ξ 12 d = -1) (ht : 0 ≤ ξ 13 d ∧ ξ 13 d < ξ 8 2) : q_us (x_wgf ξ d) (ξ 13 d) 0 = x_wgf ξ (d + 1) := by
  funext c
  unfold q_us x_wgf
  by_cases hc : 0 ≤ c ∧ c < ξ 8 2
  · rw [if_pos hc, if_pos hc]
    unfold x_Z
    rw [z_wt_s _ _ _ _ _ _ _ h0]
    unfold z_w1
    rw [if_pos (show ξ 12 d < 0 by omega)]
  · rw [if_neg hc, if_neg hc, if_neg (fun e => hc (by rw [e]; exact ht))]
theorem x_wgf_r {ξ : m_S} (hW : 1 ≤ ξ 8 0 ∧ ξ 8 0 ≤ 3) {d : Int} (hd : d ≤ 16) {c : Int} (h0 : 0 ≤ c) (h1 : c < ξ 8 2) : 0 ≤ x_wgf ξ d c ∧ x_wgf ξ d c ≤ 4294967296 := by
  unfold x_wgf
  rw [if_pos ⟨h0, h1⟩]
  exact z_wt_r c hW hd
set_option maxRecDepth 20000 in
theorem tX8_weighAgain (w : q_W) (ξ : m_S) (B P : Nat) (g : Int → Option Nat) (hPs : x_Ps ξ B P g) (hTs : ∀ p, 0 ≤ p → p < ξ 7 0 → x_Pt ξ p) (hG0 : 0 < ξ 8 2 → x_G ξ) (hS : 0 ≤ ξ 8 2 ∧ ξ 8 2 ≤ 216) (hD : x_De ξ) : q_D mX8_weighAgain 4 [.ref 7] (x_w w ξ B P g) none (x_w w (x_wg ξ) B P g) := by
  refine q_T.of (lv := [some (.ref 7), none]) (by decide) rfl (Nat.le_of_ble_eq_true rfl) ?_
  have hPs1 := hPs.1
  have hPs2 := hPs.2.1
  have hPs3 := hPs.2.2.1
  have hD0 := hD.1
  refine q_aload_n dX8_weighAgain_0 rfl ?_
  refine q_aload_n dX8_weighAgain_1 rfl ?_
  refine q_get (v := .ref 14) fX8_31_8 rfl rfl dX8_weighAgain_2 ?_
  refine q_lconst 1 dX8_weighAgain_5 ?_
  refine q_cVv [.ref 14, q_l 1] kX8_127_8 rfl (tX8_setAll_14 w ξ B P g 1 (show 0 ≤ ξ 8 2 ∧ ξ 8 2 ≤ 216 by omega)) dX8_weighAgain_6 rfl (by decide) (Nat.le_of_ble_eq_true rfl) rfl ?_
  refine q_iconst dX8_weighAgain_9 ?_
  refine q_istore_n (lv' := [some (.ref 7), some (q_i 0)]) dX8_weighAgain_10 (by decide) rfl ?_
  have L11 : ∀ (m9 : Nat) (d : Int) (hd0 : 0 ≤ d) (hd1 : d ≤ ξ 10 0) (hm9 : ξ 10 0 - d < (m9 : Int)), q_J mX8_weighAgain 4 (fun v' w' => v' = none ∧ w' = (x_w w (x_wg ξ) B P g)) 0 0 11 [some (.ref 7), some (q_i d)] [] (x_w w (m_u ξ 14 (x_wgf ξ d)) B P g) := by
    intro m9
    induction m9 with
    | zero => intro d hd0 hd1 hm9; exact absurd hm9 (by omega)
    | succ m9 ih11 =>
      intro d hd0 hd1 hm9
      refine q_iload_n dX8_weighAgain_11 rfl ?_
      refine q_aload_n dX8_weighAgain_12 rfl ?_
      refine q_get (v := .ref 10) fX8_27_8 rfl rfl dX8_weighAgain_13 ?_
      refine q_get (v := q_i (ξ 10 0)) fX8_85_9 rfl rfl dX8_weighAgain_16 ?_
      refine q_icmp_ge (tgt := 50) dX8_weighAgain_19 (by decide) ⟨by omega, by omega⟩ ⟨by omega, by omega⟩ (fun h19 => ?_) (fun h19 => ?_)
      · skip
        exact q_vret rfl dX8_weighAgain_50 (⟨rfl, by rw [show d = ξ 10 0 by omega]; rfl⟩)
      · skip
        have hdd := hD.2 d hd0 (by omega)
        have hG := hG0 (by omega)
        have hW := hG.1.1
        refine q_aload_n dX8_weighAgain_22 rfl ?_
        refine q_aload_n dX8_weighAgain_23 rfl ?_
        refine q_get (v := .ref 10) fX8_27_8 rfl rfl dX8_weighAgain_24 ?_
        refine q_get (v := .ref 12) fX8_131_9 rfl rfl dX8_weighAgain_27 ?_
        refine q_iload_n dX8_weighAgain_30 rfl ?_
        refine q_iald (f := (ξ 12)) (n9 := 16) rfl (by omega) (by omega) dX8_weighAgain_31 ?_
        refine q_aload_n dX8_weighAgain_32 rfl ?_
        refine q_get (v := .ref 10) fX8_27_8 rfl rfl dX8_weighAgain_33 ?_
        refine q_get (v := .ref 13) fX8_133_9 rfl rfl dX8_weighAgain_36 ?_
        refine q_iload_n dX8_weighAgain_39 rfl ?_
        refine q_iald (f := (ξ 13)) (n9 := 16) rfl (by omega) (by omega) dX8_weighAgain_40 ?_
        rcases hdd.1 with hq | hq
        · skip
          rw [hq]
          refine q_cVv [q_i (-1), q_i ((ξ 13) d)] kX8_124_8 rfl (tX8_weigh_n w (m_u ξ 14 (x_wgf ξ d)) B P g ((ξ 13) d) hPs hS (by omega) (show ((ξ 13) d) < ξ 8 2 by omega)) dX8_weighAgain_41 rfl (by decide) (Nat.le_of_ble_eq_true rfl) rfl ?_
          show q_J _ _ _ _ _ _ _ [] (x_w w (m_u (m_u ξ 14 (x_wgf ξ d)) 14 (q_us (x_wgf ξ d) ((ξ 13) d) 0)) B P g)
          refine q_iinc (lv' := [some (.ref 7), some (q_i (d + 1))]) dX8_weighAgain_44 rfl (by decide) rfl ?_
          refine q_goto (tgt := 11) dX8_weighAgain_47 (by decide) ?_
          exact q_Jle (q_le_s (rfl) (q_le_s (rfl) (q_le_e _))) (rfl) (by rw [m_uu, ← x_wgf_n hd0 hq hdd.2]) (ih11 (d + 1) (by omega) (by omega) (by omega))
        · skip
          refine q_cVv [q_i ((ξ 12) d), q_i ((ξ 13) d)] kX8_124_8 rfl (tX8_weigh_y w (m_u ξ 14 (x_wgf ξ d)) B P g ((ξ 12) d) ((ξ 13) d) (by omega) (show ((ξ 12) d) < ξ 7 0 by omega) hPs ((hTs ((ξ 12) d) (by omega) (by omega)).u (by omega) (by decide) _) hG (by omega) (show ((ξ 13) d) < ξ 8 2 by omega) (fun c h0 h1 => by have q := x_wgf_r hW (d := d) (by omega) h0 h1; exact ⟨q.1, by show x_wgf ξ d c ≤ _; omega⟩)) dX8_weighAgain_41 rfl (by decide) (Nat.le_of_ble_eq_true rfl) rfl ?_
          show q_J _ _ _ _ _ _ _ [] (x_w w (m_u (m_u ξ 14 (x_wgf ξ d)) 14 (x_wlf (x_wgf ξ d) ξ ((ξ 12) d) ((ξ 13) d) (ξ 8 2))) B P g)
          refine q_iinc (lv' := [some (.ref 7), some (q_i (d + 1))]) dX8_weighAgain_44 rfl (by decide) rfl ?_
          refine q_goto (tgt := 11) dX8_weighAgain_47 (by decide) ?_
          exact q_Jle (q_le_s (rfl) (q_le_s (rfl) (q_le_e _))) (rfl) (by rw [m_uu, ← x_wgf_y hd0 hq.1]) (ih11 (d + 1) (by omega) (by omega) (by omega))
  exact q_Jle (q_le_s (rfl) (q_le_s (rfl) (q_le_e _))) (rfl) (by rw [x_wgf_0]) (L11 ((ξ 10 0 : Int).toNat + 1) 0 (by omega) (by omega) (by omega))
set_option maxRecDepth 20000 in
theorem tX8_addDeed_y (w : q_W) (ξ : m_S) (B P : Nat) (g : Int → Option Nat) (p t : Int) (hp0 : 0 ≤ p) (hp1 : p < ξ 7 0) (hPs : x_Ps ξ B P g) (hT : x_Pt ξ p) (hG : x_G ξ) (ht0 : 0 ≤ t) (ht1 : t < ξ 8 2) (hV : ∀ c, 0 ≤ c → c < ξ 8 2 → 0 ≤ ξ 14 c ∧ ξ 14 c ≤ 9000000000000000000) (h10 : 0 ≤ ξ 10 0 ∧ ξ 10 0 < 16) : q_D mX8_addDeed 4 [.ref 7, q_i p, q_i t] (x_w w ξ B P g) none (x_w w (m_u (x_ad ξ p t) 14 (x_wlf (ξ 14) ξ p t (ξ 8 2))) B P g) := by
  refine q_T.of (lv := [some (.ref 7), some (q_i p), some (q_i t)]) (by decide) rfl (Nat.le_of_ble_eq_true rfl) ?_
  have hPs1 := hPs.1
  have hPs2 := hPs.2.1
  have hPs3 := hPs.2.2.1
  have hWN := hG.1
  have hW := hG.1.1
  have hN := hG.1.2
  have hS := hG.S
  refine q_aload_n dX8_addDeed_0 rfl ?_
  refine q_get (v := .ref 10) fX8_27_8 rfl rfl dX8_addDeed_1 ?_
  refine q_iload_n dX8_addDeed_4 rfl ?_
  refine q_iload_n dX8_addDeed_5 rfl ?_
  refine q_cVv [q_i p, q_i t] kX8_121_9 rfl (tX9_add w ξ B P g p t h10) dX8_addDeed_6 rfl (by decide) (Nat.le_of_ble_eq_true rfl) rfl ?_
  show q_J _ _ _ _ _ _ _ [] (x_w w (x_ad ξ p t) B P g)
  refine q_aload_n dX8_addDeed_9 rfl ?_
  refine q_iload_n dX8_addDeed_10 rfl ?_
  refine q_iload_n dX8_addDeed_11 rfl ?_
  refine q_cVv [q_i p, q_i t] kX8_124_8 rfl (tX8_weigh_y w (x_ad ξ p t) B P g p t hp0 hp1 hPs (((hT.u (by omega) (by decide) _).u (by omega) (by decide) _).u (by omega) (by decide) _) hG ht0 ht1 hV) dX8_addDeed_12 rfl (by decide) (Nat.le_of_ble_eq_true rfl) rfl ?_
  show q_J _ _ _ _ _ _ _ [] (x_w w (m_u (x_ad ξ p t) 14 (x_wlf (ξ 14) ξ p t (ξ 8 2))) B P g)
  exact q_vret rfl dX8_addDeed_15 (⟨rfl, rfl⟩)
set_option maxRecDepth 20000 in
theorem tX8_addDeed_n (w : q_W) (ξ : m_S) (B P : Nat) (g : Int → Option Nat) (t : Int) (hPs : x_Ps ξ B P g) (hS : 0 ≤ ξ 8 2 ∧ ξ 8 2 ≤ 216) (ht0 : 0 ≤ t) (ht1 : t < ξ 8 2) (h10 : 0 ≤ ξ 10 0 ∧ ξ 10 0 < 16) : q_D mX8_addDeed 4 [.ref 7, q_i (-1), q_i t] (x_w w ξ B P g) none (x_w w (m_u (x_ad ξ (-1) t) 14 (q_us (ξ 14) t 0)) B P g) := by
  refine q_T.of (lv := [some (.ref 7), some (q_i (-1)), some (q_i t)]) (by decide) rfl (Nat.le_of_ble_eq_true rfl) ?_
  have hPs1 := hPs.1
  have hPs2 := hPs.2.1
  have hPs3 := hPs.2.2.1
  refine q_aload_n dX8_addDeed_0 rfl ?_
  refine q_get (v := .ref 10) fX8_27_8 rfl rfl dX8_addDeed_1 ?_
  refine q_iload_n dX8_addDeed_4 rfl ?_
  refine q_iload_n dX8_addDeed_5 rfl ?_
  refine q_cVv [q_i (-1), q_i t] kX8_121_9 rfl (tX9_add w ξ B P g (-1) t h10) dX8_addDeed_6 rfl (by decide) (Nat.le_of_ble_eq_true rfl) rfl ?_
  show q_J _ _ _ _ _ _ _ [] (x_w w (x_ad ξ (-1) t) B P g)
  refine q_aload_n dX8_addDeed_9 rfl ?_
  refine q_iload_n dX8_addDeed_10 rfl ?_
  refine q_iload_n dX8_addDeed_11 rfl ?_
  refine q_cVv [q_i (-1), q_i t] kX8_124_8 rfl (tX8_weigh_n w (x_ad ξ (-1) t) B P g t hPs hS ht0 ht1) dX8_addDeed_12 rfl (by decide) (Nat.le_of_ble_eq_true rfl) rfl ?_
  show q_J _ _ _ _ _ _ _ [] (x_w w (m_u (x_ad ξ (-1) t) 14 (q_us (ξ 14) t 0)) B P g)
  exact q_vret rfl dX8_addDeed_15 (⟨rfl, rfl⟩)
def x_lb (ξ : m_S) (p s : Int) : Int := z_pos (fun c => ξ 14 c * z_ways (ξ 1000 p) (ξ 1005 p) (ξ 8 0) (ξ 8 1) c s) (ξ 8 2)
def x_lbs (ξ : m_S) (p s : Int) : m_S := m_u ξ 15 (x_wlf (q_cpy (ξ 14) (ξ 15) 0 0 (ξ 8 2)) ξ p s (ξ 8 2))
theorem x_cp_in {f g : Int → Int} {n c : Int} (h0 : 0 ≤ c) (h1 : c < n) : q_cpy f g 0 0 n c = f c := by
  unfold q_cpy
  rw [if_pos (by omega), show 0 + (c - 0) = c by omega]
theorem x_lb_e (ξ : m_S) (p s : Int) : z_pos (x_wlf (q_cpy (ξ 14) (ξ 15) 0 0 (ξ 8 2)) ξ p s (ξ 8 2)) (ξ 8 2) = x_lb ξ p s := by
  unfold x_lb z_pos
  refine z_sum_c (fun c h0 h1 => ?_)
  have e : x_wlf (q_cpy (ξ 14) (ξ 15) 0 0 (ξ 8 2)) ξ p s (ξ 8 2) c = ξ 14 c * z_ways (ξ 1000 p) (ξ 1005 p) (ξ 8 0) (ξ 8 1) c s := by
    unfold x_wlf
    rw [if_pos ⟨h0, h1⟩, x_cp_in h0 h1]
  (try dsimp only)
  rw [e]
set_option maxRecDepth 20000 in
theorem tX8_leftBehindLook (w : q_W) (ξ : m_S) (B P : Nat) (g : Int → Option Nat) (p s : Int) (hp0 : 0 ≤ p) (hp1 : p < ξ 7 0) (hPs : x_Ps ξ B P g) (hT : x_Pt ξ p) (hG : x_G ξ) (hs0 : 0 ≤ s) (hs1 : s < ξ 8 2) (hV : ∀ c, 0 ≤ c → c < ξ 8 2 → 0 ≤ ξ 14 c ∧ ξ 14 c ≤ 4294967296) : q_D mX8_leftBehindLook 3 [.ref 7, q_i p, q_i s] (x_w w ξ B P g) (some (q_i (x_lb ξ p s))) (x_w w (x_lbs ξ p s) B P g) := by
  refine q_T.of (lv := [some (.ref 7), some (q_i p), some (q_i s), none]) (by decide) rfl (Nat.le_of_ble_eq_true rfl) ?_
  have hPs1 := hPs.1
  have hPs2 := hPs.2.1
  have hPs3 := hPs.2.2.1
  have hWN := hG.1
  have hW := hG.1.1
  have hN := hG.1.2
  have hS := hG.S
  refine q_aload_n dX8_leftBehindLook_0 rfl ?_
  refine q_get (v := .ref 14) fX8_31_8 rfl rfl dX8_leftBehindLook_1 ?_
  refine q_iconst dX8_leftBehindLook_4 ?_
  refine q_aload_n dX8_leftBehindLook_5 rfl ?_
  refine q_get (v := .ref 15) fX8_35_8 rfl rfl dX8_leftBehindLook_6 ?_
  refine q_iconst dX8_leftBehindLook_9 ?_
  refine q_aload_n dX8_leftBehindLook_10 rfl ?_
  refine q_get (v := .ref 8) fX8_18_8 rfl rfl dX8_leftBehindLook_11 ?_
  refine q_get (v := q_i (ξ 8 2)) fX8_144_10 rfl rfl dX8_leftBehindLook_14 ?_
  refine q_copyl wd_709 wd_336 wd_335 wd_70 rfl rfl (by omega) (by omega) (by omega) (by omega) (by omega) (by decide) (Nat.le_of_ble_eq_true rfl) dX8_leftBehindLook_17 ?_
  refine q_Jeq rfl rfl (x_up (f := (q_cpy (ξ 14) (ξ 15) 0 0 (ξ 8 2))) rfl) ?_
  refine q_aload_n dX8_leftBehindLook_20 rfl ?_
  refine q_iload_n dX8_leftBehindLook_21 rfl ?_
  refine q_cV [q_i p] kX8_109_8 rfl (tX8_personAt_y w (m_u ξ 15 (q_cpy (ξ 14) (ξ 15) 0 0 (ξ 8 2))) B P g p (show (0 : Int) ≤ p by omega) (show p < ξ 7 0 by omega) hPs) dX8_leftBehindLook_22 rfl (by decide) (Nat.le_of_ble_eq_true rfl) rfl ?_
  refine q_astore_n (lv' := [some (.ref 7), some (q_i p), some (q_i s), some (.ref (B + p.toNat))]) dX8_leftBehindLook_25 (by decide) rfl ?_
  refine q_aload_n dX8_leftBehindLook_26 rfl ?_
  refine q_ifnullS dX8_leftBehindLook_27 ?_
  refine q_aload_n dX8_leftBehindLook_30 rfl ?_
  refine q_aload_n dX8_leftBehindLook_31 rfl ?_
  refine q_get (v := .ref 15) fX8_35_8 rfl rfl dX8_leftBehindLook_32 ?_
  refine q_aload_n dX8_leftBehindLook_35 rfl ?_
  refine q_iload_n dX8_leftBehindLook_36 rfl ?_
  refine q_cVv [.ref 15, .ref (B + p.toNat), q_i s] kX8_136_8 rfl (tX8_weighLook_15 w (m_u ξ 15 (q_cpy (ξ 14) (ξ 15) 0 0 (ξ 8 2))) B P g p s hp0 hp1 hPs (hT.u (by omega) (by decide) _) hG hs0 hs1 (fun c h0 h1 => by have h1 : c < ξ 8 2 := h1; have q := hV c h0 h1; show 0 ≤ (q_cpy (ξ 14) (ξ 15) 0 0 (ξ 8 2)) c ∧ (q_cpy (ξ 14) (ξ 15) 0 0 (ξ 8 2)) c ≤ _; rw [x_cp_in h0 h1]; omega)) dX8_leftBehindLook_37 rfl (by decide) (Nat.le_of_ble_eq_true rfl) rfl ?_
  rw [m_uu]
  show q_J _ _ _ _ _ _ _ _ (x_w w (x_lbs ξ p s) B P g)
  refine q_aload_n dX8_leftBehindLook_40 rfl ?_
  refine q_aload_n dX8_leftBehindLook_41 rfl ?_
  refine q_get (v := .ref 15) fX8_35_8 rfl rfl dX8_leftBehindLook_42 ?_
  refine q_cV [.ref 15] kX8_160_8 rfl (tX8_howManyAbove_15 w (x_lbs ξ p s) B P g (show 0 ≤ ξ 8 2 ∧ ξ 8 2 ≤ 216 by omega) (fun c h0 h1 => by have h1 : c < ξ 8 2 := h1; have q := hV c h0 h1; have q2 := z_ways_r (k := ξ 1000 p) (f := ξ 1005 p) (N := ξ 8 1) c s hW; have q3 := z_mul2 q q2; have e9 : x_lbs ξ p s 15 c = ξ 14 c * z_ways (ξ 1000 p) (ξ 1005 p) (ξ 8 0) (ξ 8 1) c s := (by show x_wlf _ ξ p s (ξ 8 2) c = _; unfold x_wlf; rw [if_pos ⟨h0, h1⟩, x_cp_in h0 h1]); rw [e9]; omega)) dX8_leftBehindLook_45 rfl (by decide) (Nat.le_of_ble_eq_true rfl) rfl ?_
  show q_J _ _ _ _ _ _ _ [q_i (z_pos (x_wlf (q_cpy (ξ 14) (ξ 15) 0 0 (ξ 8 2)) ξ p s (ξ 8 2)) (ξ 8 2))] (x_w w (x_lbs ξ p s) B P g)
  exact q_iret rfl dX8_leftBehindLook_48 (⟨by rw [x_lb_e], rfl⟩)
set_option maxRecDepth 20000 in
theorem tX8_leftBehindTry (w : q_W) (ξ : m_S) (B P : Nat) (g : Int → Option Nat) (c : Int) (hc0 : 0 ≤ c) (hc1 : c < ξ 8 2) (hS : 0 ≤ ξ 8 2 ∧ ξ 8 2 ≤ 216) (hV : ∀ c, 0 ≤ c → c < ξ 8 2 → 0 ≤ ξ 14 c ∧ ξ 14 c ≤ 4294967296) : q_D mX8_leftBehindTry 2 [.ref 7, q_i c] (x_w w ξ B P g) (some (q_i (z_pos (ξ 14) (ξ 8 2) - (if 0 < ξ 14 c then 1 else 0)))) (x_w w ξ B P g) := by
  refine q_T.of (lv := [some (.ref 7), some (q_i c), none]) (by decide) rfl (Nat.le_of_ble_eq_true rfl) ?_
  refine q_aload_n dX8_leftBehindTry_0 rfl ?_
  refine q_get (v := .ref 8) fX8_18_8 rfl rfl dX8_leftBehindTry_1 ?_
  refine q_iload_n dX8_leftBehindTry_4 rfl ?_
  refine q_cV [q_i c] kX8_140_10 rfl (tX10_isSetting w ξ B P g c (⟨by omega, by omega⟩) (show 0 ≤ ξ 8 2 ∧ ξ 8 2 ≤ 216 by omega)) dX8_leftBehindTry_5 rfl (by decide) (Nat.le_of_ble_eq_true rfl) rfl ?_
  refine q_ifb_eq (tgt := 26) dX8_leftBehindTry_8 (by decide) (fun h8 => False.elim (by omega)) (fun h8 => ?_)
  refine q_aload_n dX8_leftBehindTry_11 rfl ?_
  refine q_get (v := .ref 14) fX8_31_8 rfl rfl dX8_leftBehindTry_12 ?_
  refine q_iload_n dX8_leftBehindTry_15 rfl ?_
  refine q_lald (f := (ξ 14)) (n9 := 216) rfl (by omega) (by omega) dX8_leftBehindTry_16 ?_
  refine q_lconst 0 dX8_leftBehindTry_17 ?_
  refine q_lcmp_le (tgt := 26) dX8_leftBehindTry_18 dX8_leftBehindTry_19 (by decide) ⟨by have := hV c hc0 hc1; omega, by have := hV c hc0 hc1; omega⟩ ⟨by decide, by decide⟩ (fun h18 => ?_) (fun h18 => ?_)
  · skip
    refine q_iconst dX8_leftBehindTry_26 ?_
    refine q_istore_n (lv' := [some (.ref 7), some (q_i c), some (q_i 0)]) dX8_leftBehindTry_27 (by decide) rfl ?_
    refine q_aload_n dX8_leftBehindTry_28 rfl ?_
    refine q_cV [] kX8_164_8 rfl (tX8_howManyCanBe w ξ B P g (show 0 ≤ ξ 8 2 ∧ ξ 8 2 ≤ 216 by omega) (fun c h0 h1 => ⟨(hV c h0 h1).1, Int.le_trans (hV c h0 h1).2 (by decide)⟩)) dX8_leftBehindTry_29 rfl (by decide) (Nat.le_of_ble_eq_true rfl) rfl ?_
    refine q_iload_n dX8_leftBehindTry_32 rfl ?_
    refine q_isub dX8_leftBehindTry_33 ?_
    exact q_iret rfl dX8_leftBehindTry_34 (⟨by split <;> first | rfl | (exfalso; omega), rfl⟩)
  · skip
    refine q_iconst dX8_leftBehindTry_22 ?_
    refine q_goto (tgt := 27) dX8_leftBehindTry_23 (by decide) ?_
    refine q_istore_n (lv' := [some (.ref 7), some (q_i c), some (q_i 1)]) dX8_leftBehindTry_27 (by decide) rfl ?_
    refine q_aload_n dX8_leftBehindTry_28 rfl ?_
    refine q_cV [] kX8_164_8 rfl (tX8_howManyCanBe w ξ B P g (show 0 ≤ ξ 8 2 ∧ ξ 8 2 ≤ 216 by omega) (fun c h0 h1 => ⟨(hV c h0 h1).1, Int.le_trans (hV c h0 h1).2 (by decide)⟩)) dX8_leftBehindTry_29 rfl (by decide) (Nat.le_of_ble_eq_true rfl) rfl ?_
    refine q_iload_n dX8_leftBehindTry_32 rfl ?_
    refine q_isub dX8_leftBehindTry_33 ?_
    exact q_iret rfl dX8_leftBehindTry_34 (⟨by split <;> first | rfl | (exfalso; omega), rfl⟩)
