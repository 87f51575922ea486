/-! the class: worths, who, told looks -/
def x_wo (ξ : m_S) (p : Int) : Int := z_sum (fun s => x_gv ξ p 0 s (ξ 8 2)) (ξ 8 2)
theorem x_wo_e (ξ : m_S) (p : Int) : z_sum (x_gc ξ p 0 (ξ 8 2)) (ξ 8 2) = x_wo ξ p := by
  unfold x_wo
  refine z_sum_c (fun s h0 h1 => ?_)
  unfold x_gc
  rw [if_pos ⟨h0, h1⟩]
theorem x_wo_r {ξ : m_S} (hG : x_G ξ) (hV : ∀ c, 0 ≤ c → c < ξ 8 2 → 0 ≤ ξ 14 c ∧ ξ 14 c ≤ 4294967296) (p : Int) : 0 ≤ x_wo ξ p ∧ x_wo ξ p ≤ 801543976648704 := by
  have hS := hG.S
  have h := z_sum_b (fun s => x_gv ξ p 0 s (ξ 8 2)) 0 3710851743744 (n := ξ 8 2) (by omega) (fun s h0 h1 => x_gv_r hG.1.1 hS.2 hV p 0 s (by omega) (Int.le_refl _))
  unfold x_wo
  omega
theorem x_in_r {ξ : m_S} (hG : x_G ξ) {p : Int} (hT : x_Pt ξ p) : 1 ≤ ξ 1004 p ∧ ξ 1004 p ≤ 216 ∧ ξ 1004 p = z_in (ξ 1000 p) (ξ 1005 p) (ξ 8 0) (ξ 8 2) := by
  have e := z_sum_0in hG.1 hT.1 hT.2.1
  rw [← hG.2.1] at e
  have e2 : ξ 1004 p = z_in (ξ 1000 p) (ξ 1005 p) (ξ 8 0) (ξ 8 2) := hT.2.2.2.2.1.trans e
  have h := z_in_r (k := ξ 1000 p) hT.2.1 hG.1.1 hG.S
  rw [e2]
  exact ⟨h.1, h.2, rfl⟩
set_option maxRecDepth 20000 in
theorem tX8_worthOf (w : q_W) (ξ : m_S) (B P : Nat) (g : Int → Option Nat) (p : Int) (hp0 : 0 ≤ p) (hp1 : p < ξ 7 0) (hPs : x_Ps ξ B P g) (hTs : ∀ p, 0 ≤ p → p < ξ 7 0 → x_Pt ξ p) (hG : x_G ξ) (hV : ∀ c, 0 ≤ c → c < ξ 8 2 → 0 ≤ ξ 14 c ∧ ξ 14 c ≤ 4294967296) : q_D mX8_worthOf 3 [.ref 7, .ref (B + p.toNat)] (x_w w ξ B P g) (some (q_l (x_wo ξ p))) (x_w w (m_u ξ 15 (x_gc ξ p 0 (ξ 8 2))) B P g) := by
  refine q_T.of (lv := [some (.ref 7), some (.ref (B + p.toNat))]) (by decide) rfl (Nat.le_of_ble_eq_true rfl) ?_
  have hPs1 := hPs.1
  have hPs2 := hPs.2.1
  have hPs3 := hPs.2.2.1
  have hWN := hG.1
  have hW := hG.1.1
  have hN := hG.1.2
  have hS := hG.S
  refine q_aload_n dX8_worthOf_0 rfl ?_
  refine q_aload_n dX8_worthOf_1 rfl ?_
  refine q_iconst dX8_worthOf_2 ?_
  refine q_cVv [.ref (B + p.toNat), q_i 0] kX8_206_8 rfl (tX8_gather_0 w ξ B P g p (by omega) (show p < ξ 7 0 by omega) hPs hTs hG hV) dX8_worthOf_3 rfl (by decide) (Nat.le_of_ble_eq_true rfl) rfl ?_
  refine q_aload_n dX8_worthOf_6 rfl ?_
  refine q_aload_n dX8_worthOf_7 rfl ?_
  refine q_get (v := .ref 15) fX8_35_8 rfl rfl dX8_worthOf_8 ?_
  refine q_cV [.ref 15] kX8_178_8 rfl (tX8_sumOf_15 w (m_u ξ 15 (x_gc ξ p 0 (ξ 8 2))) B P g (show 0 ≤ ξ 8 2 ∧ ξ 8 2 ≤ 216 by omega)) dX8_worthOf_11 rfl (by decide) (Nat.le_of_ble_eq_true rfl) rfl ?_
  show q_J _ _ _ _ _ _ _ [q_l (z_sum (x_gc ξ p 0 (ξ 8 2)) (ξ 8 2))] (x_w w (m_u ξ 15 (x_gc ξ p 0 (ξ 8 2))) B P g)
  exact q_lret rfl dX8_worthOf_14 (⟨by rw [← x_wo_e], rfl⟩)
def x_awf (ξ : m_S) (p : Int) : Int → Int := fun s => if (0 ≤ s ∧ s < ξ 8 2) ∧ 0 < p then x_gv ξ (p - 1) 0 s (ξ 8 2) else ξ 15 s
def x_wsf (ξ : m_S) (p : Int) : Int → Int := fun j => if 0 ≤ j ∧ j < p then x_wo ξ j else ξ 17 j
def x_ww (ξ : m_S) (p : Int) : m_S := m_u (m_u ξ 15 (x_awf ξ p)) 17 (x_wsf ξ p)
theorem x_ww_0 (ξ : m_S) : x_ww ξ 0 = ξ := by
  have e1 : x_awf ξ 0 = ξ 15 := by funext s; unfold x_awf; rw [if_neg (by omega)]
  have e2 : x_wsf ξ 0 = ξ 17 := by funext s; unfold x_wsf; rw [if_neg (by omega)]
  unfold x_ww
  rw [e1, e2, m_uid, m_uid]
theorem x_ww_s (ξ : m_S) {p : Int} (h : 0 ≤ p) : m_u (m_u (x_ww ξ p) 15 (x_gc (x_ww ξ p) p 0 (ξ 8 2))) 17 (q_us (x_wsf ξ p) p (x_wo ξ p)) = x_ww ξ (p + 1) := by
  have e1 : x_gc (x_ww ξ p) p 0 (ξ 8 2) = x_awf ξ (p + 1) := by
    funext s
    show (if 0 ≤ s ∧ s < ξ 8 2 then x_gv ξ p 0 s (ξ 8 2) else x_awf ξ p s) = _
    unfold x_awf
    by_cases h2 : 0 ≤ s ∧ s < ξ 8 2
    · rw [if_pos h2, if_pos ⟨h2, by omega⟩, show p + 1 - 1 = p by omega]
    · rw [if_neg h2, if_neg (fun q => h2 q.1), if_neg (fun q => h2 q.1)]
  have e2 : q_us (x_wsf ξ p) p (x_wo ξ p) = x_wsf ξ (p + 1) := by
    funext j
    unfold q_us x_wsf
    by_cases e : j = p
    · rw [if_pos e, if_pos (by omega), e]
    · rw [if_neg e]
      by_cases h2 : 0 ≤ j ∧ j < p
      · rw [if_pos h2, if_pos (by omega)]
      · rw [if_neg h2, if_neg (by omega)]
  rw [e1, e2]
  unfold x_ww
  rw [m_uc (m_u ξ 15 (x_awf ξ p)) _ _ (by decide), m_uu, m_uu]
set_option maxRecDepth 20000 in
theorem tX8_weighWorths (w : q_W) (ξ : m_S) (B P : Nat) (g : Int → Option Nat) (hPs : x_Ps ξ B P g) (hTs : ∀ p, 0 ≤ p → p < ξ 7 0 → x_Pt ξ p) (hG : x_G ξ) (hV : ∀ c, 0 ≤ c → c < ξ 8 2 → 0 ≤ ξ 14 c ∧ ξ 14 c ≤ 4294967296) : q_D mX8_weighWorths 4 [.ref 7] (x_w w ξ B P g) none (x_w w (x_ww ξ (ξ 7 0)) B P g) := by
  refine q_T.of (lv := [some (.ref 7), none, none]) (by decide) rfl (Nat.le_of_ble_eq_true rfl) ?_
  have hPs1 := hPs.1
  have hPs2 := hPs.2.1
  have hPs3 := hPs.2.2.1
  have hWN := hG.1
  have hW := hG.1.1
  have hN := hG.1.2
  have hS := hG.S
  refine q_iconst dX8_weighWorths_0 ?_
  refine q_istore_n (lv' := [some (.ref 7), some (q_i 0), none]) dX8_weighWorths_1 (by decide) rfl ?_
  have L2 : ∀ (m9 : Nat) (p : Int) (hp0 : 0 ≤ p) (hp1 : p ≤ ξ 7 0) (hm9 : ξ 7 0 - p < (m9 : Int)), q_J mX8_weighWorths 4 (fun v' w' => v' = none ∧ w' = (x_w w (x_ww ξ (ξ 7 0)) B P g)) 0 0 2 [some (.ref 7), some (q_i p), none] [] (x_w w (x_ww ξ p) B P g) := by
    intro m9
    induction m9 with
    | zero => intro p hp0 hp1 hm9; exact absurd hm9 (by omega)
    | succ m9 ih2 =>
      intro p hp0 hp1 hm9
      refine q_iload_n dX8_weighWorths_2 rfl ?_
      refine q_aload_n dX8_weighWorths_3 rfl ?_
      refine q_get (v := q_i (ξ 7 0)) fX8_9_8 rfl rfl dX8_weighWorths_4 ?_
      refine q_icmp_ge (tgt := 41) dX8_weighWorths_7 (by decide) ⟨by omega, by omega⟩ ⟨by omega, by omega⟩ (fun h7 => ?_) (fun h7 => ?_)
      · skip
        exact q_vret rfl dX8_weighWorths_41 (⟨rfl, by rw [show p = ξ 7 0 by omega]⟩)
      · skip
        refine q_aload_n dX8_weighWorths_10 rfl ?_
        refine q_iload_n dX8_weighWorths_11 rfl ?_
        refine q_cV [q_i p] kX8_109_8 rfl (tX8_personAt_y w (x_ww ξ p) B P g p (show (0 : Int) ≤ p by omega) (show p < ξ 7 0 by omega) hPs) dX8_weighWorths_12 rfl (by decide) (Nat.le_of_ble_eq_true rfl) rfl ?_
        refine q_astore_n (lv' := [some (.ref 7), some (q_i p), some (.ref (B + p.toNat))]) dX8_weighWorths_15 (by decide) rfl ?_
        refine q_aload_n dX8_weighWorths_16 rfl ?_
        refine q_get (v := .ref 17) fX8_42_8 rfl rfl dX8_weighWorths_17 ?_
        refine q_iload_n dX8_weighWorths_20 rfl ?_
        refine q_aload_n dX8_weighWorths_21 rfl ?_
        refine q_ifnonnullS (tgt := 29) dX8_weighWorths_22 (by decide) ?_
        refine q_aload_n dX8_weighWorths_29 rfl ?_
        refine q_aload_n dX8_weighWorths_30 rfl ?_
        refine q_cV [.ref (B + p.toNat)] kX8_210_8 rfl (tX8_worthOf w (x_ww ξ p) B P g p hp0 (show p < ξ 7 0 by omega) hPs (fun q h0 h1 => ((hTs q h0 h1).u (by have h1 : q < ξ 7 0 := h1; omega) (by decide) _).u (by have h1 : q < ξ 7 0 := h1; omega) (by decide) _) hG hV) dX8_weighWorths_31 rfl (by decide) (Nat.le_of_ble_eq_true rfl) rfl ?_
        show q_J _ _ _ _ _ _ _ [q_l (x_wo ξ p), q_i p, .ref 17] (x_w w (m_u (x_ww ξ p) 15 (x_gc (x_ww ξ p) p 0 (ξ 8 2))) B P g)
        refine q_last (f := (x_wsf ξ p)) (n9 := 5) rfl (by omega) (by omega) dX8_weighWorths_34 ?_
        refine q_Jeq rfl rfl (x_up (f := (q_us (x_wsf ξ p) p (x_wo ξ p))) rfl) ?_
        refine q_iinc (lv' := [some (.ref 7), some (q_i (p + 1)), some (.ref (B + p.toNat))]) dX8_weighWorths_35 rfl (by decide) rfl ?_
        refine q_goto (tgt := 2) dX8_weighWorths_38 (by decide) ?_
        exact q_Jle (q_le_s (rfl) (q_le_s (rfl) (q_le_n (q_le_e _)))) (rfl) (by rw [x_ww_s ξ hp0]) (ih2 (p + 1) (by omega) (by omega) (by omega))
  exact q_Jle (q_le_s (rfl) (q_le_s (rfl) (q_le_n (q_le_e _)))) (rfl) (by rw [x_ww_0]) (L2 ((ξ 7 0 : Int).toNat + 1) 0 (by omega) (by omega) (by omega))
set_option maxRecDepth 20000 in
theorem tX8_firstByWorth_1 (w : q_W) (ξ : m_S) (B P : Nat) (g : Int → Option Nat) (hPs : x_Ps ξ B P g) (hW17 : ∀ p, 0 ≤ p → p < ξ 7 0 → 0 ≤ ξ 17 p ∧ ξ 17 p ≤ 801543976648704) (hIn : ∀ p, 0 ≤ p → p < ξ 7 0 → 1 ≤ ξ 1004 p ∧ ξ 1004 p ≤ 216) (h1 : 1 ≤ ξ 7 0) : q_D mX8_firstByWorth 1 [.ref 7, q_i 1] (x_w w ξ B P g) (some (q_i (z_most (ξ 17) (ξ 1004) (ξ 7 0 - 1)))) (x_w w ξ B P g) := by
  refine q_T.of (lv := [some (.ref 7), some (q_i 1), none, none, none, none, none, none]) (by decide) rfl (Nat.le_of_ble_eq_true rfl) ?_
  have hPs1 := hPs.1
  have hPs2 := hPs.2.1
  have hPs3 := hPs.2.2.1
  refine q_iconst dX8_firstByWorth_0 ?_
  refine q_istore_n (lv' := [some (.ref 7), some (q_i 1), some (q_i 0), none, none, none, none, none]) dX8_firstByWorth_1 (by decide) rfl ?_
  refine q_iconst dX8_firstByWorth_2 ?_
  refine q_istore_n (lv' := [some (.ref 7), some (q_i 1), some (q_i 0), some (q_i 1), none, none, none, none]) dX8_firstByWorth_3 (by decide) rfl ?_
  have L4 : ∀ (m9 : Nat) (p : Int) (hp0 : 1 ≤ p) (hp1 : p ≤ ξ 7 0) (hm9 : ξ 7 0 - p < (m9 : Int)), q_J mX8_firstByWorth 1 (fun v' w' => v' = (some (q_i (z_most (ξ 17) (ξ 1004) (ξ 7 0 - 1)))) ∧ w' = (x_w w ξ B P g)) 0 0 4 [some (.ref 7), some (q_i 1), some (q_i (z_most (ξ 17) (ξ 1004) (p - 1))), some (q_i p), none, none, none, none] [] (x_w w ξ B P g) := by
    intro m9
    induction m9 with
    | zero => intro p hp0 hp1 hm9; exact absurd hm9 (by omega)
    | succ m9 ih4 =>
      intro p hp0 hp1 hm9
      refine q_iload_n dX8_firstByWorth_4 rfl ?_
      refine q_aload_n dX8_firstByWorth_5 rfl ?_
      refine q_get (v := q_i (ξ 7 0)) fX8_9_8 rfl rfl dX8_firstByWorth_6 ?_
      refine q_icmp_ge (tgt := 98) dX8_firstByWorth_9 (by decide) ⟨by omega, by omega⟩ ⟨by omega, by omega⟩ (fun h9 => ?_) (fun h9 => ?_)
      · skip
        refine q_iload_n dX8_firstByWorth_98 rfl ?_
        exact q_iret rfl dX8_firstByWorth_99 (⟨by rw [show p = ξ 7 0 by omega], rfl⟩)
      · skip
        have hzr := z_most_r (ξ 17) (ξ 1004) (n := p - 1) (by omega)
        have ha := hW17 p (by omega) (by omega)
        have hb := hW17 (z_most (ξ 17) (ξ 1004) (p - 1)) (by omega) (by omega)
        have hc := hIn p (by omega) (by omega)
        have hd := hIn (z_most (ξ 17) (ξ 1004) (p - 1)) (by omega) (by omega)
        have hm1 := z_mul2 ha (show 0 ≤ ξ 1004 (z_most (ξ 17) (ξ 1004) (p - 1)) ∧ ξ 1004 (z_most (ξ 17) (ξ 1004) (p - 1)) ≤ 216 by omega)
        have hm2 := z_mul2 hb (show 0 ≤ ξ 1004 p ∧ ξ 1004 p ≤ 216 by omega)
        refine q_aload_n dX8_firstByWorth_12 rfl ?_
        refine q_iload_n dX8_firstByWorth_13 rfl ?_
        refine q_cV [q_i p] kX8_109_8 rfl (tX8_personAt_y w ξ B P g p (show (0 : Int) ≤ p by omega) (show p < ξ 7 0 by omega) hPs) dX8_firstByWorth_14 rfl (by decide) (Nat.le_of_ble_eq_true rfl) rfl ?_
        refine q_astore (lv' := [some (.ref 7), some (q_i 1), some (q_i (z_most (ξ 17) (ξ 1004) (p - 1))), some (q_i p), some (.ref (B + p.toNat)), none, none, none]) dX8_firstByWorth_17 (by decide) rfl ?_
        refine q_aload_n dX8_firstByWorth_19 rfl ?_
        refine q_iload_n dX8_firstByWorth_20 rfl ?_
        refine q_cV [q_i (z_most (ξ 17) (ξ 1004) (p - 1))] kX8_109_8 rfl (tX8_personAt_y w ξ B P g (z_most (ξ 17) (ξ 1004) (p - 1)) (show (0 : Int) ≤ (z_most (ξ 17) (ξ 1004) (p - 1)) by omega) (show (z_most (ξ 17) (ξ 1004) (p - 1)) < ξ 7 0 by omega) hPs) dX8_firstByWorth_21 rfl (by decide) (Nat.le_of_ble_eq_true rfl) rfl ?_
        refine q_astore (lv' := [some (.ref 7), some (q_i 1), some (q_i (z_most (ξ 17) (ξ 1004) (p - 1))), some (q_i p), some (.ref (B + p.toNat)), some (.ref (B + (z_most (ξ 17) (ξ 1004) (p - 1)).toNat)), none, none]) dX8_firstByWorth_24 (by decide) rfl ?_
        refine q_aload dX8_firstByWorth_26 rfl ?_
        refine q_ifnullS dX8_firstByWorth_28 ?_
        refine q_aload dX8_firstByWorth_31 rfl ?_
        refine q_ifnullS dX8_firstByWorth_33 ?_
        refine q_aload_n dX8_firstByWorth_36 rfl ?_
        refine q_get (v := .ref 17) fX8_42_8 rfl rfl dX8_firstByWorth_37 ?_
        refine q_iload_n dX8_firstByWorth_40 rfl ?_
        refine q_lald (f := (ξ 17)) (n9 := 5) rfl (by omega) (by omega) dX8_firstByWorth_41 ?_
        refine q_aload dX8_firstByWorth_42 rfl ?_
        refine q_get (v := q_i (ξ 1004 (z_most (ξ 17) (ξ 1004) (p - 1)))) (fPX8_214 _) (x_pOi (p := (z_most (ξ 17) (ξ 1004) (p - 1))) (by omega) (by omega) (by omega)) rfl dX8_firstByWorth_44 ?_
        refine q_i2lr dX8_firstByWorth_47 ⟨by omega, by omega⟩ ?_
        refine q_lmul dX8_firstByWorth_48 ?_
        refine q_aload_n dX8_firstByWorth_49 rfl ?_
        refine q_get (v := .ref 17) fX8_42_8 rfl rfl dX8_firstByWorth_50 ?_
        refine q_iload_n dX8_firstByWorth_53 rfl ?_
        refine q_lald (f := (ξ 17)) (n9 := 5) rfl (by omega) (by omega) dX8_firstByWorth_54 ?_
        refine q_aload dX8_firstByWorth_55 rfl ?_
        refine q_get (v := q_i (ξ 1004 p)) (fPX8_214 _) (x_pOi (p := p) (by omega) (by omega) (by omega)) rfl dX8_firstByWorth_57 ?_
        refine q_i2lr dX8_firstByWorth_60 ⟨by omega, by omega⟩ ?_
        refine q_lmul dX8_firstByWorth_61 ?_
        refine q_lsub dX8_firstByWorth_62 ?_
        refine q_lstore (lv' := [some (.ref 7), some (q_i 1), some (q_i (z_most (ξ 17) (ξ 1004) (p - 1))), some (q_i p), some (.ref (B + p.toNat)), some (.ref (B + (z_most (ξ 17) (ξ 1004) (p - 1)).toNat)), some (q_l ((((ξ 17) p) * (ξ 1004 (z_most (ξ 17) (ξ 1004) (p - 1)))) - (((ξ 17) (z_most (ξ 17) (ξ 1004) (p - 1))) * (ξ 1004 p)))), none]) dX8_firstByWorth_63 (by decide) rfl ?_
        refine q_iload_n dX8_firstByWorth_65 rfl ?_
        refine q_if_eq (tgt := 79) dX8_firstByWorth_66 (by decide) ⟨by decide, by decide⟩ (fun h66 => False.elim (by omega)) (fun h66 => ?_)
        refine q_lload dX8_firstByWorth_69 rfl ?_
        refine q_lconst 0 dX8_firstByWorth_71 ?_
        refine q_lcmp_le (tgt := 90) dX8_firstByWorth_72 dX8_firstByWorth_73 (by decide) ⟨by omega, by omega⟩ ⟨by decide, by decide⟩ (fun h72 => ?_) (fun h72 => ?_)
        · skip
          refine q_iload_n dX8_firstByWorth_90 rfl ?_
          refine q_istore_n (lv' := [some (.ref 7), some (q_i 1), some (q_i (z_most (ξ 17) (ξ 1004) (p - 1))), some (q_i p), some (.ref (B + p.toNat)), some (.ref (B + (z_most (ξ 17) (ξ 1004) (p - 1)).toNat)), some (q_l ((((ξ 17) p) * (ξ 1004 (z_most (ξ 17) (ξ 1004) (p - 1)))) - (((ξ 17) (z_most (ξ 17) (ξ 1004) (p - 1))) * (ξ 1004 p)))), none]) dX8_firstByWorth_91 (by decide) rfl ?_
          refine q_iinc (lv' := [some (.ref 7), some (q_i 1), some (q_i (z_most (ξ 17) (ξ 1004) (p - 1))), some (q_i (p + 1)), some (.ref (B + p.toNat)), some (.ref (B + (z_most (ξ 17) (ξ 1004) (p - 1)).toNat)), some (q_l ((((ξ 17) p) * (ξ 1004 (z_most (ξ 17) (ξ 1004) (p - 1)))) - (((ξ 17) (z_most (ξ 17) (ξ 1004) (p - 1))) * (ξ 1004 p)))), none]) dX8_firstByWorth_92 rfl (by decide) rfl ?_
          refine q_goto (tgt := 4) dX8_firstByWorth_95 (by decide) ?_
          exact q_Jle (q_le_s (rfl) (q_le_s (rfl) (q_le_s (by rw [show p + 1 - 1 = (p - 1) + 1 by omega, z_most_s _ _ (by omega), show p - 1 + 1 = p by omega]; split <;> first | rfl | (exfalso; omega)) (q_le_s (rfl) (q_le_n (q_le_n (q_le_n (q_le_n (q_le_e _))))))))) (rfl) (rfl) (ih4 (p + 1) (by omega) (by omega) (by omega))
        · skip
          refine q_goto (tgt := 86) dX8_firstByWorth_76 (by decide) ?_
          refine q_iload_n dX8_firstByWorth_86 rfl ?_
          refine q_goto (tgt := 91) dX8_firstByWorth_87 (by decide) ?_
          refine q_istore_n (lv' := [some (.ref 7), some (q_i 1), some (q_i p), some (q_i p), some (.ref (B + p.toNat)), some (.ref (B + (z_most (ξ 17) (ξ 1004) (p - 1)).toNat)), some (q_l ((((ξ 17) p) * (ξ 1004 (z_most (ξ 17) (ξ 1004) (p - 1)))) - (((ξ 17) (z_most (ξ 17) (ξ 1004) (p - 1))) * (ξ 1004 p)))), none]) dX8_firstByWorth_91 (by decide) rfl ?_
          refine q_iinc (lv' := [some (.ref 7), some (q_i 1), some (q_i p), some (q_i (p + 1)), some (.ref (B + p.toNat)), some (.ref (B + (z_most (ξ 17) (ξ 1004) (p - 1)).toNat)), some (q_l ((((ξ 17) p) * (ξ 1004 (z_most (ξ 17) (ξ 1004) (p - 1)))) - (((ξ 17) (z_most (ξ 17) (ξ 1004) (p - 1))) * (ξ 1004 p)))), none]) dX8_firstByWorth_92 rfl (by decide) rfl ?_
          refine q_goto (tgt := 4) dX8_firstByWorth_95 (by decide) ?_
          exact q_Jle (q_le_s (rfl) (q_le_s (rfl) (q_le_s (by rw [show p + 1 - 1 = (p - 1) + 1 by omega, z_most_s _ _ (by omega), show p - 1 + 1 = p by omega]; split <;> first | rfl | (exfalso; omega)) (q_le_s (rfl) (q_le_n (q_le_n (q_le_n (q_le_n (q_le_e _))))))))) (rfl) (rfl) (ih4 (p + 1) (by omega) (by omega) (by omega))
  exact q_Jle (q_le_s (rfl) (q_le_s (rfl) (q_le_s (rfl) (q_le_s (rfl) (q_le_n (q_le_n (q_le_n (q_le_n (q_le_e _))))))))) (rfl) (rfl) (L4 ((ξ 7 0 : Int).toNat + 1) 1 (by omega) (by omega) (by omega))
set_option maxRecDepth 20000 in
theorem tX8_firstByWorth_0 (w : q_W) (ξ : m_S) (B P : Nat) (g : Int → Option Nat) (hPs : x_Ps ξ B P g) (hW17 : ∀ p, 0 ≤ p → p < ξ 7 0 → 0 ≤ ξ 17 p ∧ ξ 17 p ≤ 801543976648704) (hIn : ∀ p, 0 ≤ p → p < ξ 7 0 → 1 ≤ ξ 1004 p ∧ ξ 1004 p ≤ 216) (h1 : 1 ≤ ξ 7 0) : q_D mX8_firstByWorth 1 [.ref 7, q_i 0] (x_w w ξ B P g) (some (q_i (z_least (ξ 17) (ξ 1004) (ξ 7 0 - 1)))) (x_w w ξ B P g) := by
  refine q_T.of (lv := [some (.ref 7), some (q_i 0), none, none, none, none, none, none]) (by decide) rfl (Nat.le_of_ble_eq_true rfl) ?_
  have hPs1 := hPs.1
  have hPs2 := hPs.2.1
  have hPs3 := hPs.2.2.1
  refine q_iconst dX8_firstByWorth_0 ?_
  refine q_istore_n (lv' := [some (.ref 7), some (q_i 0), some (q_i 0), none, none, none, none, none]) dX8_firstByWorth_1 (by decide) rfl ?_
  refine q_iconst dX8_firstByWorth_2 ?_
  refine q_istore_n (lv' := [some (.ref 7), some (q_i 0), some (q_i 0), some (q_i 1), none, none, none, none]) dX8_firstByWorth_3 (by decide) rfl ?_
  have L4 : ∀ (m9 : Nat) (p : Int) (hp0 : 1 ≤ p) (hp1 : p ≤ ξ 7 0) (hm9 : ξ 7 0 - p < (m9 : Int)), q_J mX8_firstByWorth 1 (fun v' w' => v' = (some (q_i (z_least (ξ 17) (ξ 1004) (ξ 7 0 - 1)))) ∧ w' = (x_w w ξ B P g)) 0 0 4 [some (.ref 7), some (q_i 0), some (q_i (z_least (ξ 17) (ξ 1004) (p - 1))), some (q_i p), none, none, none, none] [] (x_w w ξ B P g) := by
    intro m9
    induction m9 with
    | zero => intro p hp0 hp1 hm9; exact absurd hm9 (by omega)
    | succ m9 ih4 =>
      intro p hp0 hp1 hm9
      refine q_iload_n dX8_firstByWorth_4 rfl ?_
      refine q_aload_n dX8_firstByWorth_5 rfl ?_
      refine q_get (v := q_i (ξ 7 0)) fX8_9_8 rfl rfl dX8_firstByWorth_6 ?_
      refine q_icmp_ge (tgt := 98) dX8_firstByWorth_9 (by decide) ⟨by omega, by omega⟩ ⟨by omega, by omega⟩ (fun h9 => ?_) (fun h9 => ?_)
      · skip
        refine q_iload_n dX8_firstByWorth_98 rfl ?_
        exact q_iret rfl dX8_firstByWorth_99 (⟨by rw [show p = ξ 7 0 by omega], rfl⟩)
      · skip
        have hzr := z_least_r (ξ 17) (ξ 1004) (n := p - 1) (by omega)
        have ha := hW17 p (by omega) (by omega)
        have hb := hW17 (z_least (ξ 17) (ξ 1004) (p - 1)) (by omega) (by omega)
        have hc := hIn p (by omega) (by omega)
        have hd := hIn (z_least (ξ 17) (ξ 1004) (p - 1)) (by omega) (by omega)
        have hm1 := z_mul2 ha (show 0 ≤ ξ 1004 (z_least (ξ 17) (ξ 1004) (p - 1)) ∧ ξ 1004 (z_least (ξ 17) (ξ 1004) (p - 1)) ≤ 216 by omega)
        have hm2 := z_mul2 hb (show 0 ≤ ξ 1004 p ∧ ξ 1004 p ≤ 216 by omega)
        refine q_aload_n dX8_firstByWorth_12 rfl ?_
        refine q_iload_n dX8_firstByWorth_13 rfl ?_
        refine q_cV [q_i p] kX8_109_8 rfl (tX8_personAt_y w ξ B P g p (show (0 : Int) ≤ p by omega) (show p < ξ 7 0 by omega) hPs) dX8_firstByWorth_14 rfl (by decide) (Nat.le_of_ble_eq_true rfl) rfl ?_
        refine q_astore (lv' := [some (.ref 7), some (q_i 0), some (q_i (z_least (ξ 17) (ξ 1004) (p - 1))), some (q_i p), some (.ref (B + p.toNat)), none, none, none]) dX8_firstByWorth_17 (by decide) rfl ?_
        refine q_aload_n dX8_firstByWorth_19 rfl ?_
        refine q_iload_n dX8_firstByWorth_20 rfl ?_
        refine q_cV [q_i (z_least (ξ 17) (ξ 1004) (p - 1))] kX8_109_8 rfl (tX8_personAt_y w ξ B P g (z_least (ξ 17) (ξ 1004) (p - 1)) (show (0 : Int) ≤ (z_least (ξ 17) (ξ 1004) (p - 1)) by omega) (show (z_least (ξ 17) (ξ 1004) (p - 1)) < ξ 7 0 by omega) hPs) dX8_firstByWorth_21 rfl (by decide) (Nat.le_of_ble_eq_true rfl) rfl ?_
        refine q_astore (lv' := [some (.ref 7), some (q_i 0), some (q_i (z_least (ξ 17) (ξ 1004) (p - 1))), some (q_i p), some (.ref (B + p.toNat)), some (.ref (B + (z_least (ξ 17) (ξ 1004) (p - 1)).toNat)), none, none]) dX8_firstByWorth_24 (by decide) rfl ?_
        refine q_aload dX8_firstByWorth_26 rfl ?_
        refine q_ifnullS dX8_firstByWorth_28 ?_
        refine q_aload dX8_firstByWorth_31 rfl ?_
        refine q_ifnullS dX8_firstByWorth_33 ?_
        refine q_aload_n dX8_firstByWorth_36 rfl ?_
        refine q_get (v := .ref 17) fX8_42_8 rfl rfl dX8_firstByWorth_37 ?_
        refine q_iload_n dX8_firstByWorth_40 rfl ?_
        refine q_lald (f := (ξ 17)) (n9 := 5) rfl (by omega) (by omega) dX8_firstByWorth_41 ?_
        refine q_aload dX8_firstByWorth_42 rfl ?_
        refine q_get (v := q_i (ξ 1004 (z_least (ξ 17) (ξ 1004) (p - 1)))) (fPX8_214 _) (x_pOi (p := (z_least (ξ 17) (ξ 1004) (p - 1))) (by omega) (by omega) (by omega)) rfl dX8_firstByWorth_44 ?_
        refine q_i2lr dX8_firstByWorth_47 ⟨by omega, by omega⟩ ?_
        refine q_lmul dX8_firstByWorth_48 ?_
        refine q_aload_n dX8_firstByWorth_49 rfl ?_
        refine q_get (v := .ref 17) fX8_42_8 rfl rfl dX8_firstByWorth_50 ?_
        refine q_iload_n dX8_firstByWorth_53 rfl ?_
        refine q_lald (f := (ξ 17)) (n9 := 5) rfl (by omega) (by omega) dX8_firstByWorth_54 ?_
        refine q_aload dX8_firstByWorth_55 rfl ?_
        refine q_get (v := q_i (ξ 1004 p)) (fPX8_214 _) (x_pOi (p := p) (by omega) (by omega) (by omega)) rfl dX8_firstByWorth_57 ?_
        refine q_i2lr dX8_firstByWorth_60 ⟨by omega, by omega⟩ ?_
        refine q_lmul dX8_firstByWorth_61 ?_
        refine q_lsub dX8_firstByWorth_62 ?_
        refine q_lstore (lv' := [some (.ref 7), some (q_i 0), some (q_i (z_least (ξ 17) (ξ 1004) (p - 1))), some (q_i p), some (.ref (B + p.toNat)), some (.ref (B + (z_least (ξ 17) (ξ 1004) (p - 1)).toNat)), some (q_l ((((ξ 17) p) * (ξ 1004 (z_least (ξ 17) (ξ 1004) (p - 1)))) - (((ξ 17) (z_least (ξ 17) (ξ 1004) (p - 1))) * (ξ 1004 p)))), none]) dX8_firstByWorth_63 (by decide) rfl ?_
        refine q_iload_n dX8_firstByWorth_65 rfl ?_
        refine q_if_eq (tgt := 79) dX8_firstByWorth_66 (by decide) ⟨by decide, by decide⟩ (fun h66 => ?_) (fun h66 => False.elim (by omega))
        refine q_lload dX8_firstByWorth_79 rfl ?_
        refine q_lconst 0 dX8_firstByWorth_81 ?_
        refine q_lcmp_ge (tgt := 90) dX8_firstByWorth_82 dX8_firstByWorth_83 (by decide) ⟨by omega, by omega⟩ ⟨by decide, by decide⟩ (fun h82 => ?_) (fun h82 => ?_)
        · skip
          refine q_iload_n dX8_firstByWorth_90 rfl ?_
          refine q_istore_n (lv' := [some (.ref 7), some (q_i 0), some (q_i (z_least (ξ 17) (ξ 1004) (p - 1))), some (q_i p), some (.ref (B + p.toNat)), some (.ref (B + (z_least (ξ 17) (ξ 1004) (p - 1)).toNat)), some (q_l ((((ξ 17) p) * (ξ 1004 (z_least (ξ 17) (ξ 1004) (p - 1)))) - (((ξ 17) (z_least (ξ 17) (ξ 1004) (p - 1))) * (ξ 1004 p)))), none]) dX8_firstByWorth_91 (by decide) rfl ?_
          refine q_iinc (lv' := [some (.ref 7), some (q_i 0), some (q_i (z_least (ξ 17) (ξ 1004) (p - 1))), some (q_i (p + 1)), some (.ref (B + p.toNat)), some (.ref (B + (z_least (ξ 17) (ξ 1004) (p - 1)).toNat)), some (q_l ((((ξ 17) p) * (ξ 1004 (z_least (ξ 17) (ξ 1004) (p - 1)))) - (((ξ 17) (z_least (ξ 17) (ξ 1004) (p - 1))) * (ξ 1004 p)))), none]) dX8_firstByWorth_92 rfl (by decide) rfl ?_
          refine q_goto (tgt := 4) dX8_firstByWorth_95 (by decide) ?_
          exact q_Jle (q_le_s (rfl) (q_le_s (rfl) (q_le_s (by rw [show p + 1 - 1 = (p - 1) + 1 by omega, z_least_s _ _ (by omega), show p - 1 + 1 = p by omega]; split <;> first | rfl | (exfalso; omega)) (q_le_s (rfl) (q_le_n (q_le_n (q_le_n (q_le_n (q_le_e _))))))))) (rfl) (rfl) (ih4 (p + 1) (by omega) (by omega) (by omega))
        · skip
          refine q_iload_n dX8_firstByWorth_86 rfl ?_
          refine q_goto (tgt := 91) dX8_firstByWorth_87 (by decide) ?_
          refine q_istore_n (lv' := [some (.ref 7), some (q_i 0), some (q_i p), some (q_i p), some (.ref (B + p.toNat)), some (.ref (B + (z_least (ξ 17) (ξ 1004) (p - 1)).toNat)), some (q_l ((((ξ 17) p) * (ξ 1004 (z_least (ξ 17) (ξ 1004) (p - 1)))) - (((ξ 17) (z_least (ξ 17) (ξ 1004) (p - 1))) * (ξ 1004 p)))), none]) dX8_firstByWorth_91 (by decide) rfl ?_
          refine q_iinc (lv' := [some (.ref 7), some (q_i 0), some (q_i p), some (q_i (p + 1)), some (.ref (B + p.toNat)), some (.ref (B + (z_least (ξ 17) (ξ 1004) (p - 1)).toNat)), some (q_l ((((ξ 17) p) * (ξ 1004 (z_least (ξ 17) (ξ 1004) (p - 1)))) - (((ξ 17) (z_least (ξ 17) (ξ 1004) (p - 1))) * (ξ 1004 p)))), none]) dX8_firstByWorth_92 rfl (by decide) rfl ?_
          refine q_goto (tgt := 4) dX8_firstByWorth_95 (by decide) ?_
          exact q_Jle (q_le_s (rfl) (q_le_s (rfl) (q_le_s (by rw [show p + 1 - 1 = (p - 1) + 1 by omega, z_least_s _ _ (by omega), show p - 1 + 1 = p by omega]; split <;> first | rfl | (exfalso; omega)) (q_le_s (rfl) (q_le_n (q_le_n (q_le_n (q_le_n (q_le_e _))))))))) (rfl) (rfl) (ih4 (p + 1) (by omega) (by omega) (by omega))
  exact q_Jle (q_le_s (rfl) (q_le_s (rfl) (q_le_s (rfl) (q_le_s (rfl) (q_le_n (q_le_n (q_le_n (q_le_n (q_le_e _))))))))) (rfl) (rfl) (L4 ((ξ 7 0 : Int).toNat + 1) 1 (by omega) (by omega) (by omega))
def x_wf (ξ : m_S) (c s : Int) : Int → Int := fun p => z_ways (ξ 1000 p) (ξ 1005 p) (ξ 8 0) (ξ 8 1) c s
set_option maxRecDepth 20000 in
theorem tX8_allWho (w : q_W) (ξ : m_S) (B P : Nat) (g : Int → Option Nat) (c s : Int) (hc0 : 0 ≤ c) (hc1 : c < ξ 8 2) (hs0 : 0 ≤ s) (hs1 : s < ξ 8 2) (hPs : x_Ps ξ B P g) (hTs : ∀ p, 0 ≤ p → p < ξ 7 0 → x_Pt ξ p) (hG : x_G ξ) : q_D mX8_allWho 2 [.ref 7, q_i c, q_i s] (x_w w ξ B P g) (some (q_i (z_bits (fun p => if 0 < x_wf ξ c s p then 0 else 9) (ξ 7 0)))) (x_w w ξ B P g) := by
  refine q_T.of (lv := [some (.ref 7), some (q_i c), some (q_i s), none, none, none, none]) (by decide) rfl (Nat.le_of_ble_eq_true rfl) ?_
  have hPs1 := hPs.1
  have hPs2 := hPs.2.1
  have hPs3 := hPs.2.2.1
  have hWN := hG.1
  have hW := hG.1.1
  have hN := hG.1.2
  have hS := hG.S
  have htn := z_tn_r hWN hc0 hs0
  refine q_aload_n dX8_allWho_0 rfl ?_
  refine q_get (v := .ref 8) fX8_18_8 rfl rfl dX8_allWho_1 ?_
  refine q_iload_n dX8_allWho_4 rfl ?_
  refine q_iload_n dX8_allWho_5 rfl ?_
  refine q_cV [q_i c, q_i s] kX8_146_10 rfl (tX10_turnBetween w ξ B P g c s (show (0 : Int) ≤ c by omega) (show c < ξ 8 2 by omega) (show (0 : Int) ≤ s by omega) (show s < ξ 8 2 by omega) hG) dX8_allWho_6 rfl (by decide) (Nat.le_of_ble_eq_true rfl) rfl ?_
  refine q_istore_n (lv' := [some (.ref 7), some (q_i c), some (q_i s), some (q_i (z_tn (ξ 8 0) (ξ 8 1) c s)), none, none, none]) dX8_allWho_9 (by decide) rfl ?_
  refine q_iconst dX8_allWho_10 ?_
  refine q_istore (lv' := [some (.ref 7), some (q_i c), some (q_i s), some (q_i (z_tn (ξ 8 0) (ξ 8 1) c s)), some (q_i 0), none, none]) dX8_allWho_11 (by decide) rfl ?_
  refine q_iconst dX8_allWho_13 ?_
  refine q_istore (lv' := [some (.ref 7), some (q_i c), some (q_i s), some (q_i (z_tn (ξ 8 0) (ξ 8 1) c s)), some (q_i 0), some (q_i 0), none]) dX8_allWho_14 (by decide) rfl ?_
  have L16 : ∀ (m9 : Nat) (p : Int) (hp0 : 0 ≤ p) (hp1 : p ≤ ξ 7 0) (hm9 : ξ 7 0 - p < (m9 : Int)), q_J mX8_allWho 2 (fun v' w' => v' = (some (q_i (z_bits (fun p => if 0 < x_wf ξ c s p then 0 else 9) (ξ 7 0)))) ∧ w' = (x_w w ξ B P g)) 0 0 16 [some (.ref 7), some (q_i c), some (q_i s), some (q_i (z_tn (ξ 8 0) (ξ 8 1) c s)), some (q_i (z_bits (fun p => if 0 < x_wf ξ c s p then 0 else 9) p)), some (q_i p), none] [] (x_w w ξ B P g) := by
    intro m9
    induction m9 with
    | zero => intro p hp0 hp1 hm9; exact absurd hm9 (by omega)
    | succ m9 ih16 =>
      intro p hp0 hp1 hm9
      refine q_iload dX8_allWho_16 rfl ?_
      refine q_aload_n dX8_allWho_18 rfl ?_
      refine q_get (v := q_i (ξ 7 0)) fX8_9_8 rfl rfl dX8_allWho_19 ?_
      refine q_icmp_ge (tgt := 66) dX8_allWho_22 (by decide) ⟨by omega, by omega⟩ ⟨by omega, by omega⟩ (fun h22 => ?_) (fun h22 => ?_)
      · skip
        refine q_iload dX8_allWho_66 rfl ?_
        exact q_iret rfl dX8_allWho_68 (⟨by rw [show p = ξ 7 0 by omega], rfl⟩)
      · skip
        refine q_aload_n dX8_allWho_25 rfl ?_
        refine q_iload dX8_allWho_26 rfl ?_
        refine q_cV [q_i p] kX8_109_8 rfl (tX8_personAt_y w ξ B P g p (show (0 : Int) ≤ p by omega) (show p < ξ 7 0 by omega) hPs) dX8_allWho_28 rfl (by decide) (Nat.le_of_ble_eq_true rfl) rfl ?_
        refine q_astore (lv' := [some (.ref 7), some (q_i c), some (q_i s), some (q_i (z_tn (ξ 8 0) (ξ 8 1) c s)), some (q_i (z_bits (fun p => if 0 < x_wf ξ c s p then 0 else 9) p)), some (q_i p), some (.ref (B + p.toNat))]) dX8_allWho_31 (by decide) rfl ?_
        refine q_iload dX8_allWho_33 rfl ?_
        refine q_aload dX8_allWho_35 rfl ?_
        refine q_ifnullS dX8_allWho_37 ?_
        refine q_aload dX8_allWho_40 rfl ?_
        refine q_iload_n dX8_allWho_42 rfl ?_
        refine q_cP [q_i (z_tn (ξ 8 0) (ξ 8 1) c s)] (kPX8_150 _) (x_pOi (p := p) (by omega) (by omega) (by omega)) (Eq.mp (congrArg (fun z => q_D mX5_timesOf 1 [.ref (B + p.toNat), q_i (z_tn (ξ 8 0) (ξ 8 1) c s)] (x_w w ξ B P g) (some (q_i z)) (x_w w ξ B P g)) ((hTs p (by omega) (by omega)).tm hG hc0 hs0)) (tX5_timesOf w ξ B P g p.toNat (by omega) (by omega) (by omega) (z_tn (ξ 8 0) (ξ 8 1) c s) htn.1 (by rw [hG.2.1]; exact htn.2) hS.2)) dX8_allWho_43 rfl (by decide) (Nat.le_of_ble_eq_true rfl) rfl ?_
        show q_J _ _ _ _ _ _ _ [q_i (x_wf ξ c s p), q_i (z_bits (fun p => if 0 < x_wf ξ c s p then 0 else 9) p)] (x_w w ξ B P g)
        refine q_if_le (tgt := 56) dX8_allWho_46 (by decide) ⟨by have := z_ways_r (k := ξ 1000 p) (f := ξ 1005 p) (N := ξ 8 1) c s hW; unfold x_wf; omega, by have := z_ways_r (k := ξ 1000 p) (f := ξ 1005 p) (N := ξ 8 1) c s hW; unfold x_wf; omega⟩ (fun h46 => ?_) (fun h46 => ?_)
        · skip
          refine q_iconst dX8_allWho_56 ?_
          refine q_ior dX8_allWho_57 ?_
          refine q_istore (lv' := [some (.ref 7), some (q_i c), some (q_i s), some (q_i (z_tn (ξ 8 0) (ξ 8 1) c s)), some (q_i (q_or (z_bits (fun p => if 0 < x_wf ξ c s p then 0 else 9) p) 0)), some (q_i p), some (.ref (B + p.toNat))]) dX8_allWho_58 (by decide) rfl ?_
          refine q_iinc (lv' := [some (.ref 7), some (q_i c), some (q_i s), some (q_i (z_tn (ξ 8 0) (ξ 8 1) c s)), some (q_i (q_or (z_bits (fun p => if 0 < x_wf ξ c s p then 0 else 9) p) 0)), some (q_i (p + 1)), some (.ref (B + p.toNat))]) dX8_allWho_60 rfl (by decide) rfl ?_
          refine q_goto (tgt := 16) dX8_allWho_63 (by decide) ?_
          exact q_Jle (q_le_s (rfl) (q_le_s (rfl) (q_le_s (rfl) (q_le_s (rfl) (q_le_s (by rw [z_bits_s _ hp0]; (try dsimp only); (repeat' split) <;> first | rfl | (exfalso; omega)) (q_le_s (rfl) (q_le_n (q_le_e _)))))))) (rfl) (rfl) (ih16 (p + 1) (by omega) (by omega) (by omega))
        · skip
          refine q_iconst dX8_allWho_49 ?_
          refine q_iload dX8_allWho_50 rfl ?_
          refine q_ishl dX8_allWho_52 ?_
          refine q_goto (tgt := 57) dX8_allWho_53 (by decide) ?_
          refine q_ior dX8_allWho_57 ?_
          refine q_istore (lv' := [some (.ref 7), some (q_i c), some (q_i s), some (q_i (z_tn (ξ 8 0) (ξ 8 1) c s)), some (q_i (q_or (z_bits (fun p => if 0 < x_wf ξ c s p then 0 else 9) p) (q_shl 1 p))), some (q_i p), some (.ref (B + p.toNat))]) dX8_allWho_58 (by decide) rfl ?_
          refine q_iinc (lv' := [some (.ref 7), some (q_i c), some (q_i s), some (q_i (z_tn (ξ 8 0) (ξ 8 1) c s)), some (q_i (q_or (z_bits (fun p => if 0 < x_wf ξ c s p then 0 else 9) p) (q_shl 1 p))), some (q_i (p + 1)), some (.ref (B + p.toNat))]) dX8_allWho_60 rfl (by decide) rfl ?_
          refine q_goto (tgt := 16) dX8_allWho_63 (by decide) ?_
          exact q_Jle (q_le_s (rfl) (q_le_s (rfl) (q_le_s (rfl) (q_le_s (rfl) (q_le_s (by rw [z_bits_s _ hp0]; (try dsimp only); (repeat' split) <;> first | rfl | (exfalso; omega)) (q_le_s (rfl) (q_le_n (q_le_e _)))))))) (rfl) (rfl) (ih16 (p + 1) (by omega) (by omega) (by omega))
  exact q_Jle (q_le_s (rfl) (q_le_s (rfl) (q_le_s (rfl) (q_le_s (rfl) (q_le_s (rfl) (q_le_s (rfl) (q_le_n (q_le_e _)))))))) (rfl) (rfl) (L16 ((ξ 7 0 : Int).toNat + 1) 0 (by omega) (by omega) (by omega))
theorem z_wc {f g : Int → Int} {Z p : Int} (hf : 0 ≤ f p) (hz : Z ≠ -9 → 0 ≤ f Z ∧ 1 ≤ g Z) (hg : 1 ≤ g p) : ((if Z = -9 then 0 else f Z) * g p < f p * (if Z = -9 then 1 else g Z)) ↔ (0 < f p ∧ (Z = -9 ∨ f Z * g p < f p * g Z)) := by
  by_cases h : Z = -9
  · rw [if_pos h, if_pos h, Int.zero_mul, Int.mul_one]
    constructor
    · intro q; exact ⟨q, Or.inl h⟩
    · intro q; exact q.1
  · rw [if_neg h, if_neg h]
    have hz1 := hz h
    constructor
    · intro q
      refine ⟨?_, Or.inr q⟩
      have h1 : 0 ≤ f Z * g p := Int.mul_nonneg hz1.1 (by omega)
      rcases (show f p = 0 ∨ 0 < f p by omega) with e | e
      · rw [e, Int.zero_mul] at q; omega
      · exact e
    · intro q
      exact q.2.resolve_left h
theorem z_wr {f g : Int → Int} {F G : Int} (hF : 0 ≤ F) (hG : 1 ≤ G) {Z : Int} (hz : Z ≠ -9 → (0 ≤ f Z ∧ f Z ≤ F) ∧ (1 ≤ g Z ∧ g Z ≤ G)) : (0 ≤ (if Z = -9 then 0 else f Z) ∧ (if Z = -9 then 0 else f Z) ≤ F) ∧ (0 ≤ (if Z = -9 then 1 else g Z) ∧ (if Z = -9 then 1 else g Z) ≤ G) := by
  by_cases h : Z = -9
  · rw [if_pos h, if_pos h]; omega
  · rw [if_neg h, if_neg h]
    have := hz h
    omega
set_option maxRecDepth 20000 in
theorem tX8_likeliestWho (w : q_W) (ξ : m_S) (B P : Nat) (g : Int → Option Nat) (c s : Int) (hc0 : 0 ≤ c) (hc1 : c < ξ 8 2) (hs0 : 0 ≤ s) (hs1 : s < ξ 8 2) (hPs : x_Ps ξ B P g) (hTs : ∀ p, 0 ≤ p → p < ξ 7 0 → x_Pt ξ p) (hG : x_G ξ) : q_D mX8_likeliestWho 2 [.ref 7, q_i c, q_i s] (x_w w ξ B P g) (some (q_i (z_who (x_wf ξ c s) (ξ 1004) (ξ 7 0)))) (x_w w ξ B P g) := by
  refine q_T.of (lv := [some (.ref 7), some (q_i c), some (q_i s), none, none, none, none, none, none]) (by decide) rfl (Nat.le_of_ble_eq_true rfl) ?_
  have hPs1 := hPs.1
  have hPs2 := hPs.2.1
  have hPs3 := hPs.2.2.1
  have hWN := hG.1
  have hW := hG.1.1
  have hN := hG.1.2
  have hS := hG.S
  have htn := z_tn_r hWN hc0 hs0
  refine q_aload_n dX8_likeliestWho_0 rfl ?_
  refine q_get (v := .ref 8) fX8_18_8 rfl rfl dX8_likeliestWho_1 ?_
  refine q_iload_n dX8_likeliestWho_4 rfl ?_
  refine q_iload_n dX8_likeliestWho_5 rfl ?_
  refine q_cV [q_i c, q_i s] kX8_146_10 rfl (tX10_turnBetween w ξ B P g c s (show (0 : Int) ≤ c by omega) (show c < ξ 8 2 by omega) (show (0 : Int) ≤ s by omega) (show s < ξ 8 2 by omega) hG) dX8_likeliestWho_6 rfl (by decide) (Nat.le_of_ble_eq_true rfl) rfl ?_
  refine q_istore_n (lv' := [some (.ref 7), some (q_i c), some (q_i s), some (q_i (z_tn (ξ 8 0) (ξ 8 1) c s)), none, none, none, none, none]) dX8_likeliestWho_9 (by decide) rfl ?_
  refine q_bipush dX8_likeliestWho_10 ?_
  refine q_istore (lv' := [some (.ref 7), some (q_i c), some (q_i s), some (q_i (z_tn (ξ 8 0) (ξ 8 1) c s)), some (q_i (-9)), none, none, none, none]) dX8_likeliestWho_12 (by decide) rfl ?_
  refine q_iconst dX8_likeliestWho_14 ?_
  refine q_istore (lv' := [some (.ref 7), some (q_i c), some (q_i s), some (q_i (z_tn (ξ 8 0) (ξ 8 1) c s)), some (q_i (-9)), some (q_i 0), none, none, none]) dX8_likeliestWho_15 (by decide) rfl ?_
  refine q_iconst dX8_likeliestWho_17 ?_
  refine q_istore (lv' := [some (.ref 7), some (q_i c), some (q_i s), some (q_i (z_tn (ξ 8 0) (ξ 8 1) c s)), some (q_i (-9)), some (q_i 0), some (q_i 1), none, none]) dX8_likeliestWho_18 (by decide) rfl ?_
  refine q_iconst dX8_likeliestWho_20 ?_
  refine q_istore (lv' := [some (.ref 7), some (q_i c), some (q_i s), some (q_i (z_tn (ξ 8 0) (ξ 8 1) c s)), some (q_i (-9)), some (q_i 0), some (q_i 1), some (q_i 0), none]) dX8_likeliestWho_21 (by decide) rfl ?_
  have L23 : ∀ (m9 : Nat) (p : Int) (hp0 : 0 ≤ p) (hp1 : p ≤ ξ 7 0) (hm9 : ξ 7 0 - p < (m9 : Int)), q_J mX8_likeliestWho 2 (fun v' w' => v' = (some (q_i (z_who (x_wf ξ c s) (ξ 1004) (ξ 7 0)))) ∧ w' = (x_w w ξ B P g)) 0 0 23 [some (.ref 7), some (q_i c), some (q_i s), some (q_i (z_tn (ξ 8 0) (ξ 8 1) c s)), some (q_i (z_who (x_wf ξ c s) (ξ 1004) p)), some (q_i (if (z_who (x_wf ξ c s) (ξ 1004) p) = -9 then 0 else x_wf ξ c s (z_who (x_wf ξ c s) (ξ 1004) p))), some (q_i (if (z_who (x_wf ξ c s) (ξ 1004) p) = -9 then 1 else ξ 1004 (z_who (x_wf ξ c s) (ξ 1004) p))), some (q_i p), none] [] (x_w w ξ B P g) := by
    intro m9
    induction m9 with
    | zero => intro p hp0 hp1 hm9; exact absurd hm9 (by omega)
    | succ m9 ih23 =>
      intro p hp0 hp1 hm9
      refine q_iload dX8_likeliestWho_23 rfl ?_
      refine q_aload_n dX8_likeliestWho_25 rfl ?_
      refine q_get (v := q_i (ξ 7 0)) fX8_9_8 rfl rfl dX8_likeliestWho_26 ?_
      refine q_icmp_ge (tgt := 90) dX8_likeliestWho_29 (by decide) ⟨by omega, by omega⟩ ⟨by omega, by omega⟩ (fun h29 => ?_) (fun h29 => ?_)
      · skip
        refine q_iload dX8_likeliestWho_90 rfl ?_
        exact q_iret rfl dX8_likeliestWho_92 (⟨by rw [show p = ξ 7 0 by omega], rfl⟩)
      · skip
        refine q_aload_n dX8_likeliestWho_32 rfl ?_
        refine q_iload dX8_likeliestWho_33 rfl ?_
        refine q_cV [q_i p] kX8_109_8 rfl (tX8_personAt_y w ξ B P g p (show (0 : Int) ≤ p by omega) (show p < ξ 7 0 by omega) hPs) dX8_likeliestWho_35 rfl (by decide) (Nat.le_of_ble_eq_true rfl) rfl ?_
        refine q_astore (lv' := [some (.ref 7), some (q_i c), some (q_i s), some (q_i (z_tn (ξ 8 0) (ξ 8 1) c s)), some (q_i (z_who (x_wf ξ c s) (ξ 1004) p)), some (q_i (if (z_who (x_wf ξ c s) (ξ 1004) p) = -9 then 0 else x_wf ξ c s (z_who (x_wf ξ c s) (ξ 1004) p))), some (q_i (if (z_who (x_wf ξ c s) (ξ 1004) p) = -9 then 1 else ξ 1004 (z_who (x_wf ξ c s) (ξ 1004) p))), some (q_i p), some (.ref (B + p.toNat))]) dX8_likeliestWho_38 (by decide) rfl ?_
        refine q_aload dX8_likeliestWho_40 rfl ?_
        refine q_ifnullS dX8_likeliestWho_42 ?_
        have hzr := z_who_r (x_wf ξ c s) (ξ 1004) hp0
        have hwp : 0 ≤ x_wf ξ c s p ∧ x_wf ξ c s p ≤ 4 := z_ways_r c s hW
        have hip := x_in_r hG (hTs p hp0 (by omega))
        have hzz : (z_who (x_wf ξ c s) (ξ 1004) p) ≠ -9 → (0 ≤ x_wf ξ c s (z_who (x_wf ξ c s) (ξ 1004) p) ∧ x_wf ξ c s (z_who (x_wf ξ c s) (ξ 1004) p) ≤ 4) ∧ (1 ≤ ξ 1004 (z_who (x_wf ξ c s) (ξ 1004) p) ∧ ξ 1004 (z_who (x_wf ξ c s) (ξ 1004) p) ≤ 216) := fun q => ⟨z_ways_r c s hW, by have := x_in_r hG (hTs (z_who (x_wf ξ c s) (ξ 1004) p) (by omega) (by omega)); omega⟩
        have hwr := z_wr (f := x_wf ξ c s) (g := ξ 1004) (F := 4) (G := 216) (Z := (z_who (x_wf ξ c s) (ξ 1004) p)) (by decide) (by decide) hzz
        have hm1 := z_mul2 hwp hwr.2
        have hm2 := z_mul2 hwr.1 (show 0 ≤ ξ 1004 p ∧ ξ 1004 p ≤ 216 by omega)
        have hcc := z_wc (f := x_wf ξ c s) (g := ξ 1004) (Z := (z_who (x_wf ξ c s) (ξ 1004) p)) (p := p) hwp.1 (fun q => ⟨(hzz q).1.1, (hzz q).2.1⟩) hip.1
        refine q_aload dX8_likeliestWho_45 rfl ?_
        refine q_iload_n dX8_likeliestWho_47 rfl ?_
        refine q_cP [q_i (z_tn (ξ 8 0) (ξ 8 1) c s)] (kPX8_150 _) (x_pOi (p := p) (by omega) (by omega) (by omega)) (Eq.mp (congrArg (fun z => q_D mX5_timesOf 1 [.ref (B + p.toNat), q_i (z_tn (ξ 8 0) (ξ 8 1) c s)] (x_w w ξ B P g) (some (q_i z)) (x_w w ξ B P g)) ((hTs p (by omega) (by omega)).tm hG hc0 hs0)) (tX5_timesOf w ξ B P g p.toNat (by omega) (by omega) (by omega) (z_tn (ξ 8 0) (ξ 8 1) c s) htn.1 (by rw [hG.2.1]; exact htn.2) hS.2)) dX8_likeliestWho_48 rfl (by decide) (Nat.le_of_ble_eq_true rfl) rfl ?_
        show q_J _ _ _ _ _ _ _ [q_i (x_wf ξ c s p)] (x_w w ξ B P g)
        refine q_iload dX8_likeliestWho_51 rfl ?_
        refine q_imul dX8_likeliestWho_53 ?_
        refine q_iload dX8_likeliestWho_54 rfl ?_
        refine q_aload dX8_likeliestWho_56 rfl ?_
        refine q_get (v := q_i (ξ 1004 p)) (fPX8_214 _) (x_pOi (p := p) (by omega) (by omega) (by omega)) rfl dX8_likeliestWho_58 ?_
        refine q_imul dX8_likeliestWho_61 ?_
        refine q_icmp_le (tgt := 84) dX8_likeliestWho_62 (by decide) ⟨by omega, by omega⟩ ⟨by omega, by omega⟩ (fun h62 => ?_) (fun h62 => ?_)
        · skip
          refine q_iinc (lv' := [some (.ref 7), some (q_i c), some (q_i s), some (q_i (z_tn (ξ 8 0) (ξ 8 1) c s)), some (q_i (z_who (x_wf ξ c s) (ξ 1004) p)), some (q_i (if (z_who (x_wf ξ c s) (ξ 1004) p) = -9 then 0 else x_wf ξ c s (z_who (x_wf ξ c s) (ξ 1004) p))), some (q_i (if (z_who (x_wf ξ c s) (ξ 1004) p) = -9 then 1 else ξ 1004 (z_who (x_wf ξ c s) (ξ 1004) p))), some (q_i (p + 1)), some (.ref (B + p.toNat))]) dX8_likeliestWho_84 rfl (by decide) rfl ?_
          refine q_goto (tgt := 23) dX8_likeliestWho_87 (by decide) ?_
          exact q_Jle (q_le_s (rfl) (q_le_s (rfl) (q_le_s (rfl) (q_le_s (rfl) (q_le_s (by rw [show z_who (x_wf ξ c s) (ξ 1004) (p + 1) = (z_who (x_wf ξ c s) (ξ 1004) p) from (z_who_s _ _ hp0).trans (if_neg (fun q => by have := hcc.mpr q; omega))]) (q_le_s (by rw [show z_who (x_wf ξ c s) (ξ 1004) (p + 1) = (z_who (x_wf ξ c s) (ξ 1004) p) from (z_who_s _ _ hp0).trans (if_neg (fun q => by have := hcc.mpr q; omega))]) (q_le_s (by rw [show z_who (x_wf ξ c s) (ξ 1004) (p + 1) = (z_who (x_wf ξ c s) (ξ 1004) p) from (z_who_s _ _ hp0).trans (if_neg (fun q => by have := hcc.mpr q; omega))]) (q_le_s (rfl) (q_le_n (q_le_e _)))))))))) (rfl) (rfl) (ih23 (p + 1) (by omega) (by omega) (by omega))
        · skip
          refine q_iload dX8_likeliestWho_65 rfl ?_
          refine q_istore (lv' := [some (.ref 7), some (q_i c), some (q_i s), some (q_i (z_tn (ξ 8 0) (ξ 8 1) c s)), some (q_i p), some (q_i (if (z_who (x_wf ξ c s) (ξ 1004) p) = -9 then 0 else x_wf ξ c s (z_who (x_wf ξ c s) (ξ 1004) p))), some (q_i (if (z_who (x_wf ξ c s) (ξ 1004) p) = -9 then 1 else ξ 1004 (z_who (x_wf ξ c s) (ξ 1004) p))), some (q_i p), some (.ref (B + p.toNat))]) dX8_likeliestWho_67 (by decide) rfl ?_
          refine q_aload dX8_likeliestWho_69 rfl ?_
          refine q_iload_n dX8_likeliestWho_71 rfl ?_
          refine q_cP [q_i (z_tn (ξ 8 0) (ξ 8 1) c s)] (kPX8_150 _) (x_pOi (p := p) (by omega) (by omega) (by omega)) (Eq.mp (congrArg (fun z => q_D mX5_timesOf 1 [.ref (B + p.toNat), q_i (z_tn (ξ 8 0) (ξ 8 1) c s)] (x_w w ξ B P g) (some (q_i z)) (x_w w ξ B P g)) ((hTs p (by omega) (by omega)).tm hG hc0 hs0)) (tX5_timesOf w ξ B P g p.toNat (by omega) (by omega) (by omega) (z_tn (ξ 8 0) (ξ 8 1) c s) htn.1 (by rw [hG.2.1]; exact htn.2) hS.2)) dX8_likeliestWho_72 rfl (by decide) (Nat.le_of_ble_eq_true rfl) rfl ?_
          show q_J _ _ _ _ _ _ _ [q_i (x_wf ξ c s p)] (x_w w ξ B P g)
          refine q_istore (lv' := [some (.ref 7), some (q_i c), some (q_i s), some (q_i (z_tn (ξ 8 0) (ξ 8 1) c s)), some (q_i p), some (q_i (x_wf ξ c s p)), some (q_i (if (z_who (x_wf ξ c s) (ξ 1004) p) = -9 then 1 else ξ 1004 (z_who (x_wf ξ c s) (ξ 1004) p))), some (q_i p), some (.ref (B + p.toNat))]) dX8_likeliestWho_75 (by decide) rfl ?_
          refine q_aload dX8_likeliestWho_77 rfl ?_
          refine q_get (v := q_i (ξ 1004 p)) (fPX8_214 _) (x_pOi (p := p) (by omega) (by omega) (by omega)) rfl dX8_likeliestWho_79 ?_
          refine q_istore (lv' := [some (.ref 7), some (q_i c), some (q_i s), some (q_i (z_tn (ξ 8 0) (ξ 8 1) c s)), some (q_i p), some (q_i (x_wf ξ c s p)), some (q_i (ξ 1004 p)), some (q_i p), some (.ref (B + p.toNat))]) dX8_likeliestWho_82 (by decide) rfl ?_
          refine q_iinc (lv' := [some (.ref 7), some (q_i c), some (q_i s), some (q_i (z_tn (ξ 8 0) (ξ 8 1) c s)), some (q_i p), some (q_i (x_wf ξ c s p)), some (q_i (ξ 1004 p)), some (q_i (p + 1)), some (.ref (B + p.toNat))]) dX8_likeliestWho_84 rfl (by decide) rfl ?_
          refine q_goto (tgt := 23) dX8_likeliestWho_87 (by decide) ?_
          exact q_Jle (q_le_s (rfl) (q_le_s (rfl) (q_le_s (rfl) (q_le_s (rfl) (q_le_s (by rw [z_who_s _ _ hp0, if_pos (hcc.mp h62)]) (q_le_s (by rw [z_who_s _ _ hp0, if_pos (hcc.mp h62), if_neg (by omega)]) (q_le_s (by rw [z_who_s _ _ hp0, if_pos (hcc.mp h62), if_neg (by omega)]) (q_le_s (rfl) (q_le_n (q_le_e _)))))))))) (rfl) (rfl) (ih23 (p + 1) (by omega) (by omega) (by omega))
  exact q_Jle (q_le_s (rfl) (q_le_s (rfl) (q_le_s (rfl) (q_le_s (rfl) (q_le_s (rfl) (q_le_s (rfl) (q_le_s (rfl) (q_le_s (rfl) (q_le_n (q_le_e _)))))))))) (rfl) (rfl) (L23 ((ξ 7 0 : Int).toNat + 1) 0 (by omega) (by omega) (by omega))
def x_tw (ξ : m_S) (a : Nat) (c k : Int) : Int := z_prod (fun i => z_ways (ξ 1000 (ξ (a + 1) (2 * i))) (ξ 1005 (ξ (a + 1) (2 * i))) (ξ 8 0) (ξ 8 1) c (ξ (a + 1) (2 * i + 1))) k
def x_tlf (ξ : m_S) (a : Nat) (k : Int) : Int → Int := fun c => if 0 ≤ c ∧ c < ξ 8 2 then x_tw ξ a c k else ξ 15 c
theorem x_tlf_0 (ξ : m_S) (a : Nat) : q_fl (ξ 15) 0 (ξ 8 2) 1 = x_tlf ξ a 0 := by
  funext c
  unfold q_fl x_tlf
  rw [Int.zero_add]
  rfl
theorem x_tlf_s (ξ : m_S) (a : Nat) {k : Int} (h : 0 ≤ k) : x_wlf (x_tlf ξ a k) ξ (ξ (a + 1) (2 * k)) (ξ (a + 1) (2 * k + 1)) (ξ 8 2) = x_tlf ξ a (k + 1) := by
  funext c
  unfold x_wlf x_tlf
  by_cases hc : 0 ≤ c ∧ c < ξ 8 2
  · rw [if_pos hc, if_pos hc, if_pos hc]
    unfold x_tw
    rw [z_prod_s _ h]
  · rw [if_neg hc, if_neg hc, if_neg hc]
theorem x_tw_r {ξ : m_S} (hW : 1 ≤ ξ 8 0 ∧ ξ 8 0 ≤ 3) (a : Nat) (c : Int) {k : Int} (hk : k ≤ 6) : 0 ≤ x_tw ξ a c k ∧ x_tw ξ a c k ≤ 4294967296 := by
  have h := z_p_b (fun i => z_ways (ξ 1000 (ξ (a + 1) (2 * i))) (ξ 1005 (ξ (a + 1) (2 * i))) (ξ 8 0) (ξ 8 1) c (ξ (a + 1) (2 * i + 1))) (b := 4) (by decide) k.toNat (fun j _ _ => z_ways_r _ _ hW)
  have h2 := z_p4 k.toNat (by omega)
  exact ⟨h.1, Int.le_trans h.2 h2⟩
theorem x_tlf_r {ξ : m_S} (hW : 1 ≤ ξ 8 0 ∧ ξ 8 0 ≤ 3) (a : Nat) {k : Int} (hk : k ≤ 6) {c : Int} (h0 : 0 ≤ c) (h1 : c < ξ 8 2) : 0 ≤ x_tlf ξ a k c ∧ x_tlf ξ a k c ≤ 4294967296 := by
  unfold x_tlf
  rw [if_pos ⟨h0, h1⟩]
  exact x_tw_r hW a c hk
set_option maxRecDepth 20000 in
theorem tX8_weighTold (w : q_W) (ξ : m_S) (B P : Nat) (g : Int → Option Nat) (a : Nat) (hA : x_isR a 40) (n : Int) (hn : 0 ≤ n ∧ n ≤ 6) (hsz : ξ a 1 = 2 * n) (hpr : ∀ k, 0 ≤ k → k < n → (0 ≤ ξ (a + 1) (2 * k) ∧ ξ (a + 1) (2 * k) < ξ 7 0) ∧ 0 ≤ ξ (a + 1) (2 * k + 1) ∧ ξ (a + 1) (2 * k + 1) < ξ 8 2) (hPs : x_Ps ξ B P g) (hTs : ∀ p, 0 ≤ p → p < ξ 7 0 → x_Pt ξ p) (hG : x_G ξ) : q_D mX8_weighTold 3 [.ref 7, .ref a] (x_w w ξ B P g) none (x_w w (m_u ξ 15 (x_tlf ξ a n)) B P g) := by
  refine q_T.of (lv := [some (.ref 7), some (.ref a), none, none]) (by decide) rfl (Nat.le_of_ble_eq_true rfl) ?_
  have hPs1 := hPs.1
  have hPs2 := hPs.2.1
  have hPs3 := hPs.2.2.1
  have hWN := hG.1
  have hW := hG.1.1
  have hN := hG.1.2
  have hS := hG.S
  have ha32 : 32 ≤ a := by unfold x_isR at hA; omega
  refine q_aload_n dX8_weighTold_0 rfl ?_
  refine q_aload_n dX8_weighTold_1 rfl ?_
  refine q_get (v := .ref 15) fX8_35_8 rfl rfl dX8_weighTold_2 ?_
  refine q_lconst 1 dX8_weighTold_5 ?_
  refine q_cVv [.ref 15, q_l 1] kX8_127_8 rfl (tX8_setAll_15 w ξ B P g 1 (show 0 ≤ ξ 8 2 ∧ ξ 8 2 ≤ 216 by omega)) dX8_weighTold_6 rfl (by decide) (Nat.le_of_ble_eq_true rfl) rfl ?_
  refine q_iconst dX8_weighTold_9 ?_
  refine q_istore_n (lv' := [some (.ref 7), some (.ref a), some (q_i 0), none]) dX8_weighTold_10 (by decide) rfl ?_
  have L11 : ∀ (m9 : Nat) (k : Int) (hk0 : 0 ≤ k) (hk1 : k ≤ n) (hm9 : n - k < (m9 : Int)), q_J mX8_weighTold 3 (fun v' w' => v' = none ∧ w' = (x_w w (m_u ξ 15 (x_tlf ξ a n)) B P g)) 0 0 11 [some (.ref 7), some (.ref a), some (q_i (2 * k)), none] [] (x_w w (m_u ξ 15 (x_tlf ξ a k)) B P g) := by
    intro m9
    induction m9 with
    | zero => intro k hk0 hk1 hm9; exact absurd hm9 (by omega)
    | succ m9 ih11 =>
      intro k hk0 hk1 hm9
      refine q_iload_n dX8_weighTold_11 rfl ?_
      refine q_iconst dX8_weighTold_12 ?_
      refine q_iadd dX8_weighTold_13 ?_
      refine q_aload_n dX8_weighTold_14 rfl ?_
      refine q_get (v := q_i ((m_u ξ 15 (x_tlf ξ a k)) a 1)) fX8_217_7 (x_rO hA) rfl dX8_weighTold_15 ?_
      rw [m_un (show a ≠ 15 by omega), hsz]
      refine q_icmp_ge (tgt := 59) dX8_weighTold_18 (by decide) ⟨by omega, by omega⟩ ⟨by omega, by omega⟩ (fun h18 => ?_) (fun h18 => ?_)
      · skip
        exact q_vret rfl dX8_weighTold_59 (⟨rfl, by rw [show k = n by omega]⟩)
      · skip
        have hpk := hpr k hk0 (by omega)
        refine q_aload_n dX8_weighTold_21 rfl ?_
        refine q_aload_n dX8_weighTold_22 rfl ?_
        refine q_get (v := .ref (a + 1)) fX8_220_7 (x_rO hA) rfl dX8_weighTold_23 ?_
        refine q_iload_n dX8_weighTold_26 rfl ?_
        refine q_iald (f := ((m_u ξ 15 (x_tlf ξ a k)) (a + 1))) (n9 := 40) (x_rP hA) (by omega) (by omega) dX8_weighTold_27 ?_ (by rcases (hA).n with q | q <;> omega)
        rw [m_un (show a + 1 ≠ 15 by omega)]
        show q_J _ _ _ _ _ _ _ [q_i (ξ (a + 1) (2 * k)), .ref 7] _
        refine q_cV [q_i (ξ (a + 1) (2 * k))] kX8_109_8 rfl (tX8_personAt_y w (m_u ξ 15 (x_tlf ξ a k)) B P g (ξ (a + 1) (2 * k)) (show (0 : Int) ≤ (ξ (a + 1) (2 * k)) by omega) (show (ξ (a + 1) (2 * k)) < ξ 7 0 by omega) hPs) dX8_weighTold_28 rfl (by decide) (Nat.le_of_ble_eq_true rfl) rfl ?_
        refine q_astore_n (lv' := [some (.ref 7), some (.ref a), some (q_i (2 * k)), some (.ref (B + (ξ (a + 1) (2 * k)).toNat))]) dX8_weighTold_31 (by decide) rfl ?_
        refine q_aload_n dX8_weighTold_32 rfl ?_
        refine q_ifnullS dX8_weighTold_33 ?_
        refine q_aload_n dX8_weighTold_36 rfl ?_
        refine q_aload_n dX8_weighTold_37 rfl ?_
        refine q_get (v := .ref 15) fX8_35_8 rfl rfl dX8_weighTold_38 ?_
        refine q_aload_n dX8_weighTold_41 rfl ?_
        refine q_aload_n dX8_weighTold_42 rfl ?_
        refine q_get (v := .ref (a + 1)) fX8_220_7 (x_rO hA) rfl dX8_weighTold_43 ?_
        refine q_iload_n dX8_weighTold_46 rfl ?_
        refine q_iconst dX8_weighTold_47 ?_
        refine q_iadd dX8_weighTold_48 ?_
        refine q_iald (f := ((m_u ξ 15 (x_tlf ξ a k)) (a + 1))) (n9 := 40) (x_rP hA) (by omega) (by omega) dX8_weighTold_49 ?_ (by rcases (hA).n with q | q <;> omega)
        rw [m_un (show a + 1 ≠ 15 by omega)]
        show q_J _ _ _ _ _ _ _ [q_i (ξ (a + 1) (2 * k + 1)), .ref (B + (ξ (a + 1) (2 * k)).toNat), .ref 15, .ref 7] _
        refine q_cVv [.ref 15, .ref (B + (ξ (a + 1) (2 * k)).toNat), q_i (ξ (a + 1) (2 * k + 1))] kX8_136_8 rfl (tX8_weighLook_15 w (m_u ξ 15 (x_tlf ξ a k)) B P g (ξ (a + 1) (2 * k)) (ξ (a + 1) (2 * k + 1)) hpk.1.1 hpk.1.2 hPs ((hTs _ hpk.1.1 hpk.1.2).u (by omega) (by decide) _) hG hpk.2.1 hpk.2.2 (fun c h0 h1 => by have q := x_tlf_r hW a (k := k) (by omega) h0 h1; show 0 ≤ x_tlf ξ a k c ∧ x_tlf ξ a k c ≤ _; omega)) dX8_weighTold_50 rfl (by decide) (Nat.le_of_ble_eq_true rfl) rfl ?_
        show q_J _ _ _ _ _ _ _ [] (x_w w (m_u (m_u ξ 15 (x_tlf ξ a k)) 15 (x_wlf (x_tlf ξ a k) ξ (ξ (a + 1) (2 * k)) (ξ (a + 1) (2 * k + 1)) (ξ 8 2))) B P g)
        refine q_iinc (lv' := [some (.ref 7), some (.ref a), some (q_i ((2 * k) + 2)), some (.ref (B + (ξ (a + 1) (2 * k)).toNat))]) dX8_weighTold_53 rfl (by decide) rfl ?_
        refine q_goto (tgt := 11) dX8_weighTold_56 (by decide) ?_
        exact q_Jle (q_le_s (rfl) (q_le_s (rfl) (q_le_s (by rw [show 2 * k + 2 = 2 * (k + 1) by omega]) (q_le_n (q_le_e _))))) (rfl) (by rw [m_uu, x_tlf_s _ _ hk0]) (ih11 (k + 1) (by omega) (by omega) (by omega))
  exact q_Jle (q_le_s (rfl) (q_le_s (rfl) (q_le_s (rfl) (q_le_n (q_le_e _))))) (rfl) (by rw [x_tlf_0 ξ a]) (L11 ((n : Int).toNat + 1) 0 (by omega) (by omega) (by omega))
set_option maxRecDepth 20000 in
theorem tX8_waysOfTold (w : q_W) (ξ : m_S) (B P : Nat) (g : Int → Option Nat) (a : Nat) (hA : x_isR a 40) (n : Int) (hn : 0 ≤ n ∧ n ≤ 6) (hsz : ξ a 1 = 2 * n) (hpr : ∀ k, 0 ≤ k → k < n → (0 ≤ ξ (a + 1) (2 * k) ∧ ξ (a + 1) (2 * k) < ξ 7 0) ∧ 0 ≤ ξ (a + 1) (2 * k + 1) ∧ ξ (a + 1) (2 * k + 1) < ξ 8 2) (hPs : x_Ps ξ B P g) (hTs : ∀ p, 0 ≤ p → p < ξ 7 0 → x_Pt ξ p) (hG : x_G ξ) : q_D mX8_waysOfTold 1 [.ref 7, .ref a] (x_w w ξ B P g) (some (q_l (ξ 8 2 * z_prod (fun i => ξ 1004 (ξ (a + 1) (2 * i))) n))) (x_w w ξ B P g) := by
  refine q_T.of (lv := [some (.ref 7), some (.ref a), none, none, none, none]) (by decide) rfl (Nat.le_of_ble_eq_true rfl) ?_
  have hPs1 := hPs.1
  have hPs2 := hPs.2.1
  have hPs3 := hPs.2.2.1
  have hWN := hG.1
  have hW := hG.1.1
  have hN := hG.1.2
  have hS := hG.S
  have ha32 : 32 ≤ a := by unfold x_isR at hA; omega
  refine q_aload_n dX8_waysOfTold_0 rfl ?_
  refine q_get (v := .ref 8) fX8_18_8 rfl rfl dX8_waysOfTold_1 ?_
  refine q_get (v := q_i (ξ 8 2)) fX8_144_10 rfl rfl dX8_waysOfTold_4 ?_
  refine q_i2lr dX8_waysOfTold_7 ⟨by omega, by omega⟩ ?_
  refine q_lstore_n (lv' := [some (.ref 7), some (.ref a), some (q_l (ξ 8 2)), none, none, none]) dX8_waysOfTold_8 (by decide) rfl ?_
  refine q_iconst dX8_waysOfTold_9 ?_
  refine q_istore (lv' := [some (.ref 7), some (.ref a), some (q_l (ξ 8 2)), none, some (q_i 0), none]) dX8_waysOfTold_10 (by decide) rfl ?_
  have L12 : ∀ (m9 : Nat) (k : Int) (hk0 : 0 ≤ k) (hk1 : k ≤ n) (hm9 : n - k < (m9 : Int)), q_J mX8_waysOfTold 1 (fun v' w' => v' = (some (q_l (ξ 8 2 * z_prod (fun i => ξ 1004 (ξ (a + 1) (2 * i))) n))) ∧ w' = (x_w w ξ B P g)) 0 0 12 [some (.ref 7), some (.ref a), some (q_l (ξ 8 2 * z_prod (fun i => ξ 1004 (ξ (a + 1) (2 * i))) k)), none, some (q_i (2 * k)), none] [] (x_w w ξ B P g) := by
    intro m9
    induction m9 with
    | zero => intro k hk0 hk1 hm9; exact absurd hm9 (by omega)
    | succ m9 ih12 =>
      intro k hk0 hk1 hm9
      refine q_iload dX8_waysOfTold_12 rfl ?_
      refine q_iconst dX8_waysOfTold_14 ?_
      refine q_iadd dX8_waysOfTold_15 ?_
      refine q_aload_n dX8_waysOfTold_16 rfl ?_
      refine q_get (v := q_i (ξ a 1)) fX8_217_7 (x_rO hA) rfl dX8_waysOfTold_17 ?_
      rw [hsz]
      refine q_icmp_ge (tgt := 60) dX8_waysOfTold_20 (by decide) ⟨by omega, by omega⟩ ⟨by omega, by omega⟩ (fun h20 => ?_) (fun h20 => ?_)
      · skip
        refine q_lload_n dX8_waysOfTold_60 rfl ?_
        exact q_lret rfl dX8_waysOfTold_61 (⟨by rw [show k = n by omega], rfl⟩)
      · skip
        have hpk := hpr k hk0 (by omega)
        have hin := x_in_r hG (hTs _ hpk.1.1 hpk.1.2)
        refine q_aload_n dX8_waysOfTold_23 rfl ?_
        refine q_aload_n dX8_waysOfTold_24 rfl ?_
        refine q_get (v := .ref (a + 1)) fX8_220_7 (x_rO hA) rfl dX8_waysOfTold_25 ?_
        refine q_iload dX8_waysOfTold_28 rfl ?_
        refine q_iald (f := (ξ (a + 1))) (n9 := 40) (x_rP hA) (by omega) (by omega) dX8_waysOfTold_30 ?_ (by rcases (hA).n with q | q <;> omega)
        show q_J _ _ _ _ _ _ _ [q_i (ξ (a + 1) (2 * k)), .ref 7] _
        refine q_cV [q_i (ξ (a + 1) (2 * k))] kX8_109_8 rfl (tX8_personAt_y w ξ B P g (ξ (a + 1) (2 * k)) (show (0 : Int) ≤ (ξ (a + 1) (2 * k)) by omega) (show (ξ (a + 1) (2 * k)) < ξ 7 0 by omega) hPs) dX8_waysOfTold_31 rfl (by decide) (Nat.le_of_ble_eq_true rfl) rfl ?_
        refine q_astore (lv' := [some (.ref 7), some (.ref a), some (q_l (ξ 8 2 * z_prod (fun i => ξ 1004 (ξ (a + 1) (2 * i))) k)), none, some (q_i (2 * k)), some (.ref (B + (ξ (a + 1) (2 * k)).toNat))]) dX8_waysOfTold_34 (by decide) rfl ?_
        refine q_lload_n dX8_waysOfTold_36 rfl ?_
        refine q_aload dX8_waysOfTold_37 rfl ?_
        refine q_ifnonnullS (tgt := 46) dX8_waysOfTold_39 (by decide) ?_
        refine q_aload dX8_waysOfTold_46 rfl ?_
        refine q_get (v := q_i (ξ 1004 (ξ (a + 1) (2 * k)))) (fPX8_214 _) (x_pOi (p := (ξ (a + 1) (2 * k))) (by omega) (by omega) (by omega)) rfl dX8_waysOfTold_48 ?_
        refine q_i2lr dX8_waysOfTold_51 ⟨by omega, by omega⟩ ?_
        refine q_lmul dX8_waysOfTold_52 ?_
        refine q_lstore_n (lv' := [some (.ref 7), some (.ref a), some (q_l ((ξ 8 2 * z_prod (fun i => ξ 1004 (ξ (a + 1) (2 * i))) k) * (ξ 1004 (ξ (a + 1) (2 * k))))), none, some (q_i (2 * k)), some (.ref (B + (ξ (a + 1) (2 * k)).toNat))]) dX8_waysOfTold_53 (by decide) rfl ?_
        refine q_iinc (lv' := [some (.ref 7), some (.ref a), some (q_l ((ξ 8 2 * z_prod (fun i => ξ 1004 (ξ (a + 1) (2 * i))) k) * (ξ 1004 (ξ (a + 1) (2 * k))))), none, some (q_i ((2 * k) + 2)), some (.ref (B + (ξ (a + 1) (2 * k)).toNat))]) dX8_waysOfTold_54 rfl (by decide) rfl ?_
        refine q_goto (tgt := 12) dX8_waysOfTold_57 (by decide) ?_
        exact q_Jle (q_le_s (rfl) (q_le_s (rfl) (q_le_s (by rw [z_prod_s _ hk0, Int.mul_assoc]) (q_le_n (q_le_s (by rw [show 2 * k + 2 = 2 * (k + 1) by omega]) (q_le_n (q_le_e _))))))) (rfl) (rfl) (ih12 (k + 1) (by omega) (by omega) (by omega))
  exact q_Jle (q_le_s (rfl) (q_le_s (rfl) (q_le_s (by rw [z_prod_0, Int.mul_one]) (q_le_n (q_le_s (rfl) (q_le_n (q_le_e _))))))) (rfl) (rfl) (L12 ((n : Int).toNat + 1) 0 (by omega) (by omega) (by omega))
