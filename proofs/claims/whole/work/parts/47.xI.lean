/-! the class: who is there, what was done, weights -/
def x_Ps (ξ : m_S) (B P : Nat) (g : Int → Option Nat) : Prop := 76 ≤ B ∧ ξ 7 0 = P ∧ P ≤ 5 ∧ ∀ p : Int, 0 ≤ p → p < P → g p = some (B + p.toNat)
def x_fp (ξ : m_S) (p : Int) : Int → Int := fun t => z_ways (ξ 1000 p) (ξ 1005 p) (ξ 8 0) (ξ 8 1) 0 t
/-- person p's tables -/
def x_Pt (ξ : m_S) (p : Int) : Prop := (0 ≤ ξ 1000 p ∧ ξ 1000 p ≤ 5) ∧ (1 ≤ ξ 1005 p ∧ ξ 1005 p ≤ 3) ∧ (∀ t, 0 ≤ t → t < ξ 8 2 → ξ (26 + p.toNat) t = x_fp ξ p t) ∧ ξ 1003 p = z_pos (x_fp ξ p) (ξ 8 2) ∧ ξ 1004 p = z_sum (x_fp ξ p) (ξ 8 2) ∧ ∀ i, 0 ≤ i → i < ξ 1003 p → ξ (20 + p.toNat) i = z_tl (x_fp ξ p) (fun _ => 0) (ξ 8 2) i
theorem x_Pt.tm {ξ : m_S} {p : Int} (h : x_Pt ξ p) (hG : x_G ξ) {c s : Int} (hc : 0 ≤ c) (hs : 0 ≤ s) : ξ (26 + p.toNat) (z_tn (ξ 8 0) (ξ 8 1) c s) = z_ways (ξ 1000 p) (ξ 1005 p) (ξ 8 0) (ξ 8 1) c s := by
  have hr := z_tn_r hG.1 hc hs
  rw [h.2.2.1 _ hr.1 (by rw [hG.2.1]; exact hr.2), z_ways_tn hG.1 _ _ hc hs]
  rfl
def x_poi (ξ : m_S) (p : Int) : List Value := [.ref 8, .ref (20 + p.toNat), .ref (26 + p.toNat), q_i (ξ 1003 p), q_i (ξ 1004 p), q_i (ξ 1005 p)]
theorem x_pOi {w : q_W} {ξ : m_S} {B P : Nat} {g : Int → Option Nat} {p : Int} (hB : 64 ≤ B) (h0 : 0 ≤ p) (h : p < P) : x_w w ξ B P g (B + p.toNat) = some (q_ob (x_cl (ξ 1000 p)) (x_poi ξ p)) := by
  have e : ((p.toNat : Nat) : Int) = p := Int.toNat_of_nonneg h0
  have := x_pO (w := w) (ξ := ξ) (g := g) (p := p.toNat) hB (show p.toNat < P by omega)
  rw [this]
  unfold x_po x_poi
  rw [e]
theorem x_rows_e {i : Int} (h0 : 0 ≤ i) (h1 : i < 6) : x_rows i = some (32 + 2 * i.toNat) := if_pos ⟨h0, h1⟩
theorem x_texts_e {i : Int} (h0 : 0 ≤ i) (h1 : i < 4) : x_texts i = some (44 + 2 * i.toNat) := if_pos ⟨h0, h1⟩
theorem x_kept_e {i : Int} (h0 : 0 ≤ i) (h1 : i < 3) : x_kept i = some (52 + 4 * i.toNat) := if_pos ⟨h0, h1⟩
theorem x_arr_e {b : Nat} {i : Int} (h0 : 0 ≤ i) (h1 : i < 5) : x_arr b i = some (b + i.toNat) := if_pos ⟨h0, h1⟩
set_option maxRecDepth 20000 in
theorem tX8_personAt_y (w : q_W) (ξ : m_S) (B P : Nat) (g : Int → Option Nat) (p : Int) (hp0 : 0 ≤ p) (hp1 : p < ξ 7 0) (hPs : x_Ps ξ B P g) : q_D mX8_personAt 0 [.ref 7, q_i p] (x_w w ξ B P g) (some (.ref (B + p.toNat))) (x_w w ξ B P g) := by
  refine q_T.of (lv := [some (.ref 7), some (q_i p)]) (by decide) rfl (Nat.le_of_ble_eq_true rfl) ?_
  have hPs1 := hPs.1
  have hPs2 := hPs.2.1
  have hPs3 := hPs.2.2.1
  refine q_iload_n dX8_personAt_0 rfl ?_
  refine q_if_lt (tgt := 12) dX8_personAt_1 (by decide) ⟨by omega, by omega⟩ (fun h1 => False.elim (by omega)) (fun h1 => ?_)
  refine q_iload_n dX8_personAt_4 rfl ?_
  refine q_aload_n dX8_personAt_5 rfl ?_
  refine q_get (v := q_i (ξ 7 0)) fX8_9_8 rfl rfl dX8_personAt_6 ?_
  refine q_icmp_lt (tgt := 16) dX8_personAt_9 (by decide) ⟨by omega, by omega⟩ ⟨by omega, by omega⟩ (fun h9 => ?_) (fun h9 => False.elim (by omega))
  refine q_aload_n dX8_personAt_16 rfl ?_
  refine q_get (v := .ref 18) fX8_47_8 rfl rfl dX8_personAt_17 ?_
  refine q_iload_n dX8_personAt_20 rfl ?_
  refine q_aald rfl (by decide) (by omega) (by omega) dX8_personAt_21 ?_
  rw [hPs.2.2.2 p (by omega) (by omega)]
  show q_J _ _ _ _ _ _ _ (.ref (B + p.toNat) :: _) _
  exact q_aret (o := some (B + p.toNat)) rfl dX8_personAt_22 (⟨rfl, rfl⟩)
set_option maxRecDepth 20000 in
theorem tX8_personAt_n (w : q_W) (ξ : m_S) (B P : Nat) (g : Int → Option Nat) (p : Int) (hp : q_r p) (hn : ¬ (0 ≤ p ∧ p < ξ 7 0)) (hPs : x_Ps ξ B P g) : q_D mX8_personAt 0 [.ref 7, q_i p] (x_w w ξ B P g) (some (.null)) (x_w w ξ B P g) := by
  refine q_T.of (lv := [some (.ref 7), some (q_i p)]) (by decide) rfl (Nat.le_of_ble_eq_true rfl) ?_
  have hPs1 := hPs.1
  have hPs2 := hPs.2.1
  have hPs3 := hPs.2.2.1
  refine q_iload_n dX8_personAt_0 rfl ?_
  refine q_if_lt (tgt := 12) dX8_personAt_1 (by decide) hp (fun h1 => ?_) (fun h1 => ?_)
  · skip
    refine q_null dX8_personAt_12 ?_
    refine q_goto (tgt := 22) dX8_personAt_13 (by decide) ?_
    exact q_aret (o := none) rfl dX8_personAt_22 (⟨rfl, rfl⟩)
  · skip
    refine q_iload_n dX8_personAt_4 rfl ?_
    refine q_aload_n dX8_personAt_5 rfl ?_
    refine q_get (v := q_i (ξ 7 0)) fX8_9_8 rfl rfl dX8_personAt_6 ?_
    refine q_icmp_lt (tgt := 16) dX8_personAt_9 (by decide) hp ⟨by omega, by omega⟩ (fun h9 => False.elim (by omega)) (fun h9 => ?_)
    refine q_null dX8_personAt_12 ?_
    refine q_goto (tgt := 22) dX8_personAt_13 (by decide) ?_
    exact q_aret (o := none) rfl dX8_personAt_22 (⟨rfl, rfl⟩)
def x_wlf (f : Int → Int) (ξ : m_S) (p s n : Int) : Int → Int := fun j => if 0 ≤ j ∧ j < n then f j * z_ways (ξ 1000 p) (ξ 1005 p) (ξ 8 0) (ξ 8 1) j s else f j
theorem x_wlf_0 (f : Int → Int) (ξ : m_S) (p s : Int) : x_wlf f ξ p s 0 = f := by
  funext j
  unfold x_wlf
  rw [if_neg (by omega)]
theorem x_wlf_s {f : Int → Int} {ξ : m_S} {p s k x : Int} (h0 : 0 ≤ k) (hx : x = f k * z_ways (ξ 1000 p) (ξ 1005 p) (ξ 8 0) (ξ 8 1) k s) : q_us (x_wlf f ξ p s k) k x = x_wlf f ξ p s (k + 1) := by
  funext j
  unfold q_us x_wlf
  by_cases e : j = k
  · rw [if_pos e, if_pos (by omega), e, hx]
  · rw [if_neg e]
    by_cases h2 : 0 ≤ j ∧ j < k
    · rw [if_pos h2, if_pos (by omega)]
    · rw [if_neg h2, if_neg (by omega)]
theorem x_wlf_n {f : Int → Int} {ξ : m_S} {p s k : Int} (h0 : 0 ≤ k) (hx : f k = 0) : x_wlf f ξ p s k = x_wlf f ξ p s (k + 1) := by
  funext j
  unfold x_wlf
  by_cases e : j = k
  · rw [if_neg (by omega), if_pos (by omega), e, hx, Int.zero_mul]
  · by_cases h2 : 0 ≤ j ∧ j < k
    · rw [if_pos h2, if_pos (by omega)]
    · rw [if_neg h2, if_neg (by omega)]
theorem x_wlf_k {f : Int → Int} {ξ : m_S} {p s k : Int} : x_wlf f ξ p s k k = f k := by
  unfold x_wlf
  rw [if_neg (by omega)]
set_option maxRecDepth 20000 in
theorem tX8_weighLook_14 (w : q_W) (ξ : m_S) (B P : Nat) (g : Int → Option Nat) (p s : Int) (hp0 : 0 ≤ p) (hp1 : p < ξ 7 0) (hPs : x_Ps ξ B P g) (hT : x_Pt ξ p) (hG : x_G ξ) (hs0 : 0 ≤ s) (hs1 : s < ξ 8 2) (hV : ∀ c, 0 ≤ c → c < ξ 8 2 → 0 ≤ ξ 14 c ∧ ξ 14 c ≤ 9000000000000000000) : q_D mX8_weighLook 2 [.ref 7, .ref 14, .ref (B + p.toNat), q_i s] (x_w w ξ B P g) none (x_w w (m_u ξ 14 (x_wlf (ξ 14) ξ p s (ξ 8 2))) B P g) := by
  refine q_T.of (lv := [some (.ref 7), some (.ref 14), some (.ref (B + p.toNat)), some (q_i s), none]) (by decide) rfl (Nat.le_of_ble_eq_true rfl) ?_
  have hPs1 := hPs.1
  have hPs2 := hPs.2.1
  have hPs3 := hPs.2.2.1
  have hWN := hG.1
  have hW := hG.1.1
  have hN := hG.1.2
  have hS := hG.S
  refine q_iconst dX8_weighLook_0 ?_
  refine q_istore (lv' := [some (.ref 7), some (.ref 14), some (.ref (B + p.toNat)), some (q_i s), some (q_i 0)]) dX8_weighLook_1 (by decide) rfl ?_
  have L3 : ∀ (m9 : Nat) (k : Int) (hk0 : 0 ≤ k) (hk1 : k ≤ ξ 8 2) (hm9 : ξ 8 2 - k < (m9 : Int)), q_J mX8_weighLook 2 (fun v' w' => v' = none ∧ w' = (x_w w (m_u ξ 14 (x_wlf (ξ 14) ξ p s (ξ 8 2))) B P g)) 0 0 3 [some (.ref 7), some (.ref 14), some (.ref (B + p.toNat)), some (q_i s), some (q_i k)] [] (x_w w (m_u ξ 14 (x_wlf (ξ 14) ξ p s k)) B P g) := by
    intro m9
    induction m9 with
    | zero => intro k hk0 hk1 hm9; exact absurd hm9 (by omega)
    | succ m9 ih3 =>
      intro k hk0 hk1 hm9
      refine q_iload dX8_weighLook_3 rfl ?_
      refine q_aload_n dX8_weighLook_5 rfl ?_
      refine q_get (v := .ref 8) fX8_18_8 rfl rfl dX8_weighLook_6 ?_
      refine q_get (v := q_i (ξ 8 2)) fX8_144_10 rfl rfl dX8_weighLook_9 ?_
      refine q_icmp_ge (tgt := 52) dX8_weighLook_12 (by decide) ⟨by omega, by omega⟩ ⟨by omega, by omega⟩ (fun h12 => ?_) (fun h12 => ?_)
      · skip
        exact q_vret rfl dX8_weighLook_52 (⟨rfl, by rw [show k = ξ 8 2 by omega]⟩)
      · skip
        refine q_aload_n dX8_weighLook_15 rfl ?_
        refine q_iload dX8_weighLook_16 rfl ?_
        refine q_lald (f := (x_wlf (ξ 14) ξ p s k)) (n9 := 216) rfl (by omega) (by omega) dX8_weighLook_18 ?_
        rw [x_wlf_k]
        refine q_lconst 0 dX8_weighLook_19 ?_
        refine q_lcmp_eq (tgt := 46) dX8_weighLook_20 dX8_weighLook_21 (by decide) ⟨by have := hV k hk0 (by omega); omega, by have := hV k hk0 (by omega); omega⟩ ⟨by decide, by decide⟩ (fun h20 => ?_) (fun h20 => ?_)
        · skip
          refine q_iinc (lv' := [some (.ref 7), some (.ref 14), some (.ref (B + p.toNat)), some (q_i s), some (q_i (k + 1))]) dX8_weighLook_46 rfl (by decide) rfl ?_
          refine q_goto (tgt := 3) dX8_weighLook_49 (by decide) ?_
          exact q_Jle (q_le_s (rfl) (q_le_s (rfl) (q_le_s (rfl) (q_le_s (rfl) (q_le_s (rfl) (q_le_e _)))))) (rfl) (by rw [x_wlf_n hk0 h20]) (ih3 (k + 1) (by omega) (by omega) (by omega))
        · skip
          have htr := z_tn_r hWN hk0 hs0
          refine q_aload_n dX8_weighLook_24 rfl ?_
          refine q_iload dX8_weighLook_25 rfl ?_
          refine q_dup2 dX8_weighLook_27 rfl rfl ?_
          refine q_lald (f := (x_wlf (ξ 14) ξ p s k)) (n9 := 216) rfl (by omega) (by omega) dX8_weighLook_28 ?_
          rw [x_wlf_k]
          refine q_aload_n dX8_weighLook_29 rfl ?_
          refine q_aload_n dX8_weighLook_30 rfl ?_
          refine q_get (v := .ref 8) fX8_18_8 rfl rfl dX8_weighLook_31 ?_
          refine q_iload dX8_weighLook_34 rfl ?_
          refine q_iload_n dX8_weighLook_36 rfl ?_
          refine q_cV [q_i k, q_i s] kX8_146_10 rfl (tX10_turnBetween w (m_u ξ 14 (x_wlf (ξ 14) ξ p s k)) B P g k s (show (0 : Int) ≤ k by omega) (show k < ξ 8 2 by omega) (show (0 : Int) ≤ s by omega) (show s < ξ 8 2 by omega) hG) dX8_weighLook_37 rfl (by decide) (Nat.le_of_ble_eq_true rfl) rfl ?_
          show q_J _ _ _ _ _ _ _ [q_i (z_tn (ξ 8 0) (ξ 8 1) k s), .ref (B + p.toNat), q_l (ξ 14 k), q_i k, .ref 14] (x_w w (m_u ξ 14 (x_wlf (ξ 14) ξ p s k)) B P g)
          refine q_cP [q_i (z_tn (ξ 8 0) (ξ 8 1) k s)] (kPX8_150 _) (x_pOi (p := p) (by omega) (by omega) (by omega)) (Eq.mp (congrArg (fun z => q_D mX5_timesOf 1 [.ref (B + p.toNat), q_i (z_tn (ξ 8 0) (ξ 8 1) k s)] (x_w w (m_u ξ 14 (x_wlf (ξ 14) ξ p s k)) B P g) (some (q_i z)) (x_w w (m_u ξ 14 (x_wlf (ξ 14) ξ p s k)) B P g)) (show (m_u ξ 14 (x_wlf (ξ 14) ξ p s k)) (26 + p.toNat) (z_tn (ξ 8 0) (ξ 8 1) k s) = z_ways (ξ 1000 p) (ξ 1005 p) (ξ 8 0) (ξ 8 1) k s by rw [m_un (by omega)]; exact hT.tm hG hk0 hs0)) (tX5_timesOf w (m_u ξ 14 (x_wlf (ξ 14) ξ p s k)) B P g p.toNat (by omega) (by omega) (by omega) (z_tn (ξ 8 0) (ξ 8 1) k s) htr.1 (by show _ < ξ 8 2; rw [hG.2.1]; exact htr.2) hS.2)) dX8_weighLook_40 rfl (by decide) (Nat.le_of_ble_eq_true rfl) rfl ?_
          refine q_i2lr dX8_weighLook_43 ⟨by have := z_ways_r (k := ξ 1000 p) (f := ξ 1005 p) (N := ξ 8 1) k s hW; omega, by have := z_ways_r (k := ξ 1000 p) (f := ξ 1005 p) (N := ξ 8 1) k s hW; omega⟩ ?_
          refine q_lmul dX8_weighLook_44 ?_
          refine q_last (f := (x_wlf (ξ 14) ξ p s k)) (n9 := 216) rfl (by omega) (by omega) dX8_weighLook_45 ?_
          refine q_Jeq rfl rfl (x_up (f := (q_us (x_wlf (ξ 14) ξ p s k) k ((ξ 14 k) * (z_ways (ξ 1000 p) (ξ 1005 p) (ξ 8 0) (ξ 8 1) k s)))) rfl) ?_
          refine q_iinc (lv' := [some (.ref 7), some (.ref 14), some (.ref (B + p.toNat)), some (q_i s), some (q_i (k + 1))]) dX8_weighLook_46 rfl (by decide) rfl ?_
          refine q_goto (tgt := 3) dX8_weighLook_49 (by decide) ?_
          exact q_Jle (q_le_s (rfl) (q_le_s (rfl) (q_le_s (rfl) (q_le_s (rfl) (q_le_s (rfl) (q_le_e _)))))) (rfl) (by rw [m_uu, x_wlf_s hk0 rfl]) (ih3 (k + 1) (by omega) (by omega) (by omega))
  exact q_Jle (q_le_s (rfl) (q_le_s (rfl) (q_le_s (rfl) (q_le_s (rfl) (q_le_s (rfl) (q_le_e _)))))) (rfl) (by rw [x_wlf_0, m_uid]) (L3 ((ξ 8 2 : Int).toNat + 1) 0 (by omega) (by omega) (by omega))
set_option maxRecDepth 20000 in
theorem tX8_weighLook_15 (w : q_W) (ξ : m_S) (B P : Nat) (g : Int → Option Nat) (p s : Int) (hp0 : 0 ≤ p) (hp1 : p < ξ 7 0) (hPs : x_Ps ξ B P g) (hT : x_Pt ξ p) (hG : x_G ξ) (hs0 : 0 ≤ s) (hs1 : s < ξ 8 2) (hV : ∀ c, 0 ≤ c → c < ξ 8 2 → 0 ≤ ξ 15 c ∧ ξ 15 c ≤ 9000000000000000000) : q_D mX8_weighLook 2 [.ref 7, .ref 15, .ref (B + p.toNat), q_i s] (x_w w ξ B P g) none (x_w w (m_u ξ 15 (x_wlf (ξ 15) ξ p s (ξ 8 2))) B P g) := by
  refine q_T.of (lv := [some (.ref 7), some (.ref 15), some (.ref (B + p.toNat)), some (q_i s), none]) (by decide) rfl (Nat.le_of_ble_eq_true rfl) ?_
  have hPs1 := hPs.1
  have hPs2 := hPs.2.1
  have hPs3 := hPs.2.2.1
  have hWN := hG.1
  have hW := hG.1.1
  have hN := hG.1.2
  have hS := hG.S
  refine q_iconst dX8_weighLook_0 ?_
  refine q_istore (lv' := [some (.ref 7), some (.ref 15), some (.ref (B + p.toNat)), some (q_i s), some (q_i 0)]) dX8_weighLook_1 (by decide) rfl ?_
  have L3 : ∀ (m9 : Nat) (k : Int) (hk0 : 0 ≤ k) (hk1 : k ≤ ξ 8 2) (hm9 : ξ 8 2 - k < (m9 : Int)), q_J mX8_weighLook 2 (fun v' w' => v' = none ∧ w' = (x_w w (m_u ξ 15 (x_wlf (ξ 15) ξ p s (ξ 8 2))) B P g)) 0 0 3 [some (.ref 7), some (.ref 15), some (.ref (B + p.toNat)), some (q_i s), some (q_i k)] [] (x_w w (m_u ξ 15 (x_wlf (ξ 15) ξ p s k)) B P g) := by
    intro m9
    induction m9 with
    | zero => intro k hk0 hk1 hm9; exact absurd hm9 (by omega)
    | succ m9 ih3 =>
      intro k hk0 hk1 hm9
      refine q_iload dX8_weighLook_3 rfl ?_
      refine q_aload_n dX8_weighLook_5 rfl ?_
      refine q_get (v := .ref 8) fX8_18_8 rfl rfl dX8_weighLook_6 ?_
      refine q_get (v := q_i (ξ 8 2)) fX8_144_10 rfl rfl dX8_weighLook_9 ?_
      refine q_icmp_ge (tgt := 52) dX8_weighLook_12 (by decide) ⟨by omega, by omega⟩ ⟨by omega, by omega⟩ (fun h12 => ?_) (fun h12 => ?_)
      · skip
        exact q_vret rfl dX8_weighLook_52 (⟨rfl, by rw [show k = ξ 8 2 by omega]⟩)
      · skip
        refine q_aload_n dX8_weighLook_15 rfl ?_
        refine q_iload dX8_weighLook_16 rfl ?_
        refine q_lald (f := (x_wlf (ξ 15) ξ p s k)) (n9 := 216) rfl (by omega) (by omega) dX8_weighLook_18 ?_
        rw [x_wlf_k]
        refine q_lconst 0 dX8_weighLook_19 ?_
        refine q_lcmp_eq (tgt := 46) dX8_weighLook_20 dX8_weighLook_21 (by decide) ⟨by have := hV k hk0 (by omega); omega, by have := hV k hk0 (by omega); omega⟩ ⟨by decide, by decide⟩ (fun h20 => ?_) (fun h20 => ?_)
        · skip
          refine q_iinc (lv' := [some (.ref 7), some (.ref 15), some (.ref (B + p.toNat)), some (q_i s), some (q_i (k + 1))]) dX8_weighLook_46 rfl (by decide) rfl ?_
          refine q_goto (tgt := 3) dX8_weighLook_49 (by decide) ?_
          exact q_Jle (q_le_s (rfl) (q_le_s (rfl) (q_le_s (rfl) (q_le_s (rfl) (q_le_s (rfl) (q_le_e _)))))) (rfl) (by rw [x_wlf_n hk0 h20]) (ih3 (k + 1) (by omega) (by omega) (by omega))
        · skip
          have htr := z_tn_r hWN hk0 hs0
          refine q_aload_n dX8_weighLook_24 rfl ?_
          refine q_iload dX8_weighLook_25 rfl ?_
          refine q_dup2 dX8_weighLook_27 rfl rfl ?_
          refine q_lald (f := (x_wlf (ξ 15) ξ p s k)) (n9 := 216) rfl (by omega) (by omega) dX8_weighLook_28 ?_
          rw [x_wlf_k]
          refine q_aload_n dX8_weighLook_29 rfl ?_
          refine q_aload_n dX8_weighLook_30 rfl ?_
          refine q_get (v := .ref 8) fX8_18_8 rfl rfl dX8_weighLook_31 ?_
          refine q_iload dX8_weighLook_34 rfl ?_
          refine q_iload_n dX8_weighLook_36 rfl ?_
          refine q_cV [q_i k, q_i s] kX8_146_10 rfl (tX10_turnBetween w (m_u ξ 15 (x_wlf (ξ 15) ξ p s k)) B P g k s (show (0 : Int) ≤ k by omega) (show k < ξ 8 2 by omega) (show (0 : Int) ≤ s by omega) (show s < ξ 8 2 by omega) hG) dX8_weighLook_37 rfl (by decide) (Nat.le_of_ble_eq_true rfl) rfl ?_
          show q_J _ _ _ _ _ _ _ [q_i (z_tn (ξ 8 0) (ξ 8 1) k s), .ref (B + p.toNat), q_l (ξ 15 k), q_i k, .ref 15] (x_w w (m_u ξ 15 (x_wlf (ξ 15) ξ p s k)) B P g)
          refine q_cP [q_i (z_tn (ξ 8 0) (ξ 8 1) k s)] (kPX8_150 _) (x_pOi (p := p) (by omega) (by omega) (by omega)) (Eq.mp (congrArg (fun z => q_D mX5_timesOf 1 [.ref (B + p.toNat), q_i (z_tn (ξ 8 0) (ξ 8 1) k s)] (x_w w (m_u ξ 15 (x_wlf (ξ 15) ξ p s k)) B P g) (some (q_i z)) (x_w w (m_u ξ 15 (x_wlf (ξ 15) ξ p s k)) B P g)) (show (m_u ξ 15 (x_wlf (ξ 15) ξ p s k)) (26 + p.toNat) (z_tn (ξ 8 0) (ξ 8 1) k s) = z_ways (ξ 1000 p) (ξ 1005 p) (ξ 8 0) (ξ 8 1) k s by rw [m_un (by omega)]; exact hT.tm hG hk0 hs0)) (tX5_timesOf w (m_u ξ 15 (x_wlf (ξ 15) ξ p s k)) B P g p.toNat (by omega) (by omega) (by omega) (z_tn (ξ 8 0) (ξ 8 1) k s) htr.1 (by show _ < ξ 8 2; rw [hG.2.1]; exact htr.2) hS.2)) dX8_weighLook_40 rfl (by decide) (Nat.le_of_ble_eq_true rfl) rfl ?_
          refine q_i2lr dX8_weighLook_43 ⟨by have := z_ways_r (k := ξ 1000 p) (f := ξ 1005 p) (N := ξ 8 1) k s hW; omega, by have := z_ways_r (k := ξ 1000 p) (f := ξ 1005 p) (N := ξ 8 1) k s hW; omega⟩ ?_
          refine q_lmul dX8_weighLook_44 ?_
          refine q_last (f := (x_wlf (ξ 15) ξ p s k)) (n9 := 216) rfl (by omega) (by omega) dX8_weighLook_45 ?_
          refine q_Jeq rfl rfl (x_up (f := (q_us (x_wlf (ξ 15) ξ p s k) k ((ξ 15 k) * (z_ways (ξ 1000 p) (ξ 1005 p) (ξ 8 0) (ξ 8 1) k s)))) rfl) ?_
          refine q_iinc (lv' := [some (.ref 7), some (.ref 15), some (.ref (B + p.toNat)), some (q_i s), some (q_i (k + 1))]) dX8_weighLook_46 rfl (by decide) rfl ?_
          refine q_goto (tgt := 3) dX8_weighLook_49 (by decide) ?_
          exact q_Jle (q_le_s (rfl) (q_le_s (rfl) (q_le_s (rfl) (q_le_s (rfl) (q_le_s (rfl) (q_le_e _)))))) (rfl) (by rw [m_uu, x_wlf_s hk0 rfl]) (ih3 (k + 1) (by omega) (by omega) (by omega))
  exact q_Jle (q_le_s (rfl) (q_le_s (rfl) (q_le_s (rfl) (q_le_s (rfl) (q_le_s (rfl) (q_le_e _)))))) (rfl) (by rw [x_wlf_0, m_uid]) (L3 ((ξ 8 2 : Int).toNat + 1) 0 (by omega) (by omega) (by omega))
