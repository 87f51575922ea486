/-! the class: wheels -/
/-- there is a lock: its wheels, notches, settings; its row of notches -/
def x_G (ξ : m_S) : Prop := z_WN (ξ 8 0) (ξ 8 1) ∧ ξ 8 2 = z_pw (ξ 8 1) (ξ 8 0) ∧ ∀ s w, 0 ≤ s → s < ξ 8 2 → 0 ≤ w → w < ξ 8 0 → ξ 9 (3 * s + w) = z_nt (ξ 8 0) (ξ 8 1) s w
theorem x_G.S {ξ : m_S} (h : x_G ξ) : 4 ≤ ξ 8 2 ∧ ξ 8 2 ≤ 216 := by
  obtain ⟨⟨h1, h2⟩, h3, -⟩ := h
  rw [h3]
  generalize ξ 8 0 = W at *
  generalize ξ 8 1 = N at *
  rcases (show N = 4 ∨ N = 5 ∨ N = 6 by omega) with rfl | rfl | rfl <;> rcases (show W = 1 ∨ W = 2 ∨ W = 3 by omega) with rfl | rfl | rfl <;> decide
theorem x_G.nt {ξ : m_S} (h : x_G ξ) {s w : Int} (h0 : 0 ≤ s) (h1 : s < ξ 8 2) (h2 : 0 ≤ w) (h3 : w < ξ 8 0) : ξ 9 (3 * s + w) = z_nt (ξ 8 0) (ξ 8 1) s w := h.2.2 s w h0 h1 h2 h3
theorem z_p_0 {f : Int → Int} : ∀ {k : Nat} (j : Int), 0 ≤ j → j < k → f j = 0 → z_p f k = 0
  | 0, j, h0, h1, _ => by omega
  | k + 1, j, h0, h1, h => by
    show z_p f k * f k = 0
    by_cases e : j = k
    · rw [← e, h, Int.mul_zero]
    · rw [z_p_0 j h0 (by omega) h, Int.zero_mul]
theorem z_prod_z {f : Int → Int} {n j : Int} (h0 : 0 ≤ j) (h1 : j < n) (h : f j = 0) : z_prod f n = 0 := z_p_0 j h0 (by omega) h
theorem z_p_1 {f : Int → Int} : ∀ {k : Nat}, (∀ j : Int, 0 ≤ j → j < k → f j = 1) → z_p f k = 1
  | 0, _ => rfl
  | k + 1, h => by
    show z_p f k * f k = 1
    rw [z_p_1 (fun j h0 h1 => h j h0 (by omega)), h k (by omega) (by omega)]
    rfl
def z_la (W N t v : Int) : Int := z_prod (fun w => if z_nt W N t w = 0 then 1 else 0) v
set_option maxRecDepth 20000 in
theorem tX10_isSetting (w : q_W) (ξ : m_S) (B P : Nat) (g : Int → Option Nat) (s : Int) (hs : q_r s) (hS : 0 ≤ ξ 8 2 ∧ ξ 8 2 ≤ 216) : q_D mX10_isSetting 0 [.ref 8, q_i s] (x_w w ξ B P g) (some (q_b (0 ≤ s ∧ s < ξ 8 2))) (x_w w ξ B P g) := by
  refine q_T.of (lv := [some (.ref 8), some (q_i s)]) (by decide) rfl (Nat.le_of_ble_eq_true rfl) ?_
  refine q_iload_n dX10_isSetting_0 rfl ?_
  refine q_if_lt (tgt := 16) dX10_isSetting_1 (by decide) hs (fun h1 => ?_) (fun h1 => ?_)
  · skip
    refine q_iconst dX10_isSetting_16 ?_
    exact q_zret rfl (Or.inl rfl) dX10_isSetting_17 (⟨congrArg some (q_b0 (by omega)), rfl⟩)
  · skip
    refine q_iload_n dX10_isSetting_4 rfl ?_
    refine q_aload_n dX10_isSetting_5 rfl ?_
    refine q_get (v := q_i (ξ 8 2)) fX10_18_10 rfl rfl dX10_isSetting_6 ?_
    refine q_icmp_ge (tgt := 16) dX10_isSetting_9 (by decide) hs ⟨by omega, by omega⟩ (fun h9 => ?_) (fun h9 => ?_)
    · skip
      refine q_iconst dX10_isSetting_16 ?_
      exact q_zret rfl (Or.inl rfl) dX10_isSetting_17 (⟨congrArg some (q_b0 (by omega)), rfl⟩)
    · skip
      refine q_iconst dX10_isSetting_12 ?_
      refine q_goto (tgt := 17) dX10_isSetting_13 (by decide) ?_
      exact q_zret rfl (Or.inr rfl) dX10_isSetting_17 (⟨congrArg some (q_b1 (by omega)), rfl⟩)
set_option maxRecDepth 20000 in
theorem tX10_isWheel (w : q_W) (ξ : m_S) (B P : Nat) (g : Int → Option Nat) (s : Int) (hs : q_r s) (hW : 0 ≤ ξ 8 0 ∧ ξ 8 0 ≤ 3) : q_D mX10_isWheel 0 [.ref 8, q_i s] (x_w w ξ B P g) (some (q_b (0 ≤ s ∧ s < ξ 8 0))) (x_w w ξ B P g) := by
  refine q_T.of (lv := [some (.ref 8), some (q_i s)]) (by decide) rfl (Nat.le_of_ble_eq_true rfl) ?_
  refine q_iload_n dX10_isWheel_0 rfl ?_
  refine q_if_lt (tgt := 16) dX10_isWheel_1 (by decide) hs (fun h1 => ?_) (fun h1 => ?_)
  · skip
    refine q_iconst dX10_isWheel_16 ?_
    exact q_zret rfl (Or.inl rfl) dX10_isWheel_17 (⟨congrArg some (q_b0 (by omega)), rfl⟩)
  · skip
    refine q_iload_n dX10_isWheel_4 rfl ?_
    refine q_aload_n dX10_isWheel_5 rfl ?_
    refine q_get (v := q_i (ξ 8 0)) fX10_9_10 rfl rfl dX10_isWheel_6 ?_
    refine q_icmp_ge (tgt := 16) dX10_isWheel_9 (by decide) hs ⟨by omega, by omega⟩ (fun h9 => ?_) (fun h9 => ?_)
    · skip
      refine q_iconst dX10_isWheel_16 ?_
      exact q_zret rfl (Or.inl rfl) dX10_isWheel_17 (⟨congrArg some (q_b0 (by omega)), rfl⟩)
    · skip
      refine q_iconst dX10_isWheel_12 ?_
      refine q_goto (tgt := 17) dX10_isWheel_13 (by decide) ?_
      exact q_zret rfl (Or.inr rfl) dX10_isWheel_17 (⟨congrArg some (q_b1 (by omega)), rfl⟩)
set_option maxRecDepth 20000 in
theorem tX10_notchOf (w : q_W) (ξ : m_S) (B P : Nat) (g : Int → Option Nat) (s v : Int) (hs0 : 0 ≤ s) (hs1 : s < ξ 8 2) (hv0 : 0 ≤ v) (hv1 : v < ξ 8 0) (hG : x_G ξ) : q_D mX10_notchOf 0 [.ref 8, q_i s, q_i v] (x_w w ξ B P g) (some (q_i (z_nt (ξ 8 0) (ξ 8 1) s v))) (x_w w ξ B P g) := by
  refine q_T.of (lv := [some (.ref 8), some (q_i s), some (q_i v), none]) (by decide) rfl (Nat.le_of_ble_eq_true rfl) ?_
  have hWN := hG.1
  have hW := hG.1.1
  have hN := hG.1.2
  have hS := hG.S
  refine q_iconst dX10_notchOf_0 ?_
  refine q_iload_n dX10_notchOf_1 rfl ?_
  refine q_imul dX10_notchOf_2 ?_
  refine q_iload_n dX10_notchOf_3 rfl ?_
  refine q_iadd dX10_notchOf_4 ?_
  refine q_istore_n (lv' := [some (.ref 8), some (q_i s), some (q_i v), some (q_i ((3 * s) + v))]) dX10_notchOf_5 (by decide) rfl ?_
  refine q_iload_n dX10_notchOf_6 rfl ?_
  refine q_if_lt (tgt := 28) dX10_notchOf_7 (by decide) ⟨by omega, by omega⟩ (fun h7 => False.elim (by omega)) (fun h7 => ?_)
  refine q_iload_n dX10_notchOf_10 rfl ?_
  refine q_aload_n dX10_notchOf_11 rfl ?_
  refine q_get (v := .ref 9) fX10_21_10 rfl rfl dX10_notchOf_12 ?_
  refine q_alen rfl (by decide) dX10_notchOf_15 ?_
  refine q_icmp_ge (tgt := 28) dX10_notchOf_16 (by decide) ⟨by omega, by omega⟩ ⟨by omega, by omega⟩ (fun h16 => False.elim (by omega)) (fun h16 => ?_)
  refine q_aload_n dX10_notchOf_19 rfl ?_
  refine q_get (v := .ref 9) fX10_21_10 rfl rfl dX10_notchOf_20 ?_
  refine q_iload_n dX10_notchOf_23 rfl ?_
  refine q_iald (f := (ξ 9)) (n9 := 648) rfl (by omega) (by omega) dX10_notchOf_24 ?_
  rw [hG.nt (s := s) (w := v) (by omega) (by omega) (by omega) (by omega)]
  refine q_goto (tgt := 29) dX10_notchOf_25 (by decide) ?_
  exact q_iret rfl dX10_notchOf_29 (⟨rfl, rfl⟩)
set_option maxRecDepth 20000 in
theorem tX10_turnBetween (w : q_W) (ξ : m_S) (B P : Nat) (g : Int → Option Nat) (c s : Int) (hc0 : 0 ≤ c) (hc1 : c < ξ 8 2) (hs0 : 0 ≤ s) (hs1 : s < ξ 8 2) (hG : x_G ξ) : q_D mX10_turnBetween 1 [.ref 8, q_i c, q_i s] (x_w w ξ B P g) (some (q_i (z_tn (ξ 8 0) (ξ 8 1) c s))) (x_w w ξ B P g) := by
  refine q_T.of (lv := [some (.ref 8), some (q_i c), some (q_i s), none, none, none]) (by decide) rfl (Nat.le_of_ble_eq_true rfl) ?_
  have hWN := hG.1
  have hW := hG.1.1
  have hN := hG.1.2
  have hS := hG.S
  refine q_aload_n dX10_turnBetween_0 rfl ?_
  refine q_iload_n dX10_turnBetween_1 rfl ?_
  refine q_cV [q_i c] kX10_31_10 rfl (tX10_isSetting w ξ B P g c (⟨by omega, by omega⟩) (show 0 ≤ ξ 8 2 ∧ ξ 8 2 ≤ 216 by omega)) dX10_turnBetween_2 rfl (by decide) (Nat.le_of_ble_eq_true rfl) rfl ?_
  refine q_ifb_eq (tgt := 16) dX10_turnBetween_5 (by decide) (fun h5 => False.elim (by omega)) (fun h5 => ?_)
  refine q_aload_n dX10_turnBetween_8 rfl ?_
  refine q_iload_n dX10_turnBetween_9 rfl ?_
  refine q_cV [q_i s] kX10_31_10 rfl (tX10_isSetting w ξ B P g s (⟨by omega, by omega⟩) (show 0 ≤ ξ 8 2 ∧ ξ 8 2 ≤ 216 by omega)) dX10_turnBetween_10 rfl (by decide) (Nat.le_of_ble_eq_true rfl) rfl ?_
  refine q_ifb_ne (tgt := 18) dX10_turnBetween_13 (by decide) (fun h13 => ?_) (fun h13 => False.elim (by omega))
  refine q_iconst dX10_turnBetween_18 ?_
  refine q_istore_n (lv' := [some (.ref 8), some (q_i c), some (q_i s), some (q_i 0), none, none]) dX10_turnBetween_19 (by decide) rfl ?_
  refine q_iconst dX10_turnBetween_20 ?_
  refine q_istore (lv' := [some (.ref 8), some (q_i c), some (q_i s), some (q_i 0), some (q_i 0), none]) dX10_turnBetween_21 (by decide) rfl ?_
  have L23 : ∀ (m9 : Nat) (k : Int) (hk0 : 0 ≤ k) (hk1 : k ≤ ξ 8 0) (hm9 : ξ 8 0 - k < (m9 : Int)), q_J mX10_turnBetween 1 (fun v' w' => v' = (some (q_i (z_tn (ξ 8 0) (ξ 8 1) c s))) ∧ w' = (x_w w ξ B P g)) 0 0 23 [some (.ref 8), some (q_i c), some (q_i s), some (q_i (z_hn (ξ 8 1) (fun w => z_up (ξ 8 0) (ξ 8 1) w c s) k)), some (q_i k), none] [] (x_w w ξ B P g) := by
    intro m9
    induction m9 with
    | zero => intro k hk0 hk1 hm9; exact absurd hm9 (by omega)
    | succ m9 ih23 =>
      intro k hk0 hk1 hm9
      refine q_iload dX10_turnBetween_23 rfl ?_
      refine q_aload_n dX10_turnBetween_25 rfl ?_
      refine q_get (v := q_i (ξ 8 0)) fX10_9_10 rfl rfl dX10_turnBetween_26 ?_
      refine q_icmp_ge (tgt := 88) dX10_turnBetween_29 (by decide) ⟨by omega, by omega⟩ ⟨by omega, by omega⟩ (fun h29 => ?_) (fun h29 => ?_)
      · skip
        refine q_iload_n dX10_turnBetween_88 rfl ?_
        exact q_iret rfl dX10_turnBetween_89 (⟨by rw [show k = ξ 8 0 by omega]; rfl, rfl⟩)
      · skip
        refine q_aload_n dX10_turnBetween_32 rfl ?_
        refine q_get (v := .ref 9) fX10_21_10 rfl rfl dX10_turnBetween_33 ?_
        refine q_iconst dX10_turnBetween_36 ?_
        refine q_iload_n dX10_turnBetween_37 rfl ?_
        refine q_imul dX10_turnBetween_38 ?_
        refine q_iload dX10_turnBetween_39 rfl ?_
        refine q_iadd dX10_turnBetween_41 ?_
        refine q_iald (f := (ξ 9)) (n9 := 648) rfl (by omega) (by omega) dX10_turnBetween_42 ?_
        rw [hG.nt (s := s) (w := k) (by omega) (by omega) (by omega) (by omega)]
        refine q_aload_n dX10_turnBetween_43 rfl ?_
        refine q_get (v := .ref 9) fX10_21_10 rfl rfl dX10_turnBetween_44 ?_
        refine q_iconst dX10_turnBetween_47 ?_
        refine q_iload_n dX10_turnBetween_48 rfl ?_
        refine q_imul dX10_turnBetween_49 ?_
        refine q_iload dX10_turnBetween_50 rfl ?_
        refine q_iadd dX10_turnBetween_52 ?_
        refine q_iald (f := (ξ 9)) (n9 := 648) rfl (by omega) (by omega) dX10_turnBetween_53 ?_
        rw [hG.nt (s := c) (w := k) (by omega) (by omega) (by omega) (by omega)]
        refine q_isub dX10_turnBetween_54 ?_
        have na := z_nt_in hWN hs0 hk0 (show k < ξ 8 0 by omega)
        have nb := z_nt_in hWN hc0 hk0 (show k < ξ 8 0 by omega)
        refine q_istore (lv' := [some (.ref 8), some (q_i c), some (q_i s), some (q_i (z_hn (ξ 8 1) (fun w => z_up (ξ 8 0) (ξ 8 1) w c s) k)), some (q_i k), some (q_i ((z_nt (ξ 8 0) (ξ 8 1) s k) - (z_nt (ξ 8 0) (ξ 8 1) c k)))]) dX10_turnBetween_55 (by decide) rfl ?_
        refine q_iload_n dX10_turnBetween_57 rfl ?_
        refine q_aload_n dX10_turnBetween_58 rfl ?_
        refine q_get (v := q_i (ξ 8 1)) fX10_15_10 rfl rfl dX10_turnBetween_59 ?_
        refine q_imul dX10_turnBetween_62 ?_
        refine q_iload dX10_turnBetween_63 rfl ?_
        refine q_if_ge (tgt := 78) dX10_turnBetween_65 (by decide) ⟨by omega, by omega⟩ (fun h65 => ?_) (fun h65 => ?_)
        · skip
          refine q_iload dX10_turnBetween_78 rfl ?_
          refine q_iadd dX10_turnBetween_80 ?_
          refine q_istore_n (lv' := [some (.ref 8), some (q_i c), some (q_i s), some (q_i (((z_hn (ξ 8 1) (fun w => z_up (ξ 8 0) (ξ 8 1) w c s) k) * (ξ 8 1)) + ((z_nt (ξ 8 0) (ξ 8 1) s k) - (z_nt (ξ 8 0) (ξ 8 1) c k)))), some (q_i k), some (q_i ((z_nt (ξ 8 0) (ξ 8 1) s k) - (z_nt (ξ 8 0) (ξ 8 1) c k)))]) dX10_turnBetween_81 (by decide) rfl ?_
          refine q_iinc (lv' := [some (.ref 8), some (q_i c), some (q_i s), some (q_i (((z_hn (ξ 8 1) (fun w => z_up (ξ 8 0) (ξ 8 1) w c s) k) * (ξ 8 1)) + ((z_nt (ξ 8 0) (ξ 8 1) s k) - (z_nt (ξ 8 0) (ξ 8 1) c k)))), some (q_i (k + 1)), some (q_i ((z_nt (ξ 8 0) (ξ 8 1) s k) - (z_nt (ξ 8 0) (ξ 8 1) c k)))]) dX10_turnBetween_82 rfl (by decide) rfl ?_
          refine q_goto (tgt := 23) dX10_turnBetween_85 (by decide) ?_
          exact q_Jle (q_le_s (rfl) (q_le_s (rfl) (q_le_s (rfl) (q_le_s (by rw [z_hn_s _ _ hk0]; (try dsimp only); rw [z_up_e hWN hc0 hs0 hk0 (by omega)]; (try rw [if_pos (by omega)]); (try rw [if_neg (by omega)])) (q_le_s (rfl) (q_le_n (q_le_e _))))))) (rfl) (rfl) (ih23 (k + 1) (by omega) (by omega) (by omega))
        · skip
          refine q_iload dX10_turnBetween_68 rfl ?_
          refine q_aload_n dX10_turnBetween_70 rfl ?_
          refine q_get (v := q_i (ξ 8 1)) fX10_15_10 rfl rfl dX10_turnBetween_71 ?_
          refine q_iadd dX10_turnBetween_74 ?_
          refine q_goto (tgt := 80) dX10_turnBetween_75 (by decide) ?_
          refine q_iadd dX10_turnBetween_80 ?_
          refine q_istore_n (lv' := [some (.ref 8), some (q_i c), some (q_i s), some (q_i (((z_hn (ξ 8 1) (fun w => z_up (ξ 8 0) (ξ 8 1) w c s) k) * (ξ 8 1)) + (((z_nt (ξ 8 0) (ξ 8 1) s k) - (z_nt (ξ 8 0) (ξ 8 1) c k)) + (ξ 8 1)))), some (q_i k), some (q_i ((z_nt (ξ 8 0) (ξ 8 1) s k) - (z_nt (ξ 8 0) (ξ 8 1) c k)))]) dX10_turnBetween_81 (by decide) rfl ?_
          refine q_iinc (lv' := [some (.ref 8), some (q_i c), some (q_i s), some (q_i (((z_hn (ξ 8 1) (fun w => z_up (ξ 8 0) (ξ 8 1) w c s) k) * (ξ 8 1)) + (((z_nt (ξ 8 0) (ξ 8 1) s k) - (z_nt (ξ 8 0) (ξ 8 1) c k)) + (ξ 8 1)))), some (q_i (k + 1)), some (q_i ((z_nt (ξ 8 0) (ξ 8 1) s k) - (z_nt (ξ 8 0) (ξ 8 1) c k)))]) dX10_turnBetween_82 rfl (by decide) rfl ?_
          refine q_goto (tgt := 23) dX10_turnBetween_85 (by decide) ?_
          exact q_Jle (q_le_s (rfl) (q_le_s (rfl) (q_le_s (rfl) (q_le_s (by rw [z_hn_s _ _ hk0]; (try dsimp only); rw [z_up_e hWN hc0 hs0 hk0 (by omega)]; (try rw [if_pos (by omega)]); (try rw [if_neg (by omega)])) (q_le_s (rfl) (q_le_n (q_le_e _))))))) (rfl) (rfl) (ih23 (k + 1) (by omega) (by omega) (by omega))
  exact q_Jle (q_le_s (rfl) (q_le_s (rfl) (q_le_s (rfl) (q_le_s (rfl) (q_le_s (rfl) (q_le_n (q_le_e _))))))) (rfl) (rfl) (L23 ((ξ 8 0 : Int).toNat + 1) 0 (by omega) (by omega) (by omega))
set_option maxRecDepth 20000 in
theorem tX10_turned (w : q_W) (ξ : m_S) (B P : Nat) (g : Int → Option Nat) (c s : Int) (hc0 : 0 ≤ c) (hc1 : c < ξ 8 2) (hs0 : 0 ≤ s) (hs1 : s < ξ 8 2) (hG : x_G ξ) : q_D mX10_turned 1 [.ref 8, q_i c, q_i s] (x_w w ξ B P g) (some (q_i (z_td (ξ 8 0) (ξ 8 1) c s))) (x_w w ξ B P g) := by
  refine q_T.of (lv := [some (.ref 8), some (q_i c), some (q_i s), none, none, none]) (by decide) rfl (Nat.le_of_ble_eq_true rfl) ?_
  have hWN := hG.1
  have hW := hG.1.1
  have hN := hG.1.2
  have hS := hG.S
  refine q_aload_n dX10_turned_0 rfl ?_
  refine q_iload_n dX10_turned_1 rfl ?_
  refine q_cV [q_i c] kX10_31_10 rfl (tX10_isSetting w ξ B P g c (⟨by omega, by omega⟩) (show 0 ≤ ξ 8 2 ∧ ξ 8 2 ≤ 216 by omega)) dX10_turned_2 rfl (by decide) (Nat.le_of_ble_eq_true rfl) rfl ?_
  refine q_ifb_eq (tgt := 16) dX10_turned_5 (by decide) (fun h5 => False.elim (by omega)) (fun h5 => ?_)
  refine q_aload_n dX10_turned_8 rfl ?_
  refine q_iload_n dX10_turned_9 rfl ?_
  refine q_cV [q_i s] kX10_31_10 rfl (tX10_isSetting w ξ B P g s (⟨by omega, by omega⟩) (show 0 ≤ ξ 8 2 ∧ ξ 8 2 ≤ 216 by omega)) dX10_turned_10 rfl (by decide) (Nat.le_of_ble_eq_true rfl) rfl ?_
  refine q_ifb_ne (tgt := 18) dX10_turned_13 (by decide) (fun h13 => ?_) (fun h13 => False.elim (by omega))
  refine q_iconst dX10_turned_18 ?_
  refine q_istore_n (lv' := [some (.ref 8), some (q_i c), some (q_i s), some (q_i 0), none, none]) dX10_turned_19 (by decide) rfl ?_
  refine q_iconst dX10_turned_20 ?_
  refine q_istore (lv' := [some (.ref 8), some (q_i c), some (q_i s), some (q_i 0), some (q_i 0), none]) dX10_turned_21 (by decide) rfl ?_
  have L23 : ∀ (m9 : Nat) (k : Int) (hk0 : 0 ≤ k) (hk1 : k ≤ ξ 8 0) (hm9 : ξ 8 0 - k < (m9 : Int)), q_J mX10_turned 1 (fun v' w' => v' = (some (q_i (z_td (ξ 8 0) (ξ 8 1) c s))) ∧ w' = (x_w w ξ B P g)) 0 0 23 [some (.ref 8), some (q_i c), some (q_i s), some (q_i (z_hn (ξ 8 1) (fun w => z_dn (ξ 8 0) (ξ 8 1) c s w) k)), some (q_i k), none] [] (x_w w ξ B P g) := by
    intro m9
    induction m9 with
    | zero => intro k hk0 hk1 hm9; exact absurd hm9 (by omega)
    | succ m9 ih23 =>
      intro k hk0 hk1 hm9
      refine q_iload dX10_turned_23 rfl ?_
      refine q_aload_n dX10_turned_25 rfl ?_
      refine q_get (v := q_i (ξ 8 0)) fX10_9_10 rfl rfl dX10_turned_26 ?_
      refine q_icmp_ge (tgt := 92) dX10_turned_29 (by decide) ⟨by omega, by omega⟩ ⟨by omega, by omega⟩ (fun h29 => ?_) (fun h29 => ?_)
      · skip
        refine q_iload_n dX10_turned_92 rfl ?_
        exact q_iret rfl dX10_turned_93 (⟨by rw [show k = ξ 8 0 by omega]; rfl, rfl⟩)
      · skip
        refine q_aload_n dX10_turned_32 rfl ?_
        refine q_get (v := .ref 9) fX10_21_10 rfl rfl dX10_turned_33 ?_
        refine q_iconst dX10_turned_36 ?_
        refine q_iload_n dX10_turned_37 rfl ?_
        refine q_imul dX10_turned_38 ?_
        refine q_iload dX10_turned_39 rfl ?_
        refine q_iadd dX10_turned_41 ?_
        refine q_iald (f := (ξ 9)) (n9 := 648) rfl (by omega) (by omega) dX10_turned_42 ?_
        rw [hG.nt (s := c) (w := k) (by omega) (by omega) (by omega) (by omega)]
        refine q_aload_n dX10_turned_43 rfl ?_
        refine q_get (v := .ref 9) fX10_21_10 rfl rfl dX10_turned_44 ?_
        refine q_iconst dX10_turned_47 ?_
        refine q_iload_n dX10_turned_48 rfl ?_
        refine q_imul dX10_turned_49 ?_
        refine q_iload dX10_turned_50 rfl ?_
        refine q_iadd dX10_turned_52 ?_
        refine q_iald (f := (ξ 9)) (n9 := 648) rfl (by omega) (by omega) dX10_turned_53 ?_
        rw [hG.nt (s := s) (w := k) (by omega) (by omega) (by omega) (by omega)]
        refine q_iadd dX10_turned_54 ?_
        have na := z_nt_in hWN hs0 hk0 (show k < ξ 8 0 by omega)
        have nb := z_nt_in hWN hc0 hk0 (show k < ξ 8 0 by omega)
        refine q_istore (lv' := [some (.ref 8), some (q_i c), some (q_i s), some (q_i (z_hn (ξ 8 1) (fun w => z_dn (ξ 8 0) (ξ 8 1) c s w) k)), some (q_i k), some (q_i ((z_nt (ξ 8 0) (ξ 8 1) c k) + (z_nt (ξ 8 0) (ξ 8 1) s k)))]) dX10_turned_55 (by decide) rfl ?_
        refine q_iload_n dX10_turned_57 rfl ?_
        refine q_aload_n dX10_turned_58 rfl ?_
        refine q_get (v := q_i (ξ 8 1)) fX10_15_10 rfl rfl dX10_turned_59 ?_
        refine q_imul dX10_turned_62 ?_
        refine q_iload dX10_turned_63 rfl ?_
        refine q_aload_n dX10_turned_65 rfl ?_
        refine q_get (v := q_i (ξ 8 1)) fX10_15_10 rfl rfl dX10_turned_66 ?_
        refine q_icmp_ge (tgt := 77) dX10_turned_69 (by decide) ⟨by omega, by omega⟩ ⟨by omega, by omega⟩ (fun h69 => ?_) (fun h69 => ?_)
        · skip
          refine q_iload dX10_turned_77 rfl ?_
          refine q_aload_n dX10_turned_79 rfl ?_
          refine q_get (v := q_i (ξ 8 1)) fX10_15_10 rfl rfl dX10_turned_80 ?_
          refine q_isub dX10_turned_83 ?_
          refine q_iadd dX10_turned_84 ?_
          refine q_istore_n (lv' := [some (.ref 8), some (q_i c), some (q_i s), some (q_i (((z_hn (ξ 8 1) (fun w => z_dn (ξ 8 0) (ξ 8 1) c s w) k) * (ξ 8 1)) + (((z_nt (ξ 8 0) (ξ 8 1) c k) + (z_nt (ξ 8 0) (ξ 8 1) s k)) - (ξ 8 1)))), some (q_i k), some (q_i ((z_nt (ξ 8 0) (ξ 8 1) c k) + (z_nt (ξ 8 0) (ξ 8 1) s k)))]) dX10_turned_85 (by decide) rfl ?_
          refine q_iinc (lv' := [some (.ref 8), some (q_i c), some (q_i s), some (q_i (((z_hn (ξ 8 1) (fun w => z_dn (ξ 8 0) (ξ 8 1) c s w) k) * (ξ 8 1)) + (((z_nt (ξ 8 0) (ξ 8 1) c k) + (z_nt (ξ 8 0) (ξ 8 1) s k)) - (ξ 8 1)))), some (q_i (k + 1)), some (q_i ((z_nt (ξ 8 0) (ξ 8 1) c k) + (z_nt (ξ 8 0) (ξ 8 1) s k)))]) dX10_turned_86 rfl (by decide) rfl ?_
          refine q_goto (tgt := 23) dX10_turned_89 (by decide) ?_
          exact q_Jle (q_le_s (rfl) (q_le_s (rfl) (q_le_s (rfl) (q_le_s (by rw [z_hn_s _ _ hk0]; dsimp only [z_dn]; (try rw [if_pos (by omega)]); (try rw [if_neg (by omega)])) (q_le_s (rfl) (q_le_n (q_le_e _))))))) (rfl) (rfl) (ih23 (k + 1) (by omega) (by omega) (by omega))
        · skip
          refine q_iload dX10_turned_72 rfl ?_
          refine q_goto (tgt := 84) dX10_turned_74 (by decide) ?_
          refine q_iadd dX10_turned_84 ?_
          refine q_istore_n (lv' := [some (.ref 8), some (q_i c), some (q_i s), some (q_i (((z_hn (ξ 8 1) (fun w => z_dn (ξ 8 0) (ξ 8 1) c s w) k) * (ξ 8 1)) + ((z_nt (ξ 8 0) (ξ 8 1) c k) + (z_nt (ξ 8 0) (ξ 8 1) s k)))), some (q_i k), some (q_i ((z_nt (ξ 8 0) (ξ 8 1) c k) + (z_nt (ξ 8 0) (ξ 8 1) s k)))]) dX10_turned_85 (by decide) rfl ?_
          refine q_iinc (lv' := [some (.ref 8), some (q_i c), some (q_i s), some (q_i (((z_hn (ξ 8 1) (fun w => z_dn (ξ 8 0) (ξ 8 1) c s w) k) * (ξ 8 1)) + ((z_nt (ξ 8 0) (ξ 8 1) c k) + (z_nt (ξ 8 0) (ξ 8 1) s k)))), some (q_i (k + 1)), some (q_i ((z_nt (ξ 8 0) (ξ 8 1) c k) + (z_nt (ξ 8 0) (ξ 8 1) s k)))]) dX10_turned_86 rfl (by decide) rfl ?_
          refine q_goto (tgt := 23) dX10_turned_89 (by decide) ?_
          exact q_Jle (q_le_s (rfl) (q_le_s (rfl) (q_le_s (rfl) (q_le_s (by rw [z_hn_s _ _ hk0]; dsimp only [z_dn]; (try rw [if_pos (by omega)]); (try rw [if_neg (by omega)])) (q_le_s (rfl) (q_le_n (q_le_e _))))))) (rfl) (rfl) (ih23 (k + 1) (by omega) (by omega) (by omega))
  exact q_Jle (q_le_s (rfl) (q_le_s (rfl) (q_le_s (rfl) (q_le_s (rfl) (q_le_s (rfl) (q_le_n (q_le_e _))))))) (rfl) (rfl) (L23 ((ξ 8 0 : Int).toNat + 1) 0 (by omega) (by omega) (by omega))
set_option maxRecDepth 20000 in
theorem tX10_wheelsIn (w : q_W) (ξ : m_S) (B P : Nat) (g : Int → Option Nat) (t : Int) (ht0 : 0 ≤ t) (ht1 : t < ξ 8 2) (hG : x_G ξ) : q_D mX10_wheelsIn 1 [.ref 8, q_i t] (x_w w ξ B P g) (some (q_i (z_sum (fun w => if z_nt (ξ 8 0) (ξ 8 1) t w = 0 then 0 else 1) (ξ 8 0)))) (x_w w ξ B P g) := by
  refine q_T.of (lv := [some (.ref 8), some (q_i t), none, none]) (by decide) rfl (Nat.le_of_ble_eq_true rfl) ?_
  have hWN := hG.1
  have hW := hG.1.1
  have hN := hG.1.2
  have hS := hG.S
  refine q_iconst dX10_wheelsIn_0 ?_
  refine q_istore_n (lv' := [some (.ref 8), some (q_i t), some (q_i 0), none]) dX10_wheelsIn_1 (by decide) rfl ?_
  refine q_iconst dX10_wheelsIn_2 ?_
  refine q_istore_n (lv' := [some (.ref 8), some (q_i t), some (q_i 0), some (q_i 0)]) dX10_wheelsIn_3 (by decide) rfl ?_
  have L4 : ∀ (m9 : Nat) (k : Int) (hk0 : 0 ≤ k) (hk1 : k ≤ ξ 8 0) (hm9 : ξ 8 0 - k < (m9 : Int)), q_J mX10_wheelsIn 1 (fun v' w' => v' = (some (q_i (z_sum (fun w => if z_nt (ξ 8 0) (ξ 8 1) t w = 0 then 0 else 1) (ξ 8 0)))) ∧ w' = (x_w w ξ B P g)) 0 0 4 [some (.ref 8), some (q_i t), some (q_i (z_sum (fun w => if z_nt (ξ 8 0) (ξ 8 1) t w = 0 then 0 else 1) k)), some (q_i k)] [] (x_w w ξ B P g) := by
    intro m9
    induction m9 with
    | zero => intro k hk0 hk1 hm9; exact absurd hm9 (by omega)
    | succ m9 ih4 =>
      intro k hk0 hk1 hm9
      refine q_iload_n dX10_wheelsIn_4 rfl ?_
      refine q_aload_n dX10_wheelsIn_5 rfl ?_
      refine q_get (v := q_i (ξ 8 0)) fX10_9_10 rfl rfl dX10_wheelsIn_6 ?_
      refine q_icmp_ge (tgt := 35) dX10_wheelsIn_9 (by decide) ⟨by omega, by omega⟩ ⟨by omega, by omega⟩ (fun h9 => ?_) (fun h9 => ?_)
      · skip
        refine q_iload_n dX10_wheelsIn_35 rfl ?_
        exact q_iret rfl dX10_wheelsIn_36 (⟨by rw [show k = ξ 8 0 by omega], rfl⟩)
      · skip
        have na := z_nt_in hWN ht0 hk0 (show k < ξ 8 0 by omega)
        refine q_iload_n dX10_wheelsIn_12 rfl ?_
        refine q_aload_n dX10_wheelsIn_13 rfl ?_
        refine q_iload_n dX10_wheelsIn_14 rfl ?_
        refine q_iload_n dX10_wheelsIn_15 rfl ?_
        refine q_cV [q_i t, q_i k] kX10_35_10 rfl (tX10_notchOf w ξ B P g t k (show (0 : Int) ≤ t by omega) (show t < ξ 8 2 by omega) (show (0 : Int) ≤ k by omega) (show k < ξ 8 0 by omega) hG) dX10_wheelsIn_16 rfl (by decide) (Nat.le_of_ble_eq_true rfl) rfl ?_
        refine q_if_ne (tgt := 26) dX10_wheelsIn_19 (by decide) ⟨by omega, by omega⟩ (fun h19 => ?_) (fun h19 => ?_)
        · skip
          refine q_iconst dX10_wheelsIn_26 ?_
          refine q_iadd dX10_wheelsIn_27 ?_
          refine q_istore_n (lv' := [some (.ref 8), some (q_i t), some (q_i ((z_sum (fun w => if z_nt (ξ 8 0) (ξ 8 1) t w = 0 then 0 else 1) k) + 1)), some (q_i k)]) dX10_wheelsIn_28 (by decide) rfl ?_
          refine q_iinc (lv' := [some (.ref 8), some (q_i t), some (q_i ((z_sum (fun w => if z_nt (ξ 8 0) (ξ 8 1) t w = 0 then 0 else 1) k) + 1)), some (q_i (k + 1))]) dX10_wheelsIn_29 rfl (by decide) rfl ?_
          refine q_goto (tgt := 4) dX10_wheelsIn_32 (by decide) ?_
          exact q_Jle (q_le_s (rfl) (q_le_s (rfl) (q_le_s (by rw [z_sum_s _ hk0]; (try dsimp only); (repeat' split) <;> first | rfl | (exfalso; omega)) (q_le_s (rfl) (q_le_e _))))) (rfl) (rfl) (ih4 (k + 1) (by omega) (by omega) (by omega))
        · skip
          refine q_iconst dX10_wheelsIn_22 ?_
          refine q_goto (tgt := 27) dX10_wheelsIn_23 (by decide) ?_
          refine q_iadd dX10_wheelsIn_27 ?_
          refine q_istore_n (lv' := [some (.ref 8), some (q_i t), some (q_i ((z_sum (fun w => if z_nt (ξ 8 0) (ξ 8 1) t w = 0 then 0 else 1) k) + 0)), some (q_i k)]) dX10_wheelsIn_28 (by decide) rfl ?_
          refine q_iinc (lv' := [some (.ref 8), some (q_i t), some (q_i ((z_sum (fun w => if z_nt (ξ 8 0) (ξ 8 1) t w = 0 then 0 else 1) k) + 0)), some (q_i (k + 1))]) dX10_wheelsIn_29 rfl (by decide) rfl ?_
          refine q_goto (tgt := 4) dX10_wheelsIn_32 (by decide) ?_
          exact q_Jle (q_le_s (rfl) (q_le_s (rfl) (q_le_s (by rw [z_sum_s _ hk0]; (try dsimp only); (repeat' split) <;> first | rfl | (exfalso; omega)) (q_le_s (rfl) (q_le_e _))))) (rfl) (rfl) (ih4 (k + 1) (by omega) (by omega) (by omega))
  exact q_Jle (q_le_s (rfl) (q_le_s (rfl) (q_le_s (rfl) (q_le_s (rfl) (q_le_e _))))) (rfl) (rfl) (L4 ((ξ 8 0 : Int).toNat + 1) 0 (by omega) (by omega) (by omega))
set_option maxRecDepth 20000 in
theorem tX10_fewestNotchesIn (w : q_W) (ξ : m_S) (B P : Nat) (g : Int → Option Nat) (t : Int) (ht0 : 0 ≤ t) (ht1 : t < ξ 8 2) (hG : x_G ξ) : q_D mX10_fewestNotchesIn 1 [.ref 8, q_i t] (x_w w ξ B P g) (some (q_i (z_sum (fun w => if (ξ 8 1) - z_nt (ξ 8 0) (ξ 8 1) t w < z_nt (ξ 8 0) (ξ 8 1) t w then (ξ 8 1) - z_nt (ξ 8 0) (ξ 8 1) t w else z_nt (ξ 8 0) (ξ 8 1) t w) (ξ 8 0)))) (x_w w ξ B P g) := by
  refine q_T.of (lv := [some (.ref 8), some (q_i t), none, none, none]) (by decide) rfl (Nat.le_of_ble_eq_true rfl) ?_
  have hWN := hG.1
  have hW := hG.1.1
  have hN := hG.1.2
  have hS := hG.S
  refine q_iconst dX10_fewestNotchesIn_0 ?_
  refine q_istore_n (lv' := [some (.ref 8), some (q_i t), some (q_i 0), none, none]) dX10_fewestNotchesIn_1 (by decide) rfl ?_
  refine q_iconst dX10_fewestNotchesIn_2 ?_
  refine q_istore_n (lv' := [some (.ref 8), some (q_i t), some (q_i 0), some (q_i 0), none]) dX10_fewestNotchesIn_3 (by decide) rfl ?_
  have L4 : ∀ (m9 : Nat) (k : Int) (hk0 : 0 ≤ k) (hk1 : k ≤ ξ 8 0) (hm9 : ξ 8 0 - k < (m9 : Int)), q_J mX10_fewestNotchesIn 1 (fun v' w' => v' = (some (q_i (z_sum (fun w => if (ξ 8 1) - z_nt (ξ 8 0) (ξ 8 1) t w < z_nt (ξ 8 0) (ξ 8 1) t w then (ξ 8 1) - z_nt (ξ 8 0) (ξ 8 1) t w else z_nt (ξ 8 0) (ξ 8 1) t w) (ξ 8 0)))) ∧ w' = (x_w w ξ B P g)) 0 0 4 [some (.ref 8), some (q_i t), some (q_i (z_sum (fun w => if (ξ 8 1) - z_nt (ξ 8 0) (ξ 8 1) t w < z_nt (ξ 8 0) (ξ 8 1) t w then (ξ 8 1) - z_nt (ξ 8 0) (ξ 8 1) t w else z_nt (ξ 8 0) (ξ 8 1) t w) k)), some (q_i k), none] [] (x_w w ξ B P g) := by
    intro m9
    induction m9 with
    | zero => intro k hk0 hk1 hm9; exact absurd hm9 (by omega)
    | succ m9 ih4 =>
      intro k hk0 hk1 hm9
      refine q_iload_n dX10_fewestNotchesIn_4 rfl ?_
      refine q_aload_n dX10_fewestNotchesIn_5 rfl ?_
      refine q_get (v := q_i (ξ 8 0)) fX10_9_10 rfl rfl dX10_fewestNotchesIn_6 ?_
      refine q_icmp_ge (tgt := 41) dX10_fewestNotchesIn_9 (by decide) ⟨by omega, by omega⟩ ⟨by omega, by omega⟩ (fun h9 => ?_) (fun h9 => ?_)
      · skip
        refine q_iload_n dX10_fewestNotchesIn_41 rfl ?_
        exact q_iret rfl dX10_fewestNotchesIn_42 (⟨by rw [show k = ξ 8 0 by omega], rfl⟩)
      · skip
        have na := z_nt_in hWN ht0 hk0 (show k < ξ 8 0 by omega)
        refine q_aload_n dX10_fewestNotchesIn_12 rfl ?_
        refine q_iload_n dX10_fewestNotchesIn_13 rfl ?_
        refine q_iload_n dX10_fewestNotchesIn_14 rfl ?_
        refine q_cV [q_i t, q_i k] kX10_35_10 rfl (tX10_notchOf w ξ B P g t k (show (0 : Int) ≤ t by omega) (show t < ξ 8 2 by omega) (show (0 : Int) ≤ k by omega) (show k < ξ 8 0 by omega) hG) dX10_fewestNotchesIn_15 rfl (by decide) (Nat.le_of_ble_eq_true rfl) rfl ?_
        refine q_istore (lv' := [some (.ref 8), some (q_i t), some (q_i (z_sum (fun w => if (ξ 8 1) - z_nt (ξ 8 0) (ξ 8 1) t w < z_nt (ξ 8 0) (ξ 8 1) t w then (ξ 8 1) - z_nt (ξ 8 0) (ξ 8 1) t w else z_nt (ξ 8 0) (ξ 8 1) t w) k)), some (q_i k), some (q_i (z_nt (ξ 8 0) (ξ 8 1) t k))]) dX10_fewestNotchesIn_18 (by decide) rfl ?_
        refine q_iload_n dX10_fewestNotchesIn_20 rfl ?_
        refine q_iload dX10_fewestNotchesIn_21 rfl ?_
        refine q_aload_n dX10_fewestNotchesIn_23 rfl ?_
        refine q_get (v := q_i (ξ 8 1)) fX10_15_10 rfl rfl dX10_fewestNotchesIn_24 ?_
        refine q_iload dX10_fewestNotchesIn_27 rfl ?_
        refine q_isub dX10_fewestNotchesIn_29 ?_
        refine q_jmin wd_390 wd_292 wd_68 wd_293 (by decide) (Nat.le_of_ble_eq_true rfl) ⟨by omega, by omega⟩ ⟨by omega, by omega⟩ dX10_fewestNotchesIn_30 ?_
        refine q_iadd dX10_fewestNotchesIn_33 ?_
        refine q_istore_n (lv' := [some (.ref 8), some (q_i t), some (q_i ((z_sum (fun w => if (ξ 8 1) - z_nt (ξ 8 0) (ξ 8 1) t w < z_nt (ξ 8 0) (ξ 8 1) t w then (ξ 8 1) - z_nt (ξ 8 0) (ξ 8 1) t w else z_nt (ξ 8 0) (ξ 8 1) t w) k) + (if ((ξ 8 1) - (z_nt (ξ 8 0) (ξ 8 1) t k)) < (z_nt (ξ 8 0) (ξ 8 1) t k) then ((ξ 8 1) - (z_nt (ξ 8 0) (ξ 8 1) t k)) else (z_nt (ξ 8 0) (ξ 8 1) t k)))), some (q_i k), some (q_i (z_nt (ξ 8 0) (ξ 8 1) t k))]) dX10_fewestNotchesIn_34 (by decide) rfl ?_
        refine q_iinc (lv' := [some (.ref 8), some (q_i t), some (q_i ((z_sum (fun w => if (ξ 8 1) - z_nt (ξ 8 0) (ξ 8 1) t w < z_nt (ξ 8 0) (ξ 8 1) t w then (ξ 8 1) - z_nt (ξ 8 0) (ξ 8 1) t w else z_nt (ξ 8 0) (ξ 8 1) t w) k) + (if ((ξ 8 1) - (z_nt (ξ 8 0) (ξ 8 1) t k)) < (z_nt (ξ 8 0) (ξ 8 1) t k) then ((ξ 8 1) - (z_nt (ξ 8 0) (ξ 8 1) t k)) else (z_nt (ξ 8 0) (ξ 8 1) t k)))), some (q_i (k + 1)), some (q_i (z_nt (ξ 8 0) (ξ 8 1) t k))]) dX10_fewestNotchesIn_35 rfl (by decide) rfl ?_
        refine q_goto (tgt := 4) dX10_fewestNotchesIn_38 (by decide) ?_
        exact q_Jle (q_le_s (rfl) (q_le_s (rfl) (q_le_s (by rw [z_sum_s _ hk0]) (q_le_s (rfl) (q_le_n (q_le_e _)))))) (rfl) (rfl) (ih4 (k + 1) (by omega) (by omega) (by omega))
  exact q_Jle (q_le_s (rfl) (q_le_s (rfl) (q_le_s (rfl) (q_le_s (rfl) (q_le_n (q_le_e _)))))) (rfl) (rfl) (L4 ((ξ 8 0 : Int).toNat + 1) 0 (by omega) (by omega) (by omega))
set_option maxRecDepth 20000 in
theorem tX10_leavesAhead (w : q_W) (ξ : m_S) (B P : Nat) (g : Int → Option Nat) (t v : Int) (ht0 : 0 ≤ t) (ht1 : t < ξ 8 2) (hv0 : 0 ≤ v) (hv1 : v ≤ ξ 8 0) (hG : x_G ξ) : q_D mX10_leavesAhead 1 [.ref 8, q_i t, q_i v] (x_w w ξ B P g) (some (q_i (z_la (ξ 8 0) (ξ 8 1) t v))) (x_w w ξ B P g) := by
  refine q_T.of (lv := [some (.ref 8), some (q_i t), some (q_i v), none]) (by decide) rfl (Nat.le_of_ble_eq_true rfl) ?_
  have hWN := hG.1
  have hW := hG.1.1
  have hN := hG.1.2
  have hS := hG.S
  refine q_iconst dX10_leavesAhead_0 ?_
  refine q_istore_n (lv' := [some (.ref 8), some (q_i t), some (q_i v), some (q_i 0)]) dX10_leavesAhead_1 (by decide) rfl ?_
  have L2 : ∀ (m9 : Nat) (k : Int) (hk0 : 0 ≤ k) (hk1 : k ≤ v) (hz : ∀ j, 0 ≤ j → j < k → (z_nt (ξ 8 0) (ξ 8 1) t j) = 0) (hm9 : v - k < (m9 : Int)), q_J mX10_leavesAhead 1 (fun v' w' => v' = (some (q_i (z_la (ξ 8 0) (ξ 8 1) t v))) ∧ w' = (x_w w ξ B P g)) 0 0 2 [some (.ref 8), some (q_i t), some (q_i v), some (q_i k)] [] (x_w w ξ B P g) := by
    intro m9
    induction m9 with
    | zero => intro k hk0 hk1 hz hm9; exact absurd hm9 (by omega)
    | succ m9 ih2 =>
      intro k hk0 hk1 hz hm9
      refine q_iload_n dX10_leavesAhead_2 rfl ?_
      refine q_iload_n dX10_leavesAhead_3 rfl ?_
      refine q_icmp_ge (tgt := 24) dX10_leavesAhead_4 (by decide) ⟨by omega, by omega⟩ ⟨by omega, by omega⟩ (fun h4 => ?_) (fun h4 => ?_)
      · skip
        refine q_iconst dX10_leavesAhead_24 ?_
        exact q_zret rfl (Or.inr rfl) dX10_leavesAhead_25 (⟨by unfold z_la; rw [show z_prod _ v = 1 from z_p_1 (fun j h0 h1 => if_pos (hz j h0 (by omega)))], rfl⟩)
      · skip
        have na := z_nt_in hWN ht0 hk0 (show k < ξ 8 0 by omega)
        refine q_aload_n dX10_leavesAhead_7 rfl ?_
        refine q_iload_n dX10_leavesAhead_8 rfl ?_
        refine q_iload_n dX10_leavesAhead_9 rfl ?_
        refine q_cV [q_i t, q_i k] kX10_35_10 rfl (tX10_notchOf w ξ B P g t k (show (0 : Int) ≤ t by omega) (show t < ξ 8 2 by omega) (show (0 : Int) ≤ k by omega) (show k < ξ 8 0 by omega) hG) dX10_leavesAhead_10 rfl (by decide) (Nat.le_of_ble_eq_true rfl) rfl ?_
        refine q_if_eq (tgt := 18) dX10_leavesAhead_13 (by decide) ⟨by omega, by omega⟩ (fun h13 => ?_) (fun h13 => ?_)
        · skip
          refine q_iinc (lv' := [some (.ref 8), some (q_i t), some (q_i v), some (q_i (k + 1))]) dX10_leavesAhead_18 rfl (by decide) rfl ?_
          refine q_goto (tgt := 2) dX10_leavesAhead_21 (by decide) ?_
          exact q_Jle (q_le_s (rfl) (q_le_s (rfl) (q_le_s (rfl) (q_le_s (rfl) (q_le_e _))))) (rfl) (rfl) (ih2 (k + 1) (by omega) (by omega) (fun j h0 h1 => by rcases (show j < k ∨ j = k by omega) with e | e; exact hz j h0 e; rw [e]; exact h13) (by omega))
        · skip
          refine q_iconst dX10_leavesAhead_16 ?_
          exact q_zret rfl (Or.inl rfl) dX10_leavesAhead_17 (⟨by unfold z_la; rw [z_prod_z (j := k) hk0 (by omega) (if_neg h13)], rfl⟩)
  exact q_Jle (q_le_s (rfl) (q_le_s (rfl) (q_le_s (rfl) (q_le_s (rfl) (q_le_e _))))) (rfl) (rfl) (L2 ((v : Int).toNat + 1) 0 (by omega) (by omega) (fun j h0 h1 => by omega) (by omega))
