/-! the class: codes in the order of tries -/
def x_so (ξ : m_S) : Int → Int := z_lo (ξ 14) (ξ 16) (ξ 8 2)
def x_srt (ξ : m_S) : m_S := m_u ξ 16 (x_so ξ)
theorem x_so_r {ξ : m_S} (hS : 0 ≤ ξ 8 2) {j : Int} (h0 : 0 ≤ j) (h1 : j < z_pos (ξ 14) (ξ 8 2)) : 0 ≤ x_so ξ j ∧ x_so ξ j < ξ 8 2 := z_lo_r _ _ hS h0 h1
set_option maxRecDepth 20000 in
theorem tX8_sortCodes (w : q_W) (ξ : m_S) (B P : Nat) (g : Int → Option Nat) (hS : 0 ≤ ξ 8 2 ∧ ξ 8 2 ≤ 216) (hV : ∀ c, 0 ≤ c → c < ξ 8 2 → 0 ≤ ξ 14 c ∧ ξ 14 c ≤ 4294967296) : q_D mX8_sortCodes 0 [.ref 7] (x_w w ξ B P g) (some (q_i (z_pos (ξ 14) (ξ 8 2)))) (x_w w (x_srt ξ) B P g) := by
  refine q_T.of (lv := [some (.ref 7), none, none, none]) (by decide) rfl (Nat.le_of_ble_eq_true rfl) ?_
  refine q_iconst dX8_sortCodes_0 ?_
  refine q_istore_n (lv' := [some (.ref 7), some (q_i 0), none, none]) dX8_sortCodes_1 (by decide) rfl ?_
  refine q_iconst dX8_sortCodes_2 ?_
  refine q_istore_n (lv' := [some (.ref 7), some (q_i 0), some (q_i 0), none]) dX8_sortCodes_3 (by decide) rfl ?_
  have L4 : ∀ (m9 : Nat) (c : Int) (hc0 : 0 ≤ c) (hc1 : c ≤ ξ 8 2) (hm9 : ξ 8 2 - c < (m9 : Int)), q_J mX8_sortCodes 0 (fun v' w' => v' = (some (q_i (z_pos (ξ 14) (ξ 8 2)))) ∧ w' = (x_w w (x_srt ξ) B P g)) 0 0 4 [some (.ref 7), some (q_i (z_pos (ξ 14) c)), some (q_i c), none] [] (x_w w (m_u ξ 16 (z_lo (ξ 14) (ξ 16) c)) B P g) := by
    intro m9
    induction m9 with
    | zero => intro c hc0 hc1 hm9; exact absurd hm9 (by omega)
    | succ m9 ih4 =>
      intro c hc0 hc1 hm9
      refine q_iload_n dX8_sortCodes_4 rfl ?_
      refine q_aload_n dX8_sortCodes_5 rfl ?_
      refine q_get (v := .ref 8) fX8_18_8 rfl rfl dX8_sortCodes_6 ?_
      refine q_get (v := q_i (ξ 8 2)) fX8_144_10 rfl rfl dX8_sortCodes_9 ?_
      refine q_icmp_ge (tgt := 91) dX8_sortCodes_12 (by decide) ⟨by omega, by omega⟩ ⟨by omega, by omega⟩ (fun h12 => ?_) (fun h12 => ?_)
      · skip
        refine q_iload_n dX8_sortCodes_91 rfl ?_
        exact q_iret rfl dX8_sortCodes_92 (⟨by rw [show c = ξ 8 2 by omega], by rw [show c = ξ 8 2 by omega]; rfl⟩)
      · skip
        have hpr := z_pos_r (ξ 14) hc0
        refine q_aload_n dX8_sortCodes_15 rfl ?_
        refine q_get (v := .ref 14) fX8_31_8 rfl rfl dX8_sortCodes_16 ?_
        refine q_iload_n dX8_sortCodes_19 rfl ?_
        refine q_lald (f := (ξ 14)) (n9 := 216) rfl (by omega) (by omega) dX8_sortCodes_20 ?_
        refine q_lconst 0 dX8_sortCodes_21 ?_
        refine q_lcmp_le (tgt := 85) dX8_sortCodes_22 dX8_sortCodes_23 (by decide) ⟨by have := hV c hc0 (by omega); omega, by have := hV c hc0 (by omega); omega⟩ ⟨by decide, by decide⟩ (fun h22 => ?_) (fun h22 => ?_)
        · skip
          refine q_iinc (lv' := [some (.ref 7), some (q_i (z_pos (ξ 14) c)), some (q_i (c + 1)), none]) dX8_sortCodes_85 rfl (by decide) rfl ?_
          refine q_goto (tgt := 4) dX8_sortCodes_88 (by decide) ?_
          exact q_Jle (q_le_s (rfl) (q_le_s (by rw [z_pos_s _ hc0, if_neg (by omega), Int.add_zero]) (q_le_s (rfl) (q_le_n (q_le_e _))))) (rfl) (by rw [z_lo_s _ _ hc0, if_neg (by omega)]) (ih4 (c + 1) (by omega) (by omega) (by omega))
        · skip
          refine q_iload_n dX8_sortCodes_26 rfl ?_
          refine q_istore_n (lv' := [some (.ref 7), some (q_i (z_pos (ξ 14) c)), some (q_i c), some (q_i (z_pos (ξ 14) c))]) dX8_sortCodes_27 (by decide) rfl ?_
          have L28 : ∀ (m9 : Nat) (k : Int) (so : Int → Int) (hk0 : 0 ≤ k) (hk1 : k ≤ z_pos (ξ 14) c) (hso : ∀ j, 0 ≤ j → j < k → 0 ≤ so j ∧ so j < c) (hsk0 : z_sk (ξ 14) c k.toNat so = z_sk (ξ 14) c (z_pos (ξ 14) c).toNat (z_lo (ξ 14) (ξ 16) c)) (hm9 : k < (m9 : Int)), q_J mX8_sortCodes 0 (fun v' w' => v' = (some (q_i (z_pos (ξ 14) (ξ 8 2)))) ∧ w' = (x_w w (x_srt ξ) B P g)) 0 0 28 [some (.ref 7), some (q_i (z_pos (ξ 14) c)), some (q_i c), some (q_i k)] [] (x_w w (m_u ξ 16 so) B P g) := by
            intro m9
            induction m9 with
            | zero => intro k so hk0 hk1 hso hsk0 hm9; exact absurd hm9 (by omega)
            | succ m9 ih28 =>
              intro k so hk0 hk1 hso hsk0 hm9
              refine q_iload_n dX8_sortCodes_28 rfl ?_
              refine q_if_le (tgt := 75) dX8_sortCodes_29 (by decide) ⟨by omega, by omega⟩ (fun h29 => ?_) (fun h29 => ?_)
              · skip
                have hend : z_sk (ξ 14) c k.toNat so = (so, k) := by rw [z_sk_0 _ _ _ (by omega), show k = 0 by omega]
                refine q_aload_n dX8_sortCodes_75 rfl ?_
                refine q_get (v := .ref 16) fX8_38_8 rfl rfl dX8_sortCodes_76 ?_
                refine q_iload_n dX8_sortCodes_79 rfl ?_
                refine q_iload_n dX8_sortCodes_80 rfl ?_
                refine q_iast (f := so) (n9 := 216) rfl (by omega) (by omega) dX8_sortCodes_81 ?_
                refine q_Jeq rfl rfl (x_up (f := (q_us so k c)) rfl) ?_
                refine q_iinc (lv' := [some (.ref 7), some (q_i ((z_pos (ξ 14) c) + 1)), some (q_i c), some (q_i k)]) dX8_sortCodes_82 rfl (by decide) rfl ?_
                refine q_iinc (lv' := [some (.ref 7), some (q_i ((z_pos (ξ 14) c) + 1)), some (q_i (c + 1)), some (q_i k)]) dX8_sortCodes_85 rfl (by decide) rfl ?_
                refine q_goto (tgt := 4) dX8_sortCodes_88 (by decide) ?_
                exact q_Jle (q_le_s (rfl) (q_le_s (by rw [z_pos_s _ hc0, if_pos h22]) (q_le_s (rfl) (q_le_n (q_le_e _))))) (rfl) (by rw [z_lo_s _ _ hc0, if_pos h22]; unfold z_ins; rw [← hsk0, hend, m_uu]) (ih4 (c + 1) (by omega) (by omega) (by omega))
              · skip
                have hsk := hso (k - 1) (by omega) (by omega)
                refine q_aload_n dX8_sortCodes_32 rfl ?_
                refine q_get (v := .ref 14) fX8_31_8 rfl rfl dX8_sortCodes_33 ?_
                refine q_aload_n dX8_sortCodes_36 rfl ?_
                refine q_get (v := .ref 16) fX8_38_8 rfl rfl dX8_sortCodes_37 ?_
                refine q_iload_n dX8_sortCodes_40 rfl ?_
                refine q_iconst dX8_sortCodes_41 ?_
                refine q_isub dX8_sortCodes_42 ?_
                refine q_iald (f := so) (n9 := 216) rfl (by omega) (by omega) dX8_sortCodes_43 ?_
                refine q_lald (f := (ξ 14)) (n9 := 216) rfl (by omega) (by omega) dX8_sortCodes_44 ?_
                refine q_aload_n dX8_sortCodes_45 rfl ?_
                refine q_get (v := .ref 14) fX8_31_8 rfl rfl dX8_sortCodes_46 ?_
                refine q_iload_n dX8_sortCodes_49 rfl ?_
                refine q_lald (f := (ξ 14)) (n9 := 216) rfl (by omega) (by omega) dX8_sortCodes_50 ?_
                refine q_lcmp_ge (tgt := 75) dX8_sortCodes_51 dX8_sortCodes_52 (by decide) ⟨by have := hV (so (k - 1)) hsk.1 (by omega); omega, by have := hV (so (k - 1)) hsk.1 (by omega); omega⟩ ⟨by have := hV c hc0 (by omega); omega, by have := hV c hc0 (by omega); omega⟩ (fun h51 => ?_) (fun h51 => ?_)
                · skip
                  have hend : z_sk (ξ 14) c k.toNat so = (so, k) := z_sk_no (by omega) (by omega)
                  refine q_aload_n dX8_sortCodes_75 rfl ?_
                  refine q_get (v := .ref 16) fX8_38_8 rfl rfl dX8_sortCodes_76 ?_
                  refine q_iload_n dX8_sortCodes_79 rfl ?_
                  refine q_iload_n dX8_sortCodes_80 rfl ?_
                  refine q_iast (f := so) (n9 := 216) rfl (by omega) (by omega) dX8_sortCodes_81 ?_
                  refine q_Jeq rfl rfl (x_up (f := (q_us so k c)) rfl) ?_
                  refine q_iinc (lv' := [some (.ref 7), some (q_i ((z_pos (ξ 14) c) + 1)), some (q_i c), some (q_i k)]) dX8_sortCodes_82 rfl (by decide) rfl ?_
                  refine q_iinc (lv' := [some (.ref 7), some (q_i ((z_pos (ξ 14) c) + 1)), some (q_i (c + 1)), some (q_i k)]) dX8_sortCodes_85 rfl (by decide) rfl ?_
                  refine q_goto (tgt := 4) dX8_sortCodes_88 (by decide) ?_
                  exact q_Jle (q_le_s (rfl) (q_le_s (by rw [z_pos_s _ hc0, if_pos h22]) (q_le_s (rfl) (q_le_n (q_le_e _))))) (rfl) (by rw [z_lo_s _ _ hc0, if_pos h22]; unfold z_ins; rw [← hsk0, hend, m_uu]) (ih4 (c + 1) (by omega) (by omega) (by omega))
                · skip
                  refine q_aload_n dX8_sortCodes_55 rfl ?_
                  refine q_get (v := .ref 16) fX8_38_8 rfl rfl dX8_sortCodes_56 ?_
                  refine q_iload_n dX8_sortCodes_59 rfl ?_
                  refine q_aload_n dX8_sortCodes_60 rfl ?_
                  refine q_get (v := .ref 16) fX8_38_8 rfl rfl dX8_sortCodes_61 ?_
                  refine q_iload_n dX8_sortCodes_64 rfl ?_
                  refine q_iconst dX8_sortCodes_65 ?_
                  refine q_isub dX8_sortCodes_66 ?_
                  refine q_iald (f := so) (n9 := 216) rfl (by omega) (by omega) dX8_sortCodes_67 ?_
                  refine q_iast (f := so) (n9 := 216) rfl (by omega) (by omega) dX8_sortCodes_68 ?_
                  refine q_Jeq rfl rfl (x_up (f := (q_us so k (so (k - 1)))) rfl) ?_
                  refine q_iinc (lv' := [some (.ref 7), some (q_i (z_pos (ξ 14) c)), some (q_i c), some (q_i (k + (-1)))]) dX8_sortCodes_69 rfl (by decide) rfl ?_
                  refine q_goto (tgt := 28) dX8_sortCodes_72 (by decide) ?_
                  exact q_Jle (q_le_s (rfl) (q_le_s (rfl) (q_le_s (rfl) (q_le_s (by rw [show k + -1 = k - 1 by omega]) (q_le_e _))))) (rfl) (by rw [m_uu]) (ih28 (k - 1) (q_us so k (so (k - 1))) (by omega) (by omega) (fun j h0 h1 => by rw [q_us_n (by omega)]; exact hso j h0 (by omega)) ((z_sk_go (by omega) h51).symm.trans hsk0) (by omega))
          exact q_Jle (q_le_s (rfl) (q_le_s (rfl) (q_le_s (rfl) (q_le_s (rfl) (q_le_e _))))) (rfl) (rfl) (L28 ((z_pos (ξ 14) c : Int).toNat + 1) (z_pos (ξ 14) c) (z_lo (ξ 14) (ξ 16) c) (by omega) (by omega) (fun j h0 h1 => z_lo_r (ξ 14) (ξ 16) hc0 h0 h1) (rfl) (by omega))
  exact q_Jle (q_le_s (rfl) (q_le_s (rfl) (q_le_s (rfl) (q_le_n (q_le_e _))))) (rfl) ((congrArg (fun z => x_w w z B P g) (m_uid ξ 16)).symm) (L4 ((ξ 8 2 : Int).toNat + 1) 0 (by omega) (by omega) (by omega))
set_option maxRecDepth 20000 in
theorem tX8_triesInAll (w : q_W) (ξ : m_S) (B P : Nat) (g : Int → Option Nat) (hS : 0 ≤ ξ 8 2 ∧ ξ 8 2 ≤ 216) (hV : ∀ c, 0 ≤ c → c < ξ 8 2 → 0 ≤ ξ 14 c ∧ ξ 14 c ≤ 4294967296) : q_D mX8_triesInAll 1 [.ref 7] (x_w w ξ B P g) (some (q_l (z_sum (fun j => (j + 1) * ξ 14 (x_so ξ j)) (z_pos (ξ 14) (ξ 8 2))))) (x_w w (x_srt ξ) B P g) := by
  refine q_T.of (lv := [some (.ref 7), none, none, none, none]) (by decide) rfl (Nat.le_of_ble_eq_true rfl) ?_
  have hpr := z_pos_r (ξ 14) hS.1
  refine q_aload_n dX8_triesInAll_0 rfl ?_
  refine q_cV [] kX8_182_8 rfl (tX8_sortCodes w ξ B P g (by omega) hV) dX8_triesInAll_1 rfl (by decide) (Nat.le_of_ble_eq_true rfl) rfl ?_
  refine q_istore_n (lv' := [some (.ref 7), some (q_i (z_pos (ξ 14) (ξ 8 2))), none, none, none]) dX8_triesInAll_4 (by decide) rfl ?_
  refine q_lconst 0 dX8_triesInAll_5 ?_
  refine q_lstore_n (lv' := [some (.ref 7), some (q_i (z_pos (ξ 14) (ξ 8 2))), some (q_l 0), none, none]) dX8_triesInAll_6 (by decide) rfl ?_
  refine q_iconst dX8_triesInAll_7 ?_
  refine q_istore (lv' := [some (.ref 7), some (q_i (z_pos (ξ 14) (ξ 8 2))), some (q_l 0), none, some (q_i 0)]) dX8_triesInAll_8 (by decide) rfl ?_
  have L10 : ∀ (m9 : Nat) (k : Int) (hk0 : 0 ≤ k) (hk1 : k ≤ (z_pos (ξ 14) (ξ 8 2))) (hm9 : (z_pos (ξ 14) (ξ 8 2)) - k < (m9 : Int)), q_J mX8_triesInAll 1 (fun v' w' => v' = (some (q_l (z_sum (fun j => (j + 1) * ξ 14 (x_so ξ j)) (z_pos (ξ 14) (ξ 8 2))))) ∧ w' = (x_w w (x_srt ξ) B P g)) 0 0 10 [some (.ref 7), some (q_i (z_pos (ξ 14) (ξ 8 2))), some (q_l (z_sum (fun j => (j + 1) * ξ 14 (x_so ξ j)) k)), none, some (q_i k)] [] (x_w w (x_srt ξ) B P g) := by
    intro m9
    induction m9 with
    | zero => intro k hk0 hk1 hm9; exact absurd hm9 (by omega)
    | succ m9 ih10 =>
      intro k hk0 hk1 hm9
      refine q_iload dX8_triesInAll_10 rfl ?_
      refine q_iload_n dX8_triesInAll_12 rfl ?_
      refine q_icmp_ge (tgt := 43) dX8_triesInAll_13 (by decide) ⟨by omega, by omega⟩ ⟨by omega, by omega⟩ (fun h13 => ?_) (fun h13 => ?_)
      · skip
        refine q_lload_n dX8_triesInAll_43 rfl ?_
        exact q_lret rfl dX8_triesInAll_44 (⟨by rw [show k = (z_pos (ξ 14) (ξ 8 2)) by omega], rfl⟩)
      · skip
        have hsr := x_so_r hS.1 hk0 (by omega)
        refine q_lload_n dX8_triesInAll_16 rfl ?_
        refine q_iload dX8_triesInAll_17 rfl ?_
        refine q_iconst dX8_triesInAll_19 ?_
        refine q_iadd dX8_triesInAll_20 ?_
        refine q_i2lr dX8_triesInAll_21 ⟨by omega, by omega⟩ ?_
        refine q_aload_n dX8_triesInAll_22 rfl ?_
        refine q_get (v := .ref 14) fX8_31_8 rfl rfl dX8_triesInAll_23 ?_
        refine q_aload_n dX8_triesInAll_26 rfl ?_
        refine q_get (v := .ref 16) fX8_38_8 rfl rfl dX8_triesInAll_27 ?_
        refine q_iload dX8_triesInAll_30 rfl ?_
        refine q_iald (f := (x_so ξ)) (n9 := 216) rfl (by omega) (by omega) dX8_triesInAll_32 ?_
        refine q_lald (f := (ξ 14)) (n9 := 216) rfl (by omega) (by omega) dX8_triesInAll_33 ?_
        refine q_lmul dX8_triesInAll_34 ?_
        refine q_ladd dX8_triesInAll_35 ?_
        refine q_lstore_n (lv' := [some (.ref 7), some (q_i (z_pos (ξ 14) (ξ 8 2))), some (q_l ((z_sum (fun j => (j + 1) * ξ 14 (x_so ξ j)) k) + ((k + 1) * ((ξ 14) ((x_so ξ) k))))), none, some (q_i k)]) dX8_triesInAll_36 (by decide) rfl ?_
        refine q_iinc (lv' := [some (.ref 7), some (q_i (z_pos (ξ 14) (ξ 8 2))), some (q_l ((z_sum (fun j => (j + 1) * ξ 14 (x_so ξ j)) k) + ((k + 1) * ((ξ 14) ((x_so ξ) k))))), none, some (q_i (k + 1))]) dX8_triesInAll_37 rfl (by decide) rfl ?_
        refine q_goto (tgt := 10) dX8_triesInAll_40 (by decide) ?_
        exact q_Jle (q_le_s (rfl) (q_le_s (rfl) (q_le_s (by rw [z_sum_s _ hk0]) (q_le_n (q_le_s (rfl) (q_le_e _)))))) (rfl) (rfl) (ih10 (k + 1) (by omega) (by omega) (by omega))
  exact q_Jle (q_le_s (rfl) (q_le_s (rfl) (q_le_s (rfl) (q_le_n (q_le_s (rfl) (q_le_e _)))))) (rfl) (rfl) (L10 (((z_pos (ξ 14) (ξ 8 2)) : Int).toNat + 1) 0 (by omega) (by omega) (by omega))
set_option maxRecDepth 20000 in
theorem tX8_weightOfFirst (w : q_W) (ξ : m_S) (B P : Nat) (g : Int → Option Nat) (n : Int) (hn : 0 ≤ n ∧ n ≤ 216) (hS : 0 ≤ ξ 8 2 ∧ ξ 8 2 ≤ 216) (hV : ∀ c, 0 ≤ c → c < ξ 8 2 → 0 ≤ ξ 14 c ∧ ξ 14 c ≤ 4294967296) : q_D mX8_weightOfFirst 1 [.ref 7, q_i n] (x_w w ξ B P g) (some (q_l (z_sum (fun j => ξ 14 (x_so ξ j)) (z_min n (z_pos (ξ 14) (ξ 8 2)))))) (x_w w (x_srt ξ) B P g) := by
  refine q_T.of (lv := [some (.ref 7), some (q_i n), none, none, none, none]) (by decide) rfl (Nat.le_of_ble_eq_true rfl) ?_
  have hpr := z_pos_r (ξ 14) hS.1
  have hm : 0 ≤ (z_min n (z_pos (ξ 14) (ξ 8 2))) ∧ (z_min n (z_pos (ξ 14) (ξ 8 2))) ≤ (z_pos (ξ 14) (ξ 8 2)) := by unfold z_min; split <;> omega
  refine q_iload_n dX8_weightOfFirst_0 rfl ?_
  refine q_aload_n dX8_weightOfFirst_1 rfl ?_
  refine q_cV [] kX8_182_8 rfl (tX8_sortCodes w ξ B P g (by omega) hV) dX8_weightOfFirst_2 rfl (by decide) (Nat.le_of_ble_eq_true rfl) rfl ?_
  refine q_jmin wd_835 wd_292 wd_68 wd_293 (by decide) (Nat.le_of_ble_eq_true rfl) ⟨by omega, by omega⟩ ⟨by omega, by omega⟩ dX8_weightOfFirst_5 ?_
  refine q_istore_n (lv' := [some (.ref 7), some (q_i n), some (q_i (if (z_pos (ξ 14) (ξ 8 2)) < n then (z_pos (ξ 14) (ξ 8 2)) else n)), none, none, none]) dX8_weightOfFirst_8 (by decide) rfl ?_
  show q_J _ _ _ _ _ _ [some (.ref 7), some (q_i n), some (q_i (z_min n (z_pos (ξ 14) (ξ 8 2)))), none, none, none] [] _
  refine q_lconst 0 dX8_weightOfFirst_9 ?_
  refine q_lstore_n (lv' := [some (.ref 7), some (q_i n), some (q_i (z_min n (z_pos (ξ 14) (ξ 8 2)))), some (q_l 0), none, none]) dX8_weightOfFirst_10 (by decide) rfl ?_
  refine q_iconst dX8_weightOfFirst_11 ?_
  refine q_istore (lv' := [some (.ref 7), some (q_i n), some (q_i (z_min n (z_pos (ξ 14) (ξ 8 2)))), some (q_l 0), none, some (q_i 0)]) dX8_weightOfFirst_12 (by decide) rfl ?_
  have L14 : ∀ (m9 : Nat) (k : Int) (hk0 : 0 ≤ k) (hk1 : k ≤ (z_min n (z_pos (ξ 14) (ξ 8 2)))) (hm9 : (z_min n (z_pos (ξ 14) (ξ 8 2))) - k < (m9 : Int)), q_J mX8_weightOfFirst 1 (fun v' w' => v' = (some (q_l (z_sum (fun j => ξ 14 (x_so ξ j)) (z_min n (z_pos (ξ 14) (ξ 8 2)))))) ∧ w' = (x_w w (x_srt ξ) B P g)) 0 0 14 [some (.ref 7), some (q_i n), some (q_i (z_min n (z_pos (ξ 14) (ξ 8 2)))), some (q_l (z_sum (fun j => ξ 14 (x_so ξ j)) k)), none, some (q_i k)] [] (x_w w (x_srt ξ) B P g) := by
    intro m9
    induction m9 with
    | zero => intro k hk0 hk1 hm9; exact absurd hm9 (by omega)
    | succ m9 ih14 =>
      intro k hk0 hk1 hm9
      refine q_iload dX8_weightOfFirst_14 rfl ?_
      refine q_iload_n dX8_weightOfFirst_16 rfl ?_
      refine q_icmp_ge (tgt := 41) dX8_weightOfFirst_17 (by decide) ⟨by omega, by omega⟩ ⟨by omega, by omega⟩ (fun h17 => ?_) (fun h17 => ?_)
      · skip
        refine q_lload_n dX8_weightOfFirst_41 rfl ?_
        exact q_lret rfl dX8_weightOfFirst_42 (⟨by rw [show k = (z_min n (z_pos (ξ 14) (ξ 8 2))) by omega], rfl⟩)
      · skip
        have hsr := x_so_r hS.1 hk0 (by omega)
        refine q_lload_n dX8_weightOfFirst_20 rfl ?_
        refine q_aload_n dX8_weightOfFirst_21 rfl ?_
        refine q_get (v := .ref 14) fX8_31_8 rfl rfl dX8_weightOfFirst_22 ?_
        refine q_aload_n dX8_weightOfFirst_25 rfl ?_
        refine q_get (v := .ref 16) fX8_38_8 rfl rfl dX8_weightOfFirst_26 ?_
        refine q_iload dX8_weightOfFirst_29 rfl ?_
        refine q_iald (f := (x_so ξ)) (n9 := 216) rfl (by omega) (by omega) dX8_weightOfFirst_31 ?_
        refine q_lald (f := (ξ 14)) (n9 := 216) rfl (by omega) (by omega) dX8_weightOfFirst_32 ?_
        refine q_ladd dX8_weightOfFirst_33 ?_
        refine q_lstore_n (lv' := [some (.ref 7), some (q_i n), some (q_i (z_min n (z_pos (ξ 14) (ξ 8 2)))), some (q_l ((z_sum (fun j => ξ 14 (x_so ξ j)) k) + ((ξ 14) ((x_so ξ) k)))), none, some (q_i k)]) dX8_weightOfFirst_34 (by decide) rfl ?_
        refine q_iinc (lv' := [some (.ref 7), some (q_i n), some (q_i (z_min n (z_pos (ξ 14) (ξ 8 2)))), some (q_l ((z_sum (fun j => ξ 14 (x_so ξ j)) k) + ((ξ 14) ((x_so ξ) k)))), none, some (q_i (k + 1))]) dX8_weightOfFirst_35 rfl (by decide) rfl ?_
        refine q_goto (tgt := 14) dX8_weightOfFirst_38 (by decide) ?_
        exact q_Jle (q_le_s (rfl) (q_le_s (rfl) (q_le_s (rfl) (q_le_s (by rw [z_sum_s _ hk0]) (q_le_n (q_le_s (rfl) (q_le_e _))))))) (rfl) (rfl) (ih14 (k + 1) (by omega) (by omega) (by omega))
  exact q_Jle (q_le_s (rfl) (q_le_s (rfl) (q_le_s (rfl) (q_le_s (rfl) (q_le_n (q_le_s (rfl) (q_le_e _))))))) (rfl) (rfl) (L14 (((z_min n (z_pos (ξ 14) (ξ 8 2))) : Int).toNat + 1) 0 (by omega) (by omega) (by omega))
