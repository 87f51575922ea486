/-! the class: rows -/
set_option maxRecDepth 20000 in
theorem tX7_isMissing (w : q_W) (ξ : m_S) (B P : Nat) (g : Int → Option Nat) (a n : Nat) (hA : x_isR a n) (hz : -1 ≤ ξ a 1 ∧ ξ a 1 ≤ 60) : q_D mX7_isMissing 0 [.ref a] (x_w w ξ B P g) (some (q_b (ξ a 1 < 0))) (x_w w ξ B P g) := by
  refine q_T.of (lv := [some (.ref a)]) (by decide) rfl (Nat.le_of_ble_eq_true rfl) ?_
  refine q_aload_n dX7_isMissing_0 rfl ?_
  refine q_get (v := q_i (ξ a 1)) fX7_9_7 (x_rO hA) rfl dX7_isMissing_1 ?_
  refine q_if_ge (tgt := 11) dX7_isMissing_4 (by decide) ⟨by omega, by omega⟩ (fun h4 => ?_) (fun h4 => ?_)
  · skip
    refine q_iconst dX7_isMissing_11 ?_
    exact q_zret rfl (Or.inl rfl) dX7_isMissing_12 (⟨congrArg some (q_b0 (by omega)), rfl⟩)
  · skip
    refine q_iconst dX7_isMissing_7 ?_
    refine q_goto (tgt := 12) dX7_isMissing_8 (by decide) ?_
    exact q_zret rfl (Or.inr rfl) dX7_isMissing_12 (⟨congrArg some (q_b1 (by omega)), rfl⟩)
set_option maxRecDepth 20000 in
theorem tX7_has (w : q_W) (ξ : m_S) (B P : Nat) (g : Int → Option Nat) (a n : Nat) (hA : x_isR a n) (hz : -1 ≤ ξ a 1 ∧ ξ a 1 ≤ 60) (i : Int) (hi : q_r i) : q_D mX7_has 0 [.ref a, q_i i] (x_w w ξ B P g) (some (q_b (0 ≤ i ∧ i < ξ a 1))) (x_w w ξ B P g) := by
  refine q_T.of (lv := [some (.ref a), some (q_i i)]) (by decide) rfl (Nat.le_of_ble_eq_true rfl) ?_
  refine q_iload_n dX7_has_0 rfl ?_
  refine q_if_lt (tgt := 16) dX7_has_1 (by decide) hi (fun h1 => ?_) (fun h1 => ?_)
  · skip
    refine q_iconst dX7_has_16 ?_
    exact q_zret rfl (Or.inl rfl) dX7_has_17 (⟨congrArg some (q_b0 (by omega)), rfl⟩)
  · skip
    refine q_iload_n dX7_has_4 rfl ?_
    refine q_aload_n dX7_has_5 rfl ?_
    refine q_get (v := q_i (ξ a 1)) fX7_9_7 (x_rO hA) rfl dX7_has_6 ?_
    refine q_icmp_ge (tgt := 16) dX7_has_9 (by decide) hi ⟨by omega, by omega⟩ (fun h9 => ?_) (fun h9 => ?_)
    · skip
      refine q_iconst dX7_has_16 ?_
      exact q_zret rfl (Or.inl rfl) dX7_has_17 (⟨congrArg some (q_b0 (by omega)), rfl⟩)
    · skip
      refine q_iconst dX7_has_12 ?_
      refine q_goto (tgt := 17) dX7_has_13 (by decide) ?_
      exact q_zret rfl (Or.inr rfl) dX7_has_17 (⟨congrArg some (q_b1 (by omega)), rfl⟩)
set_option maxRecDepth 20000 in
theorem tX7_hasRun (w : q_W) (ξ : m_S) (B P : Nat) (g : Int → Option Nat) (a n : Nat) (hA : x_isR a n) (hz : -1 ≤ ξ a 1 ∧ ξ a 1 ≤ 60) (i k : Int) (hi : q_r i) (hk : q_r k) : q_D mX7_hasRun 0 [.ref a, q_i i, q_i k] (x_w w ξ B P g) (some (q_b (0 ≤ i ∧ 0 ≤ k ∧ i + k ≤ ξ a 1))) (x_w w ξ B P g) := by
  refine q_T.of (lv := [some (.ref a), some (q_i i), some (q_i k)]) (by decide) rfl (Nat.le_of_ble_eq_true rfl) ?_
  refine q_iload_n dX7_hasRun_0 rfl ?_
  refine q_if_lt (tgt := 22) dX7_hasRun_1 (by decide) hi (fun h1 => ?_) (fun h1 => ?_)
  · skip
    refine q_iconst dX7_hasRun_22 ?_
    exact q_zret rfl (Or.inl rfl) dX7_hasRun_23 (⟨congrArg some (q_b0 (by omega)), rfl⟩)
  · skip
    refine q_iload_n dX7_hasRun_4 rfl ?_
    refine q_if_lt (tgt := 22) dX7_hasRun_5 (by decide) hk (fun h5 => ?_) (fun h5 => ?_)
    · skip
      refine q_iconst dX7_hasRun_22 ?_
      exact q_zret rfl (Or.inl rfl) dX7_hasRun_23 (⟨congrArg some (q_b0 (by omega)), rfl⟩)
    · skip
      refine q_iload_n dX7_hasRun_8 rfl ?_
      refine q_aload_n dX7_hasRun_9 rfl ?_
      refine q_get (v := q_i (ξ a 1)) fX7_9_7 (x_rO hA) rfl dX7_hasRun_10 ?_
      refine q_iload_n dX7_hasRun_13 rfl ?_
      refine q_isub dX7_hasRun_14 ?_
      refine q_icmp_gt (tgt := 22) dX7_hasRun_15 (by decide) hk ⟨by omega, by omega⟩ (fun h15 => ?_) (fun h15 => ?_)
      · skip
        refine q_iconst dX7_hasRun_22 ?_
        exact q_zret rfl (Or.inl rfl) dX7_hasRun_23 (⟨congrArg some (q_b0 (by omega)), rfl⟩)
      · skip
        refine q_iconst dX7_hasRun_18 ?_
        refine q_goto (tgt := 23) dX7_hasRun_19 (by decide) ?_
        exact q_zret rfl (Or.inr rfl) dX7_hasRun_23 (⟨congrArg some (q_b1 (by omega)), rfl⟩)
theorem x_a1 (a : Nat) : a ≠ a + 1 := by omega
theorem x_a2 (a : Nat) : a + 1 ≠ a := by omega
set_option maxRecDepth 20000 in
theorem tX7_make (w : q_W) (ξ : m_S) (B P : Nat) (g : Int → Option Nat) (a n : Nat) (hA : x_isR a n) (hz : -1 ≤ ξ a 1 ∧ ξ a 1 ≤ 60) (k v : Int) (hk0 : 0 ≤ k) (hk1 : k ≤ n) : q_D mX7_make 1 [.ref a, q_i k, q_i v] (x_w w ξ B P g) none (x_w w (m_u (m_u ξ a (q_us (ξ a) 1 k)) (a + 1) (q_fl (ξ (a + 1)) 0 k v)) B P g) := by
  refine q_T.of (lv := [some (.ref a), some (q_i k), some (q_i v), none]) (by decide) rfl (Nat.le_of_ble_eq_true rfl) ?_
  have hnn := hA.n
  refine q_aload_n dX7_make_0 rfl ?_
  refine q_iload_n dX7_make_1 rfl ?_
  refine q_aload_n dX7_make_2 rfl ?_
  refine q_get (v := .ref (a + 1)) fX7_21_7 (x_rO hA) rfl dX7_make_3 ?_
  refine q_alen (x_rP hA) (by decide) dX7_make_6 ?_
  refine q_jmin wd_291 wd_292 wd_68 wd_293 (by decide) (Nat.le_of_ble_eq_true rfl) ⟨by omega, by omega⟩ ⟨by omega, by omega⟩ dX7_make_7 ?_
  refine q_puti (fs := [.ref (a + 1), q_i (ξ a 1)]) pX7_9_7 (x_rO hA) (Nat.le_of_ble_eq_true rfl) dX7_make_10 ?_
  refine q_Jeq rfl rfl (x_rO_u hA _) ?_
  rw [show (if (n : Int) < k then (n : Int) else k) = k by rw [if_neg (by omega)]]
  refine q_iconst dX7_make_13 ?_
  refine q_istore_n (lv' := [some (.ref a), some (q_i k), some (q_i v), some (q_i 0)]) dX7_make_14 (by decide) rfl ?_
  have L15 : ∀ (m9 : Nat) (j : Int) (hj0 : 0 ≤ j) (hj1 : j ≤ k) (hm9 : k - j < (m9 : Int)), q_J mX7_make 1 (fun v' w' => v' = none ∧ w' = (x_w w (m_u (m_u ξ a (q_us (ξ a) 1 k)) (a + 1) (q_fl (ξ (a + 1)) 0 k v)) B P g)) 0 0 15 [some (.ref a), some (q_i k), some (q_i v), some (q_i j)] [] (x_w w (m_u (m_u ξ a (q_us (ξ a) 1 k)) (a + 1) (q_fl (ξ (a + 1)) 0 j v)) B P g) := by
    intro m9
    induction m9 with
    | zero => intro j hj0 hj1 hm9; exact absurd hm9 (by omega)
    | succ m9 ih15 =>
      intro j hj0 hj1 hm9
      refine q_iload_n dX7_make_15 rfl ?_
      refine q_aload_n dX7_make_16 rfl ?_
      refine q_get (v := q_i ((m_u (m_u ξ a (q_us (ξ a) 1 k)) (a + 1) (q_fl (ξ (a + 1)) 0 j v)) a 1)) fX7_9_7 (x_rO hA) rfl dX7_make_17 ?_
      rw [show (m_u (m_u ξ a (q_us (ξ a) 1 k)) (a + 1) (q_fl (ξ (a + 1)) 0 j v)) a 1 = k by rw [m_un (x_a1 a), m_us, q_us_s]]
      refine q_icmp_ge (tgt := 36) dX7_make_20 (by decide) ⟨by omega, by omega⟩ ⟨by omega, by omega⟩ (fun h20 => ?_) (fun h20 => ?_)
      · skip
        exact q_vret rfl dX7_make_36 (⟨rfl, by rw [show j = k by omega]⟩)
      · skip
        refine q_aload_n dX7_make_23 rfl ?_
        refine q_get (v := .ref (a + 1)) fX7_21_7 (x_rO hA) rfl dX7_make_24 ?_
        refine q_iload_n dX7_make_27 rfl ?_
        refine q_iload_n dX7_make_28 rfl ?_
        refine q_iast (f := ((m_u (m_u ξ a (q_us (ξ a) 1 k)) (a + 1) (q_fl (ξ (a + 1)) 0 j v)) (a + 1))) (n9 := n) (x_rP hA) (by omega) (by omega) dX7_make_29 ?_ (by rcases (hA).n with q | q <;> omega)
        refine q_Jeq rfl rfl (x_rP_u hA _) ?_
        refine q_iinc (lv' := [some (.ref a), some (q_i k), some (q_i v), some (q_i (j + 1))]) dX7_make_30 rfl (by decide) rfl ?_
        refine q_goto (tgt := 15) dX7_make_33 (by decide) ?_
        exact q_Jle (q_le_s (rfl) (q_le_s (rfl) (q_le_s (rfl) (q_le_s (rfl) (q_le_e _))))) (rfl) (by rw [m_us, m_uu, ← q_fl_s _ _ _ hj0, Int.zero_add]) (ih15 (j + 1) (by omega) (by omega) (by omega))
  exact q_Jle (q_le_s (rfl) (q_le_s (rfl) (q_le_s (rfl) (q_le_s (rfl) (q_le_e _))))) (rfl) (by rw [q_fl_0, show ξ (a + 1) = (m_u ξ a (q_us (ξ a) 1 k)) (a + 1) from (m_un (x_a2 a)).symm, m_uid]) (L15 ((k : Int).toNat + 1) 0 (by omega) (by omega) (by omega))
set_option maxRecDepth 20000 in
theorem tX7_sum (w : q_W) (ξ : m_S) (B P : Nat) (g : Int → Option Nat) (a n : Nat) (hA : x_isR a n) (hz : -1 ≤ ξ a 1 ∧ ξ a 1 ≤ 60) (h0 : 0 ≤ ξ a 1) (h1 : ξ a 1 ≤ n) (hr : ∀ j, 0 ≤ j → j < ξ a 1 → q_r (ξ (a + 1) j)) : q_D mX7_sum 0 [.ref a] (x_w w ξ B P g) (some (q_l (z_sum (ξ (a + 1)) (ξ a 1)))) (x_w w ξ B P g) := by
  refine q_T.of (lv := [some (.ref a), none, none, none]) (by decide) rfl (Nat.le_of_ble_eq_true rfl) ?_
  refine q_lconst 0 dX7_sum_0 ?_
  refine q_lstore_n (lv' := [some (.ref a), some (q_l 0), none, none]) dX7_sum_1 (by decide) rfl ?_
  refine q_iconst dX7_sum_2 ?_
  refine q_istore_n (lv' := [some (.ref a), some (q_l 0), none, some (q_i 0)]) dX7_sum_3 (by decide) rfl ?_
  have L4 : ∀ (m9 : Nat) (k : Int) (hk0 : 0 ≤ k) (hk1 : k ≤ ξ a 1) (hm9 : ξ a 1 - k < (m9 : Int)), q_J mX7_sum 0 (fun v' w' => v' = (some (q_l (z_sum (ξ (a + 1)) (ξ a 1)))) ∧ w' = (x_w w ξ B P g)) 0 0 4 [some (.ref a), some (q_l (z_sum (ξ (a + 1)) k)), none, some (q_i k)] [] (x_w w ξ B P g) := by
    intro m9
    induction m9 with
    | zero => intro k hk0 hk1 hm9; exact absurd hm9 (by omega)
    | succ m9 ih4 =>
      intro k hk0 hk1 hm9
      refine q_iload_n dX7_sum_4 rfl ?_
      refine q_aload_n dX7_sum_5 rfl ?_
      refine q_get (v := q_i (ξ a 1)) fX7_9_7 (x_rO hA) rfl dX7_sum_6 ?_
      refine q_icmp_ge (tgt := 28) dX7_sum_9 (by decide) ⟨by omega, by omega⟩ ⟨by omega, by omega⟩ (fun h9 => ?_) (fun h9 => ?_)
      · skip
        refine q_lload_n dX7_sum_28 rfl ?_
        exact q_lret rfl dX7_sum_29 (⟨by rw [show k = ξ a 1 by omega], rfl⟩)
      · skip
        refine q_lload_n dX7_sum_12 rfl ?_
        refine q_aload_n dX7_sum_13 rfl ?_
        refine q_get (v := .ref (a + 1)) fX7_21_7 (x_rO hA) rfl dX7_sum_14 ?_
        refine q_iload_n dX7_sum_17 rfl ?_
        refine q_iald (f := (ξ (a + 1))) (n9 := n) (x_rP hA) (by omega) (by omega) dX7_sum_18 ?_ (by rcases (hA).n with q | q <;> omega)
        refine q_i2lr dX7_sum_19 (hr _ hk0 (by omega)) ?_
        refine q_ladd dX7_sum_20 ?_
        refine q_lstore_n (lv' := [some (.ref a), some (q_l ((z_sum (ξ (a + 1)) k) + ((ξ (a + 1)) k))), none, some (q_i k)]) dX7_sum_21 (by decide) rfl ?_
        refine q_iinc (lv' := [some (.ref a), some (q_l ((z_sum (ξ (a + 1)) k) + ((ξ (a + 1)) k))), none, some (q_i (k + 1))]) dX7_sum_22 rfl (by decide) rfl ?_
        refine q_goto (tgt := 4) dX7_sum_25 (by decide) ?_
        exact q_Jle (q_le_s (rfl) (q_le_s (by rw [z_sum_s _ hk0]) (q_le_n (q_le_s (rfl) (q_le_e _))))) (rfl) (rfl) (ih4 (k + 1) (by omega) (by omega) (by omega))
  exact q_Jle (q_le_s (rfl) (q_le_s (rfl) (q_le_n (q_le_s (rfl) (q_le_e _))))) (rfl) (rfl) (L4 ((ξ a 1 : Int).toNat + 1) 0 (by omega) (by omega) (by omega))
