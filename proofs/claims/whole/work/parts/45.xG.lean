/-! the class: numbers of each setting -/
def z_fk (f : Int → Int) (S : Int) : Nat → Int → Int
  | 0, j => j
  | k + 1, j => if j + 1 < S ∧ f j = 0 then z_fk f S k (j + 1) else j
def z_fa (f : Int → Int) (S : Int) : Int := z_fk f S S.toNat 0
theorem z_fk_go {f : Int → Int} {S j : Int} (h : j + 1 < S) (h2 : f j = 0) : z_fk f S (S - j).toNat j = z_fk f S (S - (j + 1)).toNat (j + 1) := by
  rw [show (S - j).toNat = (S - (j + 1)).toNat + 1 by omega]
  exact if_pos ⟨h, h2⟩
theorem z_fk_no {f : Int → Int} {S j : Int} (h : ¬ (j + 1 < S ∧ f j = 0)) : z_fk f S (S - j).toNat j = j := by
  cases (S - j).toNat with
  | zero => rfl
  | succ k => exact if_neg h
theorem z_fk_p (f : Int → Int) (S : Int) : ∀ (k : Nat) (j : Int), S - j ≤ k → 0 ≤ j → j < S → (∀ i, 0 ≤ i → i < j → f i = 0) → (0 ≤ z_fk f S k j ∧ z_fk f S k j < S) ∧ (∀ i, 0 ≤ i → i < z_fk f S k j → f i = 0) ∧ (f (z_fk f S k j) ≠ 0 ∨ z_fk f S k j + 1 = S)
  | 0, j, h, h0, h1, hz => by omega
  | k + 1, j, h, h0, h1, hz => by
    by_cases hc : j + 1 < S ∧ f j = 0
    · rw [show z_fk f S (k + 1) j = z_fk f S k (j + 1) from if_pos hc]
      exact z_fk_p f S k (j + 1) (by omega) (by omega) (by omega) (fun i g0 g1 => by
        rcases (show i < j ∨ i = j by omega) with e | e
        · exact hz i g0 e
        · rw [e]; exact hc.2)
    · rw [show z_fk f S (k + 1) j = j from if_neg hc]
      refine ⟨⟨h0, h1⟩, hz, ?_⟩
      by_cases e : f j = 0
      · exact Or.inr (by omega)
      · exact Or.inl e
theorem z_fa_p (f : Int → Int) {S : Int} (hS : 0 < S) : (0 ≤ z_fa f S ∧ z_fa f S < S) ∧ (∀ i, 0 ≤ i → i < z_fa f S → f i = 0) ∧ (f (z_fa f S) ≠ 0 ∨ z_fa f S + 1 = S) := z_fk_p f S S.toNat 0 (by omega) (by omega) hS (fun i h0 h1 => by omega)
theorem z_am_1 (f : Int → Int) : z_am f 1 = 0 := by
  show (if f (z_a f 0) < f (0 : Nat) then ((0 : Nat) : Int) else z_a f 0) = 0
  split <;> rfl
set_option maxRecDepth 20000 in
theorem tX8_setAll_14 (w : q_W) (ξ : m_S) (B P : Nat) (g : Int → Option Nat) (v : Int) (hS : 0 ≤ ξ 8 2 ∧ ξ 8 2 ≤ 216) : q_D mX8_setAll 0 [.ref 7, .ref 14, q_l v] (x_w w ξ B P g) none (x_w w (m_u ξ 14 (q_fl (ξ 14) 0 (ξ 8 2) v)) B P g) := by
  refine q_T.of (lv := [some (.ref 7), some (.ref 14), some (q_l v), none, none]) (by decide) rfl (Nat.le_of_ble_eq_true rfl) ?_
  refine q_iconst dX8_setAll_0 ?_
  refine q_istore (lv' := [some (.ref 7), some (.ref 14), some (q_l v), none, some (q_i 0)]) dX8_setAll_1 (by decide) rfl ?_
  have L3 : ∀ (m9 : Nat) (k : Int) (hk0 : 0 ≤ k) (hk1 : k ≤ ξ 8 2) (hm9 : ξ 8 2 - k < (m9 : Int)), q_J mX8_setAll 0 (fun v' w' => v' = none ∧ w' = (x_w w (m_u ξ 14 (q_fl (ξ 14) 0 (ξ 8 2) v)) B P g)) 0 0 3 [some (.ref 7), some (.ref 14), some (q_l v), none, some (q_i k)] [] (x_w w (m_u ξ 14 (q_fl (ξ 14) 0 k v)) B P g) := by
    intro m9
    induction m9 with
    | zero => intro k hk0 hk1 hm9; exact absurd hm9 (by omega)
    | succ m9 ih3 =>
      intro k hk0 hk1 hm9
      refine q_iload dX8_setAll_3 rfl ?_
      refine q_aload_n dX8_setAll_5 rfl ?_
      refine q_get (v := .ref 8) fX8_18_8 rfl rfl dX8_setAll_6 ?_
      refine q_get (v := q_i (ξ 8 2)) fX8_144_10 rfl rfl dX8_setAll_9 ?_
      refine q_icmp_ge (tgt := 26) dX8_setAll_12 (by decide) ⟨by omega, by omega⟩ ⟨by omega, by omega⟩ (fun h12 => ?_) (fun h12 => ?_)
      · skip
        exact q_vret rfl dX8_setAll_26 (⟨rfl, by rw [show k = ξ 8 2 by omega]⟩)
      · skip
        refine q_aload_n dX8_setAll_15 rfl ?_
        refine q_iload dX8_setAll_16 rfl ?_
        refine q_lload_n dX8_setAll_18 rfl ?_
        refine q_last (f := (q_fl (ξ 14) 0 k v)) (n9 := 216) rfl (by omega) (by omega) dX8_setAll_19 ?_
        refine q_Jeq rfl rfl (x_up (f := (q_us (q_fl (ξ 14) 0 k v) k v)) rfl) ?_
        refine q_iinc (lv' := [some (.ref 7), some (.ref 14), some (q_l v), none, some (q_i (k + 1))]) dX8_setAll_20 rfl (by decide) rfl ?_
        refine q_goto (tgt := 3) dX8_setAll_23 (by decide) ?_
        exact q_Jle (q_le_s (rfl) (q_le_s (rfl) (q_le_s (rfl) (q_le_n (q_le_s (rfl) (q_le_e _)))))) (rfl) (by rw [m_uu, ← q_fl_s _ _ _ hk0, Int.zero_add]) (ih3 (k + 1) (by omega) (by omega) (by omega))
  exact q_Jle (q_le_s (rfl) (q_le_s (rfl) (q_le_s (rfl) (q_le_n (q_le_s (rfl) (q_le_e _)))))) (rfl) (by rw [q_fl_0, m_uid]) (L3 ((ξ 8 2 : Int).toNat + 1) 0 (by omega) (by omega) (by omega))
set_option maxRecDepth 20000 in
theorem tX8_sumOf_14 (w : q_W) (ξ : m_S) (B P : Nat) (g : Int → Option Nat) (hS : 0 ≤ ξ 8 2 ∧ ξ 8 2 ≤ 216) : q_D mX8_sumOf 0 [.ref 7, .ref 14] (x_w w ξ B P g) (some (q_l (z_sum (ξ 14) (ξ 8 2)))) (x_w w ξ B P g) := by
  refine q_T.of (lv := [some (.ref 7), some (.ref 14), none, none, none]) (by decide) rfl (Nat.le_of_ble_eq_true rfl) ?_
  refine q_lconst 0 dX8_sumOf_0 ?_
  refine q_lstore_n (lv' := [some (.ref 7), some (.ref 14), some (q_l 0), none, none]) dX8_sumOf_1 (by decide) rfl ?_
  refine q_iconst dX8_sumOf_2 ?_
  refine q_istore (lv' := [some (.ref 7), some (.ref 14), some (q_l 0), none, some (q_i 0)]) dX8_sumOf_3 (by decide) rfl ?_
  have L5 : ∀ (m9 : Nat) (k : Int) (hk0 : 0 ≤ k) (hk1 : k ≤ ξ 8 2) (hm9 : ξ 8 2 - k < (m9 : Int)), q_J mX8_sumOf 0 (fun v' w' => v' = (some (q_l (z_sum (ξ 14) (ξ 8 2)))) ∧ w' = (x_w w ξ B P g)) 0 0 5 [some (.ref 7), some (.ref 14), some (q_l (z_sum (ξ 14) k)), none, some (q_i k)] [] (x_w w ξ B P g) := by
    intro m9
    induction m9 with
    | zero => intro k hk0 hk1 hm9; exact absurd hm9 (by omega)
    | succ m9 ih5 =>
      intro k hk0 hk1 hm9
      refine q_iload dX8_sumOf_5 rfl ?_
      refine q_aload_n dX8_sumOf_7 rfl ?_
      refine q_get (v := .ref 8) fX8_18_8 rfl rfl dX8_sumOf_8 ?_
      refine q_get (v := q_i (ξ 8 2)) fX8_144_10 rfl rfl dX8_sumOf_11 ?_
      refine q_icmp_ge (tgt := 30) dX8_sumOf_14 (by decide) ⟨by omega, by omega⟩ ⟨by omega, by omega⟩ (fun h14 => ?_) (fun h14 => ?_)
      · skip
        refine q_lload_n dX8_sumOf_30 rfl ?_
        exact q_lret rfl dX8_sumOf_31 (⟨by rw [show k = ξ 8 2 by omega], rfl⟩)
      · skip
        refine q_lload_n dX8_sumOf_17 rfl ?_
        refine q_aload_n dX8_sumOf_18 rfl ?_
        refine q_iload dX8_sumOf_19 rfl ?_
        refine q_lald (f := (ξ 14)) (n9 := 216) rfl (by omega) (by omega) dX8_sumOf_21 ?_
        refine q_ladd dX8_sumOf_22 ?_
        refine q_lstore_n (lv' := [some (.ref 7), some (.ref 14), some (q_l ((z_sum (ξ 14) k) + ((ξ 14) k))), none, some (q_i k)]) dX8_sumOf_23 (by decide) rfl ?_
        refine q_iinc (lv' := [some (.ref 7), some (.ref 14), some (q_l ((z_sum (ξ 14) k) + ((ξ 14) k))), none, some (q_i (k + 1))]) dX8_sumOf_24 rfl (by decide) rfl ?_
        refine q_goto (tgt := 5) dX8_sumOf_27 (by decide) ?_
        exact q_Jle (q_le_s (rfl) (q_le_s (rfl) (q_le_s (by rw [z_sum_s _ hk0]) (q_le_n (q_le_s (rfl) (q_le_e _)))))) (rfl) (rfl) (ih5 (k + 1) (by omega) (by omega) (by omega))
  exact q_Jle (q_le_s (rfl) (q_le_s (rfl) (q_le_s (rfl) (q_le_n (q_le_s (rfl) (q_le_e _)))))) (rfl) (rfl) (L5 ((ξ 8 2 : Int).toNat + 1) 0 (by omega) (by omega) (by omega))
set_option maxRecDepth 20000 in
theorem tX8_howManyAbove_14 (w : q_W) (ξ : m_S) (B P : Nat) (g : Int → Option Nat) (hS : 0 ≤ ξ 8 2 ∧ ξ 8 2 ≤ 216) (hV : ∀ c, 0 ≤ c → c < ξ 8 2 → 0 ≤ ξ 14 c ∧ ξ 14 c ≤ 9000000000000000000) : q_D mX8_howManyAbove 0 [.ref 7, .ref 14] (x_w w ξ B P g) (some (q_i (z_pos (ξ 14) (ξ 8 2)))) (x_w w ξ B P g) := by
  refine q_T.of (lv := [some (.ref 7), some (.ref 14), none, none]) (by decide) rfl (Nat.le_of_ble_eq_true rfl) ?_
  refine q_iconst dX8_howManyAbove_0 ?_
  refine q_istore_n (lv' := [some (.ref 7), some (.ref 14), some (q_i 0), none]) dX8_howManyAbove_1 (by decide) rfl ?_
  refine q_iconst dX8_howManyAbove_2 ?_
  refine q_istore_n (lv' := [some (.ref 7), some (.ref 14), some (q_i 0), some (q_i 0)]) dX8_howManyAbove_3 (by decide) rfl ?_
  have L4 : ∀ (m9 : Nat) (k : Int) (hk0 : 0 ≤ k) (hk1 : k ≤ ξ 8 2) (hm9 : ξ 8 2 - k < (m9 : Int)), q_J mX8_howManyAbove 0 (fun v' w' => v' = (some (q_i (z_pos (ξ 14) (ξ 8 2)))) ∧ w' = (x_w w ξ B P g)) 0 0 4 [some (.ref 7), some (.ref 14), some (q_i (z_pos (ξ 14) k)), some (q_i k)] [] (x_w w ξ B P g) := by
    intro m9
    induction m9 with
    | zero => intro k hk0 hk1 hm9; exact absurd hm9 (by omega)
    | succ m9 ih4 =>
      intro k hk0 hk1 hm9
      refine q_iload_n dX8_howManyAbove_4 rfl ?_
      refine q_aload_n dX8_howManyAbove_5 rfl ?_
      refine q_get (v := .ref 8) fX8_18_8 rfl rfl dX8_howManyAbove_6 ?_
      refine q_get (v := q_i (ξ 8 2)) fX8_144_10 rfl rfl dX8_howManyAbove_9 ?_
      refine q_icmp_ge (tgt := 37) dX8_howManyAbove_12 (by decide) ⟨by omega, by omega⟩ ⟨by omega, by omega⟩ (fun h12 => ?_) (fun h12 => ?_)
      · skip
        refine q_iload_n dX8_howManyAbove_37 rfl ?_
        exact q_iret rfl dX8_howManyAbove_38 (⟨by rw [show k = ξ 8 2 by omega], rfl⟩)
      · skip
        refine q_iload_n dX8_howManyAbove_15 rfl ?_
        refine q_aload_n dX8_howManyAbove_16 rfl ?_
        refine q_iload_n dX8_howManyAbove_17 rfl ?_
        refine q_lald (f := (ξ 14)) (n9 := 216) rfl (by omega) (by omega) dX8_howManyAbove_18 ?_
        refine q_lconst 0 dX8_howManyAbove_19 ?_
        refine q_lcmp_le (tgt := 28) dX8_howManyAbove_20 dX8_howManyAbove_21 (by decide) ⟨by have := hV k (by omega) (by omega); omega, by have := hV k (by omega) (by omega); omega⟩ ⟨by decide, by decide⟩ (fun h20 => ?_) (fun h20 => ?_)
        · skip
          refine q_iconst dX8_howManyAbove_28 ?_
          refine q_iadd dX8_howManyAbove_29 ?_
          refine q_istore_n (lv' := [some (.ref 7), some (.ref 14), some (q_i ((z_pos (ξ 14) k) + 0)), some (q_i k)]) dX8_howManyAbove_30 (by decide) rfl ?_
          refine q_iinc (lv' := [some (.ref 7), some (.ref 14), some (q_i ((z_pos (ξ 14) k) + 0)), some (q_i (k + 1))]) dX8_howManyAbove_31 rfl (by decide) rfl ?_
          refine q_goto (tgt := 4) dX8_howManyAbove_34 (by decide) ?_
          exact q_Jle (q_le_s (rfl) (q_le_s (rfl) (q_le_s (by rw [z_pos_s _ hk0]; (try dsimp only); (repeat' split) <;> first | rfl | (exfalso; omega)) (q_le_s (rfl) (q_le_e _))))) (rfl) (rfl) (ih4 (k + 1) (by omega) (by omega) (by omega))
        · skip
          refine q_iconst dX8_howManyAbove_24 ?_
          refine q_goto (tgt := 29) dX8_howManyAbove_25 (by decide) ?_
          refine q_iadd dX8_howManyAbove_29 ?_
          refine q_istore_n (lv' := [some (.ref 7), some (.ref 14), some (q_i ((z_pos (ξ 14) k) + 1)), some (q_i k)]) dX8_howManyAbove_30 (by decide) rfl ?_
          refine q_iinc (lv' := [some (.ref 7), some (.ref 14), some (q_i ((z_pos (ξ 14) k) + 1)), some (q_i (k + 1))]) dX8_howManyAbove_31 rfl (by decide) rfl ?_
          refine q_goto (tgt := 4) dX8_howManyAbove_34 (by decide) ?_
          exact q_Jle (q_le_s (rfl) (q_le_s (rfl) (q_le_s (by rw [z_pos_s _ hk0]; (try dsimp only); (repeat' split) <;> first | rfl | (exfalso; omega)) (q_le_s (rfl) (q_le_e _))))) (rfl) (rfl) (ih4 (k + 1) (by omega) (by omega) (by omega))
  exact q_Jle (q_le_s (rfl) (q_le_s (rfl) (q_le_s (rfl) (q_le_s (rfl) (q_le_e _))))) (rfl) (rfl) (L4 ((ξ 8 2 : Int).toNat + 1) 0 (by omega) (by omega) (by omega))
set_option maxRecDepth 20000 in
theorem tX8_firstAbove_14 (w : q_W) (ξ : m_S) (B P : Nat) (g : Int → Option Nat) (hS : 0 ≤ ξ 8 2 ∧ ξ 8 2 ≤ 216) (hV : ∀ c, 0 ≤ c → c < ξ 8 2 → 0 ≤ ξ 14 c ∧ ξ 14 c ≤ 9000000000000000000) (h0 : 0 < ξ 8 2) : q_D mX8_firstAbove 0 [.ref 7, .ref 14] (x_w w ξ B P g) (some (q_i (z_fa (ξ 14) (ξ 8 2)))) (x_w w ξ B P g) := by
  refine q_T.of (lv := [some (.ref 7), some (.ref 14), none]) (by decide) rfl (Nat.le_of_ble_eq_true rfl) ?_
  refine q_iconst dX8_firstAbove_0 ?_
  refine q_istore_n (lv' := [some (.ref 7), some (.ref 14), some (q_i 0)]) dX8_firstAbove_1 (by decide) rfl ?_
  have L2 : ∀ (m9 : Nat) (k : Int) (hk0 : 0 ≤ k) (hk1 : k < ξ 8 2) (hf : z_fk (ξ 14) (ξ 8 2) (ξ 8 2 - k).toNat k = z_fa (ξ 14) (ξ 8 2)) (hm9 : ξ 8 2 - k < (m9 : Int)), q_J mX8_firstAbove 0 (fun v' w' => v' = (some (q_i (z_fa (ξ 14) (ξ 8 2)))) ∧ w' = (x_w w ξ B P g)) 0 0 2 [some (.ref 7), some (.ref 14), some (q_i k)] [] (x_w w ξ B P g) := by
    intro m9
    induction m9 with
    | zero => intro k hk0 hk1 hf hm9; exact absurd hm9 (by omega)
    | succ m9 ih2 =>
      intro k hk0 hk1 hf hm9
      refine q_iload_n dX8_firstAbove_2 rfl ?_
      refine q_iconst dX8_firstAbove_3 ?_
      refine q_iadd dX8_firstAbove_4 ?_
      refine q_aload_n dX8_firstAbove_5 rfl ?_
      refine q_get (v := .ref 8) fX8_18_8 rfl rfl dX8_firstAbove_6 ?_
      refine q_get (v := q_i (ξ 8 2)) fX8_144_10 rfl rfl dX8_firstAbove_9 ?_
      refine q_icmp_ge (tgt := 29) dX8_firstAbove_12 (by decide) ⟨by omega, by omega⟩ ⟨by omega, by omega⟩ (fun h12 => ?_) (fun h12 => ?_)
      · skip
        refine q_iload_n dX8_firstAbove_29 rfl ?_
        exact q_iret rfl dX8_firstAbove_30 (⟨by rw [← hf, z_fk_no (by omega)], rfl⟩)
      · skip
        refine q_aload_n dX8_firstAbove_15 rfl ?_
        refine q_iload_n dX8_firstAbove_16 rfl ?_
        refine q_lald (f := (ξ 14)) (n9 := 216) rfl (by omega) (by omega) dX8_firstAbove_17 ?_
        refine q_lconst 0 dX8_firstAbove_18 ?_
        refine q_lcmp_ne (tgt := 29) dX8_firstAbove_19 dX8_firstAbove_20 (by decide) ⟨by have := hV k (by omega) (by omega); omega, by have := hV k (by omega) (by omega); omega⟩ ⟨by decide, by decide⟩ (fun h19 => ?_) (fun h19 => ?_)
        · skip
          refine q_iload_n dX8_firstAbove_29 rfl ?_
          exact q_iret rfl dX8_firstAbove_30 (⟨by rw [← hf, z_fk_no (by omega)], rfl⟩)
        · skip
          refine q_iinc (lv' := [some (.ref 7), some (.ref 14), some (q_i (k + 1))]) dX8_firstAbove_23 rfl (by decide) rfl ?_
          refine q_goto (tgt := 2) dX8_firstAbove_26 (by decide) ?_
          exact q_Jle (q_le_s (rfl) (q_le_s (rfl) (q_le_s (rfl) (q_le_e _)))) (rfl) (rfl) (ih2 (k + 1) (by omega) (by omega) ((z_fk_go (by omega) (by omega)).symm.trans hf) (by omega))
  exact q_Jle (q_le_s (rfl) (q_le_s (rfl) (q_le_s (rfl) (q_le_e _)))) (rfl) (rfl) (L2 ((ξ 8 2 : Int).toNat + 1) 0 (by omega) (h0) (by rw [Int.sub_zero]; rfl) (by omega))
set_option maxRecDepth 20000 in
theorem tX8_likeliest_14 (w : q_W) (ξ : m_S) (B P : Nat) (g : Int → Option Nat) (hS : 0 ≤ ξ 8 2 ∧ ξ 8 2 ≤ 216) (hV : ∀ c, 0 ≤ c → c < ξ 8 2 → 0 ≤ ξ 14 c ∧ ξ 14 c ≤ 9000000000000000000) (h0 : 0 < ξ 8 2) : q_D mX8_likeliest 0 [.ref 7, .ref 14] (x_w w ξ B P g) (some (q_i (z_am (ξ 14) (ξ 8 2)))) (x_w w ξ B P g) := by
  refine q_T.of (lv := [some (.ref 7), some (.ref 14), none, none]) (by decide) rfl (Nat.le_of_ble_eq_true rfl) ?_
  refine q_iconst dX8_likeliest_0 ?_
  refine q_istore_n (lv' := [some (.ref 7), some (.ref 14), some (q_i 0), none]) dX8_likeliest_1 (by decide) rfl ?_
  refine q_iconst dX8_likeliest_2 ?_
  refine q_istore_n (lv' := [some (.ref 7), some (.ref 14), some (q_i 0), some (q_i 1)]) dX8_likeliest_3 (by decide) rfl ?_
  have L4 : ∀ (m9 : Nat) (k : Int) (hk0 : 1 ≤ k) (hk1 : k ≤ ξ 8 2) (hm9 : ξ 8 2 - k < (m9 : Int)), q_J mX8_likeliest 0 (fun v' w' => v' = (some (q_i (z_am (ξ 14) (ξ 8 2)))) ∧ w' = (x_w w ξ B P g)) 0 0 4 [some (.ref 7), some (.ref 14), some (q_i (z_am (ξ 14) k)), some (q_i k)] [] (x_w w ξ B P g) := by
    intro m9
    induction m9 with
    | zero => intro k hk0 hk1 hm9; exact absurd hm9 (by omega)
    | succ m9 ih4 =>
      intro k hk0 hk1 hm9
      refine q_iload_n dX8_likeliest_4 rfl ?_
      refine q_aload_n dX8_likeliest_5 rfl ?_
      refine q_get (v := .ref 8) fX8_18_8 rfl rfl dX8_likeliest_6 ?_
      refine q_get (v := q_i (ξ 8 2)) fX8_144_10 rfl rfl dX8_likeliest_9 ?_
      refine q_icmp_ge (tgt := 37) dX8_likeliest_12 (by decide) ⟨by omega, by omega⟩ ⟨by omega, by omega⟩ (fun h12 => ?_) (fun h12 => ?_)
      · skip
        refine q_iload_n dX8_likeliest_37 rfl ?_
        exact q_iret rfl dX8_likeliest_38 (⟨by rw [show k = ξ 8 2 by omega], rfl⟩)
      · skip
        have har := z_am_r (ξ 14) (n := k) (by omega)
        refine q_aload_n dX8_likeliest_15 rfl ?_
        refine q_iload_n dX8_likeliest_16 rfl ?_
        refine q_lald (f := (ξ 14)) (n9 := 216) rfl (by omega) (by omega) dX8_likeliest_17 ?_
        refine q_aload_n dX8_likeliest_18 rfl ?_
        refine q_iload_n dX8_likeliest_19 rfl ?_
        refine q_lald (f := (ξ 14)) (n9 := 216) rfl (by omega) (by omega) dX8_likeliest_20 ?_
        refine q_lcmp_le (tgt := 29) dX8_likeliest_21 dX8_likeliest_22 (by decide) ⟨by have := hV k (by omega) (by omega); omega, by have := hV k (by omega) (by omega); omega⟩ ⟨by have := hV (z_am (ξ 14) k) (by omega) (by omega); omega, by have := hV (z_am (ξ 14) k) (by omega) (by omega); omega⟩ (fun h21 => ?_) (fun h21 => ?_)
        · skip
          refine q_iload_n dX8_likeliest_29 rfl ?_
          refine q_istore_n (lv' := [some (.ref 7), some (.ref 14), some (q_i (z_am (ξ 14) k)), some (q_i k)]) dX8_likeliest_30 (by decide) rfl ?_
          refine q_iinc (lv' := [some (.ref 7), some (.ref 14), some (q_i (z_am (ξ 14) k)), some (q_i (k + 1))]) dX8_likeliest_31 rfl (by decide) rfl ?_
          refine q_goto (tgt := 4) dX8_likeliest_34 (by decide) ?_
          exact q_Jle (q_le_s (rfl) (q_le_s (rfl) (q_le_s (by rw [z_am_s _ (by omega), if_neg (by omega)]) (q_le_s (rfl) (q_le_e _))))) (rfl) (rfl) (ih4 (k + 1) (by omega) (by omega) (by omega))
        · skip
          refine q_iload_n dX8_likeliest_25 rfl ?_
          refine q_goto (tgt := 30) dX8_likeliest_26 (by decide) ?_
          refine q_istore_n (lv' := [some (.ref 7), some (.ref 14), some (q_i k), some (q_i k)]) dX8_likeliest_30 (by decide) rfl ?_
          refine q_iinc (lv' := [some (.ref 7), some (.ref 14), some (q_i k), some (q_i (k + 1))]) dX8_likeliest_31 rfl (by decide) rfl ?_
          refine q_goto (tgt := 4) dX8_likeliest_34 (by decide) ?_
          exact q_Jle (q_le_s (rfl) (q_le_s (rfl) (q_le_s (by rw [z_am_s _ (by omega), if_pos (by omega)]) (q_le_s (rfl) (q_le_e _))))) (rfl) (rfl) (ih4 (k + 1) (by omega) (by omega) (by omega))
  exact q_Jle (q_le_s (rfl) (q_le_s (rfl) (q_le_s (by rw [z_am_1]) (q_le_s (rfl) (q_le_e _))))) (rfl) (rfl) (L4 ((ξ 8 2 : Int).toNat + 1) 1 (by omega) (by omega) (by omega))
set_option maxRecDepth 20000 in
theorem tX8_setAll_15 (w : q_W) (ξ : m_S) (B P : Nat) (g : Int → Option Nat) (v : Int) (hS : 0 ≤ ξ 8 2 ∧ ξ 8 2 ≤ 216) : q_D mX8_setAll 0 [.ref 7, .ref 15, q_l v] (x_w w ξ B P g) none (x_w w (m_u ξ 15 (q_fl (ξ 15) 0 (ξ 8 2) v)) B P g) := by
  refine q_T.of (lv := [some (.ref 7), some (.ref 15), some (q_l v), none, none]) (by decide) rfl (Nat.le_of_ble_eq_true rfl) ?_
  refine q_iconst dX8_setAll_0 ?_
  refine q_istore (lv' := [some (.ref 7), some (.ref 15), some (q_l v), none, some (q_i 0)]) dX8_setAll_1 (by decide) rfl ?_
  have L3 : ∀ (m9 : Nat) (k : Int) (hk0 : 0 ≤ k) (hk1 : k ≤ ξ 8 2) (hm9 : ξ 8 2 - k < (m9 : Int)), q_J mX8_setAll 0 (fun v' w' => v' = none ∧ w' = (x_w w (m_u ξ 15 (q_fl (ξ 15) 0 (ξ 8 2) v)) B P g)) 0 0 3 [some (.ref 7), some (.ref 15), some (q_l v), none, some (q_i k)] [] (x_w w (m_u ξ 15 (q_fl (ξ 15) 0 k v)) B P g) := by
    intro m9
    induction m9 with
    | zero => intro k hk0 hk1 hm9; exact absurd hm9 (by omega)
    | succ m9 ih3 =>
      intro k hk0 hk1 hm9
      refine q_iload dX8_setAll_3 rfl ?_
      refine q_aload_n dX8_setAll_5 rfl ?_
      refine q_get (v := .ref 8) fX8_18_8 rfl rfl dX8_setAll_6 ?_
      refine q_get (v := q_i (ξ 8 2)) fX8_144_10 rfl rfl dX8_setAll_9 ?_
      refine q_icmp_ge (tgt := 26) dX8_setAll_12 (by decide) ⟨by omega, by omega⟩ ⟨by omega, by omega⟩ (fun h12 => ?_) (fun h12 => ?_)
      · skip
        exact q_vret rfl dX8_setAll_26 (⟨rfl, by rw [show k = ξ 8 2 by omega]⟩)
      · skip
        refine q_aload_n dX8_setAll_15 rfl ?_
        refine q_iload dX8_setAll_16 rfl ?_
        refine q_lload_n dX8_setAll_18 rfl ?_
        refine q_last (f := (q_fl (ξ 15) 0 k v)) (n9 := 216) rfl (by omega) (by omega) dX8_setAll_19 ?_
        refine q_Jeq rfl rfl (x_up (f := (q_us (q_fl (ξ 15) 0 k v) k v)) rfl) ?_
        refine q_iinc (lv' := [some (.ref 7), some (.ref 15), some (q_l v), none, some (q_i (k + 1))]) dX8_setAll_20 rfl (by decide) rfl ?_
        refine q_goto (tgt := 3) dX8_setAll_23 (by decide) ?_
        exact q_Jle (q_le_s (rfl) (q_le_s (rfl) (q_le_s (rfl) (q_le_n (q_le_s (rfl) (q_le_e _)))))) (rfl) (by rw [m_uu, ← q_fl_s _ _ _ hk0, Int.zero_add]) (ih3 (k + 1) (by omega) (by omega) (by omega))
  exact q_Jle (q_le_s (rfl) (q_le_s (rfl) (q_le_s (rfl) (q_le_n (q_le_s (rfl) (q_le_e _)))))) (rfl) (by rw [q_fl_0, m_uid]) (L3 ((ξ 8 2 : Int).toNat + 1) 0 (by omega) (by omega) (by omega))
set_option maxRecDepth 20000 in
theorem tX8_sumOf_15 (w : q_W) (ξ : m_S) (B P : Nat) (g : Int → Option Nat) (hS : 0 ≤ ξ 8 2 ∧ ξ 8 2 ≤ 216) : q_D mX8_sumOf 0 [.ref 7, .ref 15] (x_w w ξ B P g) (some (q_l (z_sum (ξ 15) (ξ 8 2)))) (x_w w ξ B P g) := by
  refine q_T.of (lv := [some (.ref 7), some (.ref 15), none, none, none]) (by decide) rfl (Nat.le_of_ble_eq_true rfl) ?_
  refine q_lconst 0 dX8_sumOf_0 ?_
  refine q_lstore_n (lv' := [some (.ref 7), some (.ref 15), some (q_l 0), none, none]) dX8_sumOf_1 (by decide) rfl ?_
  refine q_iconst dX8_sumOf_2 ?_
  refine q_istore (lv' := [some (.ref 7), some (.ref 15), some (q_l 0), none, some (q_i 0)]) dX8_sumOf_3 (by decide) rfl ?_
  have L5 : ∀ (m9 : Nat) (k : Int) (hk0 : 0 ≤ k) (hk1 : k ≤ ξ 8 2) (hm9 : ξ 8 2 - k < (m9 : Int)), q_J mX8_sumOf 0 (fun v' w' => v' = (some (q_l (z_sum (ξ 15) (ξ 8 2)))) ∧ w' = (x_w w ξ B P g)) 0 0 5 [some (.ref 7), some (.ref 15), some (q_l (z_sum (ξ 15) k)), none, some (q_i k)] [] (x_w w ξ B P g) := by
    intro m9
    induction m9 with
    | zero => intro k hk0 hk1 hm9; exact absurd hm9 (by omega)
    | succ m9 ih5 =>
      intro k hk0 hk1 hm9
      refine q_iload dX8_sumOf_5 rfl ?_
      refine q_aload_n dX8_sumOf_7 rfl ?_
      refine q_get (v := .ref 8) fX8_18_8 rfl rfl dX8_sumOf_8 ?_
      refine q_get (v := q_i (ξ 8 2)) fX8_144_10 rfl rfl dX8_sumOf_11 ?_
      refine q_icmp_ge (tgt := 30) dX8_sumOf_14 (by decide) ⟨by omega, by omega⟩ ⟨by omega, by omega⟩ (fun h14 => ?_) (fun h14 => ?_)
      · skip
        refine q_lload_n dX8_sumOf_30 rfl ?_
        exact q_lret rfl dX8_sumOf_31 (⟨by rw [show k = ξ 8 2 by omega], rfl⟩)
      · skip
        refine q_lload_n dX8_sumOf_17 rfl ?_
        refine q_aload_n dX8_sumOf_18 rfl ?_
        refine q_iload dX8_sumOf_19 rfl ?_
        refine q_lald (f := (ξ 15)) (n9 := 216) rfl (by omega) (by omega) dX8_sumOf_21 ?_
        refine q_ladd dX8_sumOf_22 ?_
        refine q_lstore_n (lv' := [some (.ref 7), some (.ref 15), some (q_l ((z_sum (ξ 15) k) + ((ξ 15) k))), none, some (q_i k)]) dX8_sumOf_23 (by decide) rfl ?_
        refine q_iinc (lv' := [some (.ref 7), some (.ref 15), some (q_l ((z_sum (ξ 15) k) + ((ξ 15) k))), none, some (q_i (k + 1))]) dX8_sumOf_24 rfl (by decide) rfl ?_
        refine q_goto (tgt := 5) dX8_sumOf_27 (by decide) ?_
        exact q_Jle (q_le_s (rfl) (q_le_s (rfl) (q_le_s (by rw [z_sum_s _ hk0]) (q_le_n (q_le_s (rfl) (q_le_e _)))))) (rfl) (rfl) (ih5 (k + 1) (by omega) (by omega) (by omega))
  exact q_Jle (q_le_s (rfl) (q_le_s (rfl) (q_le_s (rfl) (q_le_n (q_le_s (rfl) (q_le_e _)))))) (rfl) (rfl) (L5 ((ξ 8 2 : Int).toNat + 1) 0 (by omega) (by omega) (by omega))
set_option maxRecDepth 20000 in
theorem tX8_howManyAbove_15 (w : q_W) (ξ : m_S) (B P : Nat) (g : Int → Option Nat) (hS : 0 ≤ ξ 8 2 ∧ ξ 8 2 ≤ 216) (hV : ∀ c, 0 ≤ c → c < ξ 8 2 → 0 ≤ ξ 15 c ∧ ξ 15 c ≤ 9000000000000000000) : q_D mX8_howManyAbove 0 [.ref 7, .ref 15] (x_w w ξ B P g) (some (q_i (z_pos (ξ 15) (ξ 8 2)))) (x_w w ξ B P g) := by
  refine q_T.of (lv := [some (.ref 7), some (.ref 15), none, none]) (by decide) rfl (Nat.le_of_ble_eq_true rfl) ?_
  refine q_iconst dX8_howManyAbove_0 ?_
  refine q_istore_n (lv' := [some (.ref 7), some (.ref 15), some (q_i 0), none]) dX8_howManyAbove_1 (by decide) rfl ?_
  refine q_iconst dX8_howManyAbove_2 ?_
  refine q_istore_n (lv' := [some (.ref 7), some (.ref 15), some (q_i 0), some (q_i 0)]) dX8_howManyAbove_3 (by decide) rfl ?_
  have L4 : ∀ (m9 : Nat) (k : Int) (hk0 : 0 ≤ k) (hk1 : k ≤ ξ 8 2) (hm9 : ξ 8 2 - k < (m9 : Int)), q_J mX8_howManyAbove 0 (fun v' w' => v' = (some (q_i (z_pos (ξ 15) (ξ 8 2)))) ∧ w' = (x_w w ξ B P g)) 0 0 4 [some (.ref 7), some (.ref 15), some (q_i (z_pos (ξ 15) k)), some (q_i k)] [] (x_w w ξ B P g) := by
    intro m9
    induction m9 with
    | zero => intro k hk0 hk1 hm9; exact absurd hm9 (by omega)
    | succ m9 ih4 =>
      intro k hk0 hk1 hm9
      refine q_iload_n dX8_howManyAbove_4 rfl ?_
      refine q_aload_n dX8_howManyAbove_5 rfl ?_
      refine q_get (v := .ref 8) fX8_18_8 rfl rfl dX8_howManyAbove_6 ?_
      refine q_get (v := q_i (ξ 8 2)) fX8_144_10 rfl rfl dX8_howManyAbove_9 ?_
      refine q_icmp_ge (tgt := 37) dX8_howManyAbove_12 (by decide) ⟨by omega, by omega⟩ ⟨by omega, by omega⟩ (fun h12 => ?_) (fun h12 => ?_)
      · skip
        refine q_iload_n dX8_howManyAbove_37 rfl ?_
        exact q_iret rfl dX8_howManyAbove_38 (⟨by rw [show k = ξ 8 2 by omega], rfl⟩)
      · skip
        refine q_iload_n dX8_howManyAbove_15 rfl ?_
        refine q_aload_n dX8_howManyAbove_16 rfl ?_
        refine q_iload_n dX8_howManyAbove_17 rfl ?_
        refine q_lald (f := (ξ 15)) (n9 := 216) rfl (by omega) (by omega) dX8_howManyAbove_18 ?_
        refine q_lconst 0 dX8_howManyAbove_19 ?_
        refine q_lcmp_le (tgt := 28) dX8_howManyAbove_20 dX8_howManyAbove_21 (by decide) ⟨by have := hV k (by omega) (by omega); omega, by have := hV k (by omega) (by omega); omega⟩ ⟨by decide, by decide⟩ (fun h20 => ?_) (fun h20 => ?_)
        · skip
          refine q_iconst dX8_howManyAbove_28 ?_
          refine q_iadd dX8_howManyAbove_29 ?_
          refine q_istore_n (lv' := [some (.ref 7), some (.ref 15), some (q_i ((z_pos (ξ 15) k) + 0)), some (q_i k)]) dX8_howManyAbove_30 (by decide) rfl ?_
          refine q_iinc (lv' := [some (.ref 7), some (.ref 15), some (q_i ((z_pos (ξ 15) k) + 0)), some (q_i (k + 1))]) dX8_howManyAbove_31 rfl (by decide) rfl ?_
          refine q_goto (tgt := 4) dX8_howManyAbove_34 (by decide) ?_
          exact q_Jle (q_le_s (rfl) (q_le_s (rfl) (q_le_s (by rw [z_pos_s _ hk0]; (try dsimp only); (repeat' split) <;> first | rfl | (exfalso; omega)) (q_le_s (rfl) (q_le_e _))))) (rfl) (rfl) (ih4 (k + 1) (by omega) (by omega) (by omega))
        · skip
          refine q_iconst dX8_howManyAbove_24 ?_
          refine q_goto (tgt := 29) dX8_howManyAbove_25 (by decide) ?_
          refine q_iadd dX8_howManyAbove_29 ?_
          refine q_istore_n (lv' := [some (.ref 7), some (.ref 15), some (q_i ((z_pos (ξ 15) k) + 1)), some (q_i k)]) dX8_howManyAbove_30 (by decide) rfl ?_
          refine q_iinc (lv' := [some (.ref 7), some (.ref 15), some (q_i ((z_pos (ξ 15) k) + 1)), some (q_i (k + 1))]) dX8_howManyAbove_31 rfl (by decide) rfl ?_
          refine q_goto (tgt := 4) dX8_howManyAbove_34 (by decide) ?_
          exact q_Jle (q_le_s (rfl) (q_le_s (rfl) (q_le_s (by rw [z_pos_s _ hk0]; (try dsimp only); (repeat' split) <;> first | rfl | (exfalso; omega)) (q_le_s (rfl) (q_le_e _))))) (rfl) (rfl) (ih4 (k + 1) (by omega) (by omega) (by omega))
  exact q_Jle (q_le_s (rfl) (q_le_s (rfl) (q_le_s (rfl) (q_le_s (rfl) (q_le_e _))))) (rfl) (rfl) (L4 ((ξ 8 2 : Int).toNat + 1) 0 (by omega) (by omega) (by omega))
set_option maxRecDepth 20000 in
theorem tX8_firstAbove_15 (w : q_W) (ξ : m_S) (B P : Nat) (g : Int → Option Nat) (hS : 0 ≤ ξ 8 2 ∧ ξ 8 2 ≤ 216) (hV : ∀ c, 0 ≤ c → c < ξ 8 2 → 0 ≤ ξ 15 c ∧ ξ 15 c ≤ 9000000000000000000) (h0 : 0 < ξ 8 2) : q_D mX8_firstAbove 0 [.ref 7, .ref 15] (x_w w ξ B P g) (some (q_i (z_fa (ξ 15) (ξ 8 2)))) (x_w w ξ B P g) := by
  refine q_T.of (lv := [some (.ref 7), some (.ref 15), none]) (by decide) rfl (Nat.le_of_ble_eq_true rfl) ?_
  refine q_iconst dX8_firstAbove_0 ?_
  refine q_istore_n (lv' := [some (.ref 7), some (.ref 15), some (q_i 0)]) dX8_firstAbove_1 (by decide) rfl ?_
  have L2 : ∀ (m9 : Nat) (k : Int) (hk0 : 0 ≤ k) (hk1 : k < ξ 8 2) (hf : z_fk (ξ 15) (ξ 8 2) (ξ 8 2 - k).toNat k = z_fa (ξ 15) (ξ 8 2)) (hm9 : ξ 8 2 - k < (m9 : Int)), q_J mX8_firstAbove 0 (fun v' w' => v' = (some (q_i (z_fa (ξ 15) (ξ 8 2)))) ∧ w' = (x_w w ξ B P g)) 0 0 2 [some (.ref 7), some (.ref 15), some (q_i k)] [] (x_w w ξ B P g) := by
    intro m9
    induction m9 with
    | zero => intro k hk0 hk1 hf hm9; exact absurd hm9 (by omega)
    | succ m9 ih2 =>
      intro k hk0 hk1 hf hm9
      refine q_iload_n dX8_firstAbove_2 rfl ?_
      refine q_iconst dX8_firstAbove_3 ?_
      refine q_iadd dX8_firstAbove_4 ?_
      refine q_aload_n dX8_firstAbove_5 rfl ?_
      refine q_get (v := .ref 8) fX8_18_8 rfl rfl dX8_firstAbove_6 ?_
      refine q_get (v := q_i (ξ 8 2)) fX8_144_10 rfl rfl dX8_firstAbove_9 ?_
      refine q_icmp_ge (tgt := 29) dX8_firstAbove_12 (by decide) ⟨by omega, by omega⟩ ⟨by omega, by omega⟩ (fun h12 => ?_) (fun h12 => ?_)
      · skip
        refine q_iload_n dX8_firstAbove_29 rfl ?_
        exact q_iret rfl dX8_firstAbove_30 (⟨by rw [← hf, z_fk_no (by omega)], rfl⟩)
      · skip
        refine q_aload_n dX8_firstAbove_15 rfl ?_
        refine q_iload_n dX8_firstAbove_16 rfl ?_
        refine q_lald (f := (ξ 15)) (n9 := 216) rfl (by omega) (by omega) dX8_firstAbove_17 ?_
        refine q_lconst 0 dX8_firstAbove_18 ?_
        refine q_lcmp_ne (tgt := 29) dX8_firstAbove_19 dX8_firstAbove_20 (by decide) ⟨by have := hV k (by omega) (by omega); omega, by have := hV k (by omega) (by omega); omega⟩ ⟨by decide, by decide⟩ (fun h19 => ?_) (fun h19 => ?_)
        · skip
          refine q_iload_n dX8_firstAbove_29 rfl ?_
          exact q_iret rfl dX8_firstAbove_30 (⟨by rw [← hf, z_fk_no (by omega)], rfl⟩)
        · skip
          refine q_iinc (lv' := [some (.ref 7), some (.ref 15), some (q_i (k + 1))]) dX8_firstAbove_23 rfl (by decide) rfl ?_
          refine q_goto (tgt := 2) dX8_firstAbove_26 (by decide) ?_
          exact q_Jle (q_le_s (rfl) (q_le_s (rfl) (q_le_s (rfl) (q_le_e _)))) (rfl) (rfl) (ih2 (k + 1) (by omega) (by omega) ((z_fk_go (by omega) (by omega)).symm.trans hf) (by omega))
  exact q_Jle (q_le_s (rfl) (q_le_s (rfl) (q_le_s (rfl) (q_le_e _)))) (rfl) (rfl) (L2 ((ξ 8 2 : Int).toNat + 1) 0 (by omega) (h0) (by rw [Int.sub_zero]; rfl) (by omega))
set_option maxRecDepth 20000 in
theorem tX8_likeliest_15 (w : q_W) (ξ : m_S) (B P : Nat) (g : Int → Option Nat) (hS : 0 ≤ ξ 8 2 ∧ ξ 8 2 ≤ 216) (hV : ∀ c, 0 ≤ c → c < ξ 8 2 → 0 ≤ ξ 15 c ∧ ξ 15 c ≤ 9000000000000000000) (h0 : 0 < ξ 8 2) : q_D mX8_likeliest 0 [.ref 7, .ref 15] (x_w w ξ B P g) (some (q_i (z_am (ξ 15) (ξ 8 2)))) (x_w w ξ B P g) := by
  refine q_T.of (lv := [some (.ref 7), some (.ref 15), none, none]) (by decide) rfl (Nat.le_of_ble_eq_true rfl) ?_
  refine q_iconst dX8_likeliest_0 ?_
  refine q_istore_n (lv' := [some (.ref 7), some (.ref 15), some (q_i 0), none]) dX8_likeliest_1 (by decide) rfl ?_
  refine q_iconst dX8_likeliest_2 ?_
  refine q_istore_n (lv' := [some (.ref 7), some (.ref 15), some (q_i 0), some (q_i 1)]) dX8_likeliest_3 (by decide) rfl ?_
  have L4 : ∀ (m9 : Nat) (k : Int) (hk0 : 1 ≤ k) (hk1 : k ≤ ξ 8 2) (hm9 : ξ 8 2 - k < (m9 : Int)), q_J mX8_likeliest 0 (fun v' w' => v' = (some (q_i (z_am (ξ 15) (ξ 8 2)))) ∧ w' = (x_w w ξ B P g)) 0 0 4 [some (.ref 7), some (.ref 15), some (q_i (z_am (ξ 15) k)), some (q_i k)] [] (x_w w ξ B P g) := by
    intro m9
    induction m9 with
    | zero => intro k hk0 hk1 hm9; exact absurd hm9 (by omega)
    | succ m9 ih4 =>
      intro k hk0 hk1 hm9
      refine q_iload_n dX8_likeliest_4 rfl ?_
      refine q_aload_n dX8_likeliest_5 rfl ?_
      refine q_get (v := .ref 8) fX8_18_8 rfl rfl dX8_likeliest_6 ?_
      refine q_get (v := q_i (ξ 8 2)) fX8_144_10 rfl rfl dX8_likeliest_9 ?_
      refine q_icmp_ge (tgt := 37) dX8_likeliest_12 (by decide) ⟨by omega, by omega⟩ ⟨by omega, by omega⟩ (fun h12 => ?_) (fun h12 => ?_)
      · skip
        refine q_iload_n dX8_likeliest_37 rfl ?_
        exact q_iret rfl dX8_likeliest_38 (⟨by rw [show k = ξ 8 2 by omega], rfl⟩)
      · skip
        have har := z_am_r (ξ 15) (n := k) (by omega)
        refine q_aload_n dX8_likeliest_15 rfl ?_
        refine q_iload_n dX8_likeliest_16 rfl ?_
        refine q_lald (f := (ξ 15)) (n9 := 216) rfl (by omega) (by omega) dX8_likeliest_17 ?_
        refine q_aload_n dX8_likeliest_18 rfl ?_
        refine q_iload_n dX8_likeliest_19 rfl ?_
        refine q_lald (f := (ξ 15)) (n9 := 216) rfl (by omega) (by omega) dX8_likeliest_20 ?_
        refine q_lcmp_le (tgt := 29) dX8_likeliest_21 dX8_likeliest_22 (by decide) ⟨by have := hV k (by omega) (by omega); omega, by have := hV k (by omega) (by omega); omega⟩ ⟨by have := hV (z_am (ξ 15) k) (by omega) (by omega); omega, by have := hV (z_am (ξ 15) k) (by omega) (by omega); omega⟩ (fun h21 => ?_) (fun h21 => ?_)
        · skip
          refine q_iload_n dX8_likeliest_29 rfl ?_
          refine q_istore_n (lv' := [some (.ref 7), some (.ref 15), some (q_i (z_am (ξ 15) k)), some (q_i k)]) dX8_likeliest_30 (by decide) rfl ?_
          refine q_iinc (lv' := [some (.ref 7), some (.ref 15), some (q_i (z_am (ξ 15) k)), some (q_i (k + 1))]) dX8_likeliest_31 rfl (by decide) rfl ?_
          refine q_goto (tgt := 4) dX8_likeliest_34 (by decide) ?_
          exact q_Jle (q_le_s (rfl) (q_le_s (rfl) (q_le_s (by rw [z_am_s _ (by omega), if_neg (by omega)]) (q_le_s (rfl) (q_le_e _))))) (rfl) (rfl) (ih4 (k + 1) (by omega) (by omega) (by omega))
        · skip
          refine q_iload_n dX8_likeliest_25 rfl ?_
          refine q_goto (tgt := 30) dX8_likeliest_26 (by decide) ?_
          refine q_istore_n (lv' := [some (.ref 7), some (.ref 15), some (q_i k), some (q_i k)]) dX8_likeliest_30 (by decide) rfl ?_
          refine q_iinc (lv' := [some (.ref 7), some (.ref 15), some (q_i k), some (q_i (k + 1))]) dX8_likeliest_31 rfl (by decide) rfl ?_
          refine q_goto (tgt := 4) dX8_likeliest_34 (by decide) ?_
          exact q_Jle (q_le_s (rfl) (q_le_s (rfl) (q_le_s (by rw [z_am_s _ (by omega), if_pos (by omega)]) (q_le_s (rfl) (q_le_e _))))) (rfl) (rfl) (ih4 (k + 1) (by omega) (by omega) (by omega))
  exact q_Jle (q_le_s (rfl) (q_le_s (rfl) (q_le_s (by rw [z_am_1]) (q_le_s (rfl) (q_le_e _))))) (rfl) (rfl) (L4 ((ξ 8 2 : Int).toNat + 1) 1 (by omega) (by omega) (by omega))
set_option maxRecDepth 20000 in
theorem tX8_howManyAre (w : q_W) (ξ : m_S) (B P : Nat) (g : Int → Option Nat) (v : Int) (hv : 0 ≤ v ∧ v ≤ 9000000000000000000) (hS : 0 ≤ ξ 8 2 ∧ ξ 8 2 ≤ 216) (hV : ∀ c, 0 ≤ c → c < ξ 8 2 → 0 ≤ ξ 14 c ∧ ξ 14 c ≤ 9000000000000000000) : q_D mX8_howManyAre 0 [.ref 7, .ref 14, q_l v] (x_w w ξ B P g) (some (q_i (z_sum (fun c => if ξ 14 c = v then 1 else 0) (ξ 8 2)))) (x_w w ξ B P g) := by
  refine q_T.of (lv := [some (.ref 7), some (.ref 14), some (q_l v), none, none, none]) (by decide) rfl (Nat.le_of_ble_eq_true rfl) ?_
  refine q_iconst dX8_howManyAre_0 ?_
  refine q_istore (lv' := [some (.ref 7), some (.ref 14), some (q_l v), none, some (q_i 0), none]) dX8_howManyAre_1 (by decide) rfl ?_
  refine q_iconst dX8_howManyAre_3 ?_
  refine q_istore (lv' := [some (.ref 7), some (.ref 14), some (q_l v), none, some (q_i 0), some (q_i 0)]) dX8_howManyAre_4 (by decide) rfl ?_
  have L6 : ∀ (m9 : Nat) (k : Int) (hk0 : 0 ≤ k) (hk1 : k ≤ ξ 8 2) (hm9 : ξ 8 2 - k < (m9 : Int)), q_J mX8_howManyAre 0 (fun v' w' => v' = (some (q_i (z_sum (fun c => if ξ 14 c = v then 1 else 0) (ξ 8 2)))) ∧ w' = (x_w w ξ B P g)) 0 0 6 [some (.ref 7), some (.ref 14), some (q_l v), none, some (q_i (z_sum (fun c => if ξ 14 c = v then 1 else 0) k)), some (q_i k)] [] (x_w w ξ B P g) := by
    intro m9
    induction m9 with
    | zero => intro k hk0 hk1 hm9; exact absurd hm9 (by omega)
    | succ m9 ih6 =>
      intro k hk0 hk1 hm9
      refine q_iload dX8_howManyAre_6 rfl ?_
      refine q_aload_n dX8_howManyAre_8 rfl ?_
      refine q_get (v := .ref 8) fX8_18_8 rfl rfl dX8_howManyAre_9 ?_
      refine q_get (v := q_i (ξ 8 2)) fX8_144_10 rfl rfl dX8_howManyAre_12 ?_
      refine q_icmp_ge (tgt := 43) dX8_howManyAre_15 (by decide) ⟨by omega, by omega⟩ ⟨by omega, by omega⟩ (fun h15 => ?_) (fun h15 => ?_)
      · skip
        refine q_iload dX8_howManyAre_43 rfl ?_
        exact q_iret rfl dX8_howManyAre_45 (⟨by rw [show k = ξ 8 2 by omega], rfl⟩)
      · skip
        refine q_iload dX8_howManyAre_18 rfl ?_
        refine q_aload_n dX8_howManyAre_20 rfl ?_
        refine q_iload dX8_howManyAre_21 rfl ?_
        refine q_lald (f := (ξ 14)) (n9 := 216) rfl (by omega) (by omega) dX8_howManyAre_23 ?_
        refine q_lload_n dX8_howManyAre_24 rfl ?_
        refine q_lcmp_ne (tgt := 33) dX8_howManyAre_25 dX8_howManyAre_26 (by decide) ⟨by have := hV k (by omega) (by omega); omega, by have := hV k (by omega) (by omega); omega⟩ ⟨by omega, by omega⟩ (fun h25 => ?_) (fun h25 => ?_)
        · skip
          refine q_iconst dX8_howManyAre_33 ?_
          refine q_iadd dX8_howManyAre_34 ?_
          refine q_istore (lv' := [some (.ref 7), some (.ref 14), some (q_l v), none, some (q_i ((z_sum (fun c => if ξ 14 c = v then 1 else 0) k) + 0)), some (q_i k)]) dX8_howManyAre_35 (by decide) rfl ?_
          refine q_iinc (lv' := [some (.ref 7), some (.ref 14), some (q_l v), none, some (q_i ((z_sum (fun c => if ξ 14 c = v then 1 else 0) k) + 0)), some (q_i (k + 1))]) dX8_howManyAre_37 rfl (by decide) rfl ?_
          refine q_goto (tgt := 6) dX8_howManyAre_40 (by decide) ?_
          exact q_Jle (q_le_s (rfl) (q_le_s (rfl) (q_le_s (rfl) (q_le_n (q_le_s (by rw [z_sum_s _ hk0]; (try dsimp only); (repeat' split) <;> first | rfl | (exfalso; omega)) (q_le_s (rfl) (q_le_e _))))))) (rfl) (rfl) (ih6 (k + 1) (by omega) (by omega) (by omega))
        · skip
          refine q_iconst dX8_howManyAre_29 ?_
          refine q_goto (tgt := 34) dX8_howManyAre_30 (by decide) ?_
          refine q_iadd dX8_howManyAre_34 ?_
          refine q_istore (lv' := [some (.ref 7), some (.ref 14), some (q_l v), none, some (q_i ((z_sum (fun c => if ξ 14 c = v then 1 else 0) k) + 1)), some (q_i k)]) dX8_howManyAre_35 (by decide) rfl ?_
          refine q_iinc (lv' := [some (.ref 7), some (.ref 14), some (q_l v), none, some (q_i ((z_sum (fun c => if ξ 14 c = v then 1 else 0) k) + 1)), some (q_i (k + 1))]) dX8_howManyAre_37 rfl (by decide) rfl ?_
          refine q_goto (tgt := 6) dX8_howManyAre_40 (by decide) ?_
          exact q_Jle (q_le_s (rfl) (q_le_s (rfl) (q_le_s (rfl) (q_le_n (q_le_s (by rw [z_sum_s _ hk0]; (try dsimp only); (repeat' split) <;> first | rfl | (exfalso; omega)) (q_le_s (rfl) (q_le_e _))))))) (rfl) (rfl) (ih6 (k + 1) (by omega) (by omega) (by omega))
  exact q_Jle (q_le_s (rfl) (q_le_s (rfl) (q_le_s (rfl) (q_le_n (q_le_s (rfl) (q_le_s (rfl) (q_le_e _))))))) (rfl) (rfl) (L6 ((ξ 8 2 : Int).toNat + 1) 0 (by omega) (by omega) (by omega))
set_option maxRecDepth 20000 in
theorem tX8_howManyCanBe (w : q_W) (ξ : m_S) (B P : Nat) (g : Int → Option Nat) (hS : 0 ≤ ξ 8 2 ∧ ξ 8 2 ≤ 216) (hV : ∀ c, 0 ≤ c → c < ξ 8 2 → 0 ≤ ξ 14 c ∧ ξ 14 c ≤ 9000000000000000000) : q_D mX8_howManyCanBe 1 [.ref 7] (x_w w ξ B P g) (some (q_i (z_pos (ξ 14) (ξ 8 2)))) (x_w w ξ B P g) := by
  refine q_T.of (lv := [some (.ref 7)]) (by decide) rfl (Nat.le_of_ble_eq_true rfl) ?_
  refine q_aload_n dX8_howManyCanBe_0 rfl ?_
  refine q_aload_n dX8_howManyCanBe_1 rfl ?_
  refine q_get (v := .ref 14) fX8_31_8 rfl rfl dX8_howManyCanBe_2 ?_
  refine q_cV [.ref 14] kX8_160_8 rfl (tX8_howManyAbove_14 w ξ B P g (show 0 ≤ ξ 8 2 ∧ ξ 8 2 ≤ 216 by omega) hV) dX8_howManyCanBe_5 rfl (by decide) (Nat.le_of_ble_eq_true rfl) rfl ?_
  exact q_iret rfl dX8_howManyCanBe_8 (⟨rfl, rfl⟩)
set_option maxRecDepth 20000 in
theorem tX8_weightAt (w : q_W) (ξ : m_S) (B P : Nat) (g : Int → Option Nat) (v n : Int) (hv0 : 0 ≤ v) (hv1 : v < ξ 8 0) (hn : q_r n) (hG : x_G ξ) : q_D mX8_weightAt 1 [.ref 7, q_i v, q_i n] (x_w w ξ B P g) (some (q_l (z_sum (fun c => if z_nt (ξ 8 0) (ξ 8 1) c v = n then ξ 14 c else 0) (ξ 8 2)))) (x_w w ξ B P g) := by
  refine q_T.of (lv := [some (.ref 7), some (q_i v), some (q_i n), none, none, none]) (by decide) rfl (Nat.le_of_ble_eq_true rfl) ?_
  have hWN := hG.1
  have hW := hG.1.1
  have hN := hG.1.2
  have hS := hG.S
  refine q_lconst 0 dX8_weightAt_0 ?_
  refine q_lstore_n (lv' := [some (.ref 7), some (q_i v), some (q_i n), some (q_l 0), none, none]) dX8_weightAt_1 (by decide) rfl ?_
  refine q_iconst dX8_weightAt_2 ?_
  refine q_istore (lv' := [some (.ref 7), some (q_i v), some (q_i n), some (q_l 0), none, some (q_i 0)]) dX8_weightAt_3 (by decide) rfl ?_
  have L5 : ∀ (m9 : Nat) (k : Int) (hk0 : 0 ≤ k) (hk1 : k ≤ ξ 8 2) (hm9 : ξ 8 2 - k < (m9 : Int)), q_J mX8_weightAt 1 (fun v' w' => v' = (some (q_l (z_sum (fun c => if z_nt (ξ 8 0) (ξ 8 1) c v = n then ξ 14 c else 0) (ξ 8 2)))) ∧ w' = (x_w w ξ B P g)) 0 0 5 [some (.ref 7), some (q_i v), some (q_i n), some (q_l (z_sum (fun c => if z_nt (ξ 8 0) (ξ 8 1) c v = n then ξ 14 c else 0) k)), none, some (q_i k)] [] (x_w w ξ B P g) := by
    intro m9
    induction m9 with
    | zero => intro k hk0 hk1 hm9; exact absurd hm9 (by omega)
    | succ m9 ih5 =>
      intro k hk0 hk1 hm9
      refine q_iload dX8_weightAt_5 rfl ?_
      refine q_aload_n dX8_weightAt_7 rfl ?_
      refine q_get (v := .ref 8) fX8_18_8 rfl rfl dX8_weightAt_8 ?_
      refine q_get (v := q_i (ξ 8 2)) fX8_144_10 rfl rfl dX8_weightAt_11 ?_
      refine q_icmp_ge (tgt := 51) dX8_weightAt_14 (by decide) ⟨by omega, by omega⟩ ⟨by omega, by omega⟩ (fun h14 => ?_) (fun h14 => ?_)
      · skip
        refine q_lload_n dX8_weightAt_51 rfl ?_
        exact q_lret rfl dX8_weightAt_52 (⟨by rw [show k = ξ 8 2 by omega], rfl⟩)
      · skip
        refine q_lload_n dX8_weightAt_17 rfl ?_
        refine q_aload_n dX8_weightAt_18 rfl ?_
        refine q_get (v := .ref 8) fX8_18_8 rfl rfl dX8_weightAt_19 ?_
        refine q_iload dX8_weightAt_22 rfl ?_
        refine q_iload_n dX8_weightAt_24 rfl ?_
        refine q_cV [q_i k, q_i v] kX8_168_10 rfl (tX10_notchOf w ξ B P g k v (show (0 : Int) ≤ k by omega) (show k < ξ 8 2 by omega) (show (0 : Int) ≤ v by omega) (show v < ξ 8 0 by omega) hG) dX8_weightAt_25 rfl (by decide) (Nat.le_of_ble_eq_true rfl) rfl ?_
        have na := z_nt_in hWN hk0 hv0 hv1
        refine q_iload_n dX8_weightAt_28 rfl ?_
        refine q_icmp_ne (tgt := 42) dX8_weightAt_29 (by decide) ⟨by omega, by omega⟩ hn (fun h29 => ?_) (fun h29 => ?_)
        · skip
          refine q_lconst 0 dX8_weightAt_42 ?_
          refine q_ladd dX8_weightAt_43 ?_
          refine q_lstore_n (lv' := [some (.ref 7), some (q_i v), some (q_i n), some (q_l ((z_sum (fun c => if z_nt (ξ 8 0) (ξ 8 1) c v = n then ξ 14 c else 0) k) + 0)), none, some (q_i k)]) dX8_weightAt_44 (by decide) rfl ?_
          refine q_iinc (lv' := [some (.ref 7), some (q_i v), some (q_i n), some (q_l ((z_sum (fun c => if z_nt (ξ 8 0) (ξ 8 1) c v = n then ξ 14 c else 0) k) + 0)), none, some (q_i (k + 1))]) dX8_weightAt_45 rfl (by decide) rfl ?_
          refine q_goto (tgt := 5) dX8_weightAt_48 (by decide) ?_
          exact q_Jle (q_le_s (rfl) (q_le_s (rfl) (q_le_s (rfl) (q_le_s (by rw [z_sum_s _ hk0]; (try dsimp only); (repeat' split) <;> first | rfl | (exfalso; omega)) (q_le_n (q_le_s (rfl) (q_le_e _))))))) (rfl) (rfl) (ih5 (k + 1) (by omega) (by omega) (by omega))
        · skip
          refine q_aload_n dX8_weightAt_32 rfl ?_
          refine q_get (v := .ref 14) fX8_31_8 rfl rfl dX8_weightAt_33 ?_
          refine q_iload dX8_weightAt_36 rfl ?_
          refine q_lald (f := (ξ 14)) (n9 := 216) rfl (by omega) (by omega) dX8_weightAt_38 ?_
          refine q_goto (tgt := 43) dX8_weightAt_39 (by decide) ?_
          refine q_ladd dX8_weightAt_43 ?_
          refine q_lstore_n (lv' := [some (.ref 7), some (q_i v), some (q_i n), some (q_l ((z_sum (fun c => if z_nt (ξ 8 0) (ξ 8 1) c v = n then ξ 14 c else 0) k) + ((ξ 14) k))), none, some (q_i k)]) dX8_weightAt_44 (by decide) rfl ?_
          refine q_iinc (lv' := [some (.ref 7), some (q_i v), some (q_i n), some (q_l ((z_sum (fun c => if z_nt (ξ 8 0) (ξ 8 1) c v = n then ξ 14 c else 0) k) + ((ξ 14) k))), none, some (q_i (k + 1))]) dX8_weightAt_45 rfl (by decide) rfl ?_
          refine q_goto (tgt := 5) dX8_weightAt_48 (by decide) ?_
          exact q_Jle (q_le_s (rfl) (q_le_s (rfl) (q_le_s (rfl) (q_le_s (by rw [z_sum_s _ hk0]; (try dsimp only); (repeat' split) <;> first | rfl | (exfalso; omega)) (q_le_n (q_le_s (rfl) (q_le_e _))))))) (rfl) (rfl) (ih5 (k + 1) (by omega) (by omega) (by omega))
  exact q_Jle (q_le_s (rfl) (q_le_s (rfl) (q_le_s (rfl) (q_le_s (rfl) (q_le_n (q_le_s (rfl) (q_le_e _))))))) (rfl) (rfl) (L5 ((ξ 8 2 : Int).toNat + 1) 0 (by omega) (by omega) (by omega))
def x_wa (ξ : m_S) (v n : Int) : Int := z_sum (fun c => if z_nt (ξ 8 0) (ξ 8 1) c v = n then ξ 14 c else 0) (ξ 8 2)
def x_cn (ξ : m_S) (v : Int) : Int := z_nt (ξ 8 0) (ξ 8 1) (z_fa (ξ 14) (ξ 8 2)) v
theorem x_wa_r {ξ : m_S} (hS : 0 ≤ ξ 8 2 ∧ ξ 8 2 ≤ 216) (hV : ∀ c, 0 ≤ c → c < ξ 8 2 → 0 ≤ ξ 14 c ∧ ξ 14 c ≤ 4294967296) (v n : Int) : 0 ≤ x_wa ξ v n ∧ x_wa ξ v n ≤ 927712935936 := by
  have h := z_sum_b (fun c => if z_nt (ξ 8 0) (ξ 8 1) c v = n then ξ 14 c else 0) 0 4294967296 hS.1 (fun j h0 h1 => by
    have := hV j h0 h1
    (try dsimp only)
    split <;> omega)
  unfold x_wa
  omega
theorem x_s14_r {ξ : m_S} {b : Nat} (hS : 0 ≤ ξ 8 2 ∧ ξ 8 2 ≤ 216) (hV : ∀ c, 0 ≤ c → c < ξ 8 2 → 0 ≤ ξ b c ∧ ξ b c ≤ 4294967296) : 0 ≤ z_sum (ξ b) (ξ 8 2) ∧ z_sum (ξ b) (ξ 8 2) ≤ 927712935936 := by
  have h := z_sum_b (ξ b) 0 4294967296 hS.1 (fun j h0 h1 => hV j h0 h1)
  omega
set_option maxRecDepth 20000 in
theorem tX8_certainNotch (w : q_W) (ξ : m_S) (B P : Nat) (g : Int → Option Nat) (v : Int) (hv0 : 0 ≤ v) (hv1 : v < ξ 8 0) (hG : x_G ξ) (hV : ∀ c, 0 ≤ c → c < ξ 8 2 → 0 ≤ ξ 14 c ∧ ξ 14 c ≤ 4294967296) : q_D mX8_certainNotch 2 [.ref 7, q_i v] (x_w w ξ B P g) (some (q_i (if x_wa ξ v (x_cn ξ v) = z_sum (ξ 14) (ξ 8 2) then x_cn ξ v else -9))) (x_w w ξ B P g) := by
  refine q_T.of (lv := [some (.ref 7), some (q_i v), none]) (by decide) rfl (Nat.le_of_ble_eq_true rfl) ?_
  have hWN := hG.1
  have hW := hG.1.1
  have hN := hG.1.2
  have hS := hG.S
  have hfa := z_fa_p (ξ 14) (S := ξ 8 2) (by omega)
  have hsr := x_s14_r (b := 14) (by omega) hV
  have hwr := x_wa_r (by omega) hV v (x_cn ξ v)
  have hcn : 0 ≤ x_cn ξ v ∧ x_cn ξ v < ξ 8 1 := z_nt_in hWN hfa.1.1 hv0 hv1
  refine q_aload_n dX8_certainNotch_0 rfl ?_
  refine q_get (v := .ref 8) fX8_18_8 rfl rfl dX8_certainNotch_1 ?_
  refine q_aload_n dX8_certainNotch_4 rfl ?_
  refine q_aload_n dX8_certainNotch_5 rfl ?_
  refine q_get (v := .ref 14) fX8_31_8 rfl rfl dX8_certainNotch_6 ?_
  refine q_cV [.ref 14] kX8_171_8 rfl (tX8_firstAbove_14 w ξ B P g (show 0 ≤ ξ 8 2 ∧ ξ 8 2 ≤ 216 by omega) (fun c h0 h1 => ⟨(hV c h0 h1).1, Int.le_trans (hV c h0 h1).2 (by decide)⟩) (show (0:Int) < ξ 8 2 by omega)) dX8_certainNotch_9 rfl (by decide) (Nat.le_of_ble_eq_true rfl) rfl ?_
  refine q_iload_n dX8_certainNotch_12 rfl ?_
  refine q_cV [q_i (z_fa (ξ 14) (ξ 8 2)), q_i v] kX8_168_10 rfl (tX10_notchOf w ξ B P g (z_fa (ξ 14) (ξ 8 2)) v (show (0 : Int) ≤ (z_fa (ξ 14) (ξ 8 2)) by omega) (show (z_fa (ξ 14) (ξ 8 2)) < ξ 8 2 by omega) (show (0 : Int) ≤ v by omega) (show v < ξ 8 0 by omega) hG) dX8_certainNotch_13 rfl (by decide) (Nat.le_of_ble_eq_true rfl) rfl ?_
  refine q_istore_n (lv' := [some (.ref 7), some (q_i v), some (q_i (z_nt (ξ 8 0) (ξ 8 1) (z_fa (ξ 14) (ξ 8 2)) v))]) dX8_certainNotch_16 (by decide) rfl ?_
  show q_J _ _ _ _ _ _ [some (.ref 7), some (q_i v), some (q_i (x_cn ξ v))] [] _
  refine q_aload_n dX8_certainNotch_17 rfl ?_
  refine q_iload_n dX8_certainNotch_18 rfl ?_
  refine q_iload_n dX8_certainNotch_19 rfl ?_
  refine q_cV [q_i v, q_i (x_cn ξ v)] kX8_174_8 rfl (tX8_weightAt w ξ B P g v (x_cn ξ v) (by omega) (by omega) ⟨by omega, by omega⟩ hG) dX8_certainNotch_20 rfl (by decide) (Nat.le_of_ble_eq_true rfl) rfl ?_
  show q_J _ _ _ _ _ _ _ [q_l (x_wa ξ v (x_cn ξ v))] (x_w w ξ B P g)
  refine q_aload_n dX8_certainNotch_23 rfl ?_
  refine q_aload_n dX8_certainNotch_24 rfl ?_
  refine q_get (v := .ref 14) fX8_31_8 rfl rfl dX8_certainNotch_25 ?_
  refine q_cV [.ref 14] kX8_178_8 rfl (tX8_sumOf_14 w ξ B P g (show 0 ≤ ξ 8 2 ∧ ξ 8 2 ≤ 216 by omega)) dX8_certainNotch_28 rfl (by decide) (Nat.le_of_ble_eq_true rfl) rfl ?_
  refine q_lcmp_ne (tgt := 39) dX8_certainNotch_31 dX8_certainNotch_32 (by decide) ⟨by omega, by omega⟩ ⟨by omega, by omega⟩ (fun h31 => ?_) (fun h31 => ?_)
  · skip
    refine q_bipush dX8_certainNotch_39 ?_
    exact q_iret rfl dX8_certainNotch_41 (⟨by split <;> first | rfl | (exfalso; omega), rfl⟩)
  · skip
    refine q_iload_n dX8_certainNotch_35 rfl ?_
    refine q_goto (tgt := 41) dX8_certainNotch_36 (by decide) ?_
    exact q_iret rfl dX8_certainNotch_41 (⟨by split <;> first | rfl | (exfalso; omega), rfl⟩)
