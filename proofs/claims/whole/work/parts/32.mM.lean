/-! the reference: the order of tries -/
def z_pos (f : Int → Int) (n : Int) : Int := z_sum (fun c => if 0 < f c then 1 else 0) n
/-- places k, k - 1, .. move up while they weigh less than c: the row, and c's place -/
def z_sk (f : Int → Int) (c : Int) : Nat → (Int → Int) → (Int → Int) × Int
  | 0, so => (so, 0)
  | k + 1, so => if f (so k) < f c then z_sk f c k (q_us so ((k : Int) + 1) (so k)) else (so, (k : Int) + 1)
def z_ins (f : Int → Int) (c : Int) (so : Int → Int) (n : Int) : Int → Int := q_us (z_sk f c n.toNat so).1 (z_sk f c n.toNat so).2 c
def z_l0 (f so : Int → Int) : Nat → (Int → Int)
  | 0 => so
  | c + 1 => if 0 < f c then z_ins f c (z_l0 f so c) (z_pos f c) else z_l0 f so c
def z_lo (f so : Int → Int) (c : Int) : Int → Int := z_l0 f so c.toNat
theorem z_lo_s (f so : Int → Int) {c : Int} (h : 0 ≤ c) : z_lo f so (c + 1) = if 0 < f c then z_ins f c (z_lo f so c) (z_pos f c) else z_lo f so c := by
  unfold z_lo
  rw [show (c + 1).toNat = c.toNat + 1 by omega]
  show (if 0 < f (c.toNat : Int) then z_ins f (c.toNat : Int) (z_l0 f so c.toNat) (z_pos f (c.toNat : Int)) else z_l0 f so c.toNat) = _
  rw [show (c.toNat : Int) = c by omega]
theorem z_pos_s (f : Int → Int) {c : Int} (h : 0 ≤ c) : z_pos f (c + 1) = z_pos f c + if 0 < f c then 1 else 0 := z_sum_s _ h
theorem z_pos_r (f : Int → Int) {n : Int} (h : 0 ≤ n) : 0 ≤ z_pos f n ∧ z_pos f n ≤ n := z_ind_r (fun c => 0 < f c) h
theorem z_sk_0 (f : Int → Int) (c : Int) (so : Int → Int) {k : Int} (h : k ≤ 0) : z_sk f c k.toNat so = (so, 0) := by
  rw [show k.toNat = 0 by omega]
  rfl
theorem z_sk_go {f : Int → Int} {c : Int} {so : Int → Int} {k : Int} (h : 0 < k) (h2 : f (so (k - 1)) < f c) : z_sk f c k.toNat so = z_sk f c (k - 1).toNat (q_us so k (so (k - 1))) := by
  rw [show k.toNat = (k - 1).toNat + 1 by omega]
  show (if f (so ((k - 1).toNat : Int)) < f c then z_sk f c (k - 1).toNat (q_us so (((k - 1).toNat : Int) + 1) (so ((k - 1).toNat : Int))) else (so, ((k - 1).toNat : Int) + 1)) = _
  rw [show ((k - 1).toNat : Int) = k - 1 by omega, if_pos h2, show k - 1 + 1 = k by omega]
theorem z_sk_no {f : Int → Int} {c : Int} {so : Int → Int} {k : Int} (h : 0 < k) (h2 : f c ≤ f (so (k - 1))) : z_sk f c k.toNat so = (so, k) := by
  rw [show k.toNat = (k - 1).toNat + 1 by omega]
  show (if f (so ((k - 1).toNat : Int)) < f c then z_sk f c (k - 1).toNat (q_us so (((k - 1).toNat : Int) + 1) (so ((k - 1).toNat : Int))) else (so, ((k - 1).toNat : Int) + 1)) = _
  rw [show ((k - 1).toNat : Int) = k - 1 by omega, if_neg (by omega), show k - 1 + 1 = k by omega]
theorem z_sk_r (f : Int → Int) (c n : Int) (P : Int → Prop) : ∀ (k : Nat) (so : Int → Int), (k : Int) ≤ n → (∀ j, 0 ≤ j → j ≤ n → j ≠ k → P (so j)) → (0 ≤ (z_sk f c k so).2 ∧ (z_sk f c k so).2 ≤ k) ∧ ∀ j, 0 ≤ j → j ≤ n → j ≠ (z_sk f c k so).2 → P ((z_sk f c k so).1 j)
  | 0, so, _, h => ⟨⟨Int.le_refl 0, Int.le_refl 0⟩, h⟩
  | k + 1, so, hk, h => by
    show (0 ≤ (if f (so k) < f c then z_sk f c k (q_us so ((k : Int) + 1) (so k)) else (so, (k : Int) + 1)).2 ∧ (if f (so k) < f c then z_sk f c k (q_us so ((k : Int) + 1) (so k)) else (so, (k : Int) + 1)).2 ≤ ((k + 1 : Nat) : Int)) ∧ ∀ j, 0 ≤ j → j ≤ n → j ≠ (if f (so k) < f c then z_sk f c k (q_us so ((k : Int) + 1) (so k)) else (so, (k : Int) + 1)).2 → P ((if f (so k) < f c then z_sk f c k (q_us so ((k : Int) + 1) (so k)) else (so, (k : Int) + 1)).1 j)
    by_cases hc : f (so k) < f c
    · rw [if_pos hc]
      have ih := z_sk_r f c n P k (q_us so ((k : Int) + 1) (so k)) (by omega) (fun j h0 h1 h2 => by
        unfold q_us
        by_cases e : j = (k : Int) + 1
        · rw [if_pos e]; exact h k (by omega) (by omega) (by omega)
        · rw [if_neg e]; exact h j h0 h1 (by omega))
      exact ⟨⟨ih.1.1, by have := ih.1.2; omega⟩, ih.2⟩
    · rw [if_neg hc]
      exact ⟨⟨by show 0 ≤ (k : Int) + 1; omega, by show (k : Int) + 1 ≤ _; omega⟩, fun j h0 h1 h2 => h j h0 h1 (by have h3 : j ≠ (k : Int) + 1 := h2; omega)⟩
theorem z_l0_r (f so : Int → Int) : ∀ (c : Nat) (j : Int), 0 ≤ j → j < z_pos f c → 0 ≤ z_l0 f so c j ∧ z_l0 f so c j < c
  | 0, j, h0, h1 => by have h2 : j < 0 := h1; omega
  | c + 1, j, h0, h1 => by
    have hp := z_pos_r f (n := c) (by omega)
    have hs : z_pos f ((c + 1 : Nat) : Int) = z_pos f c + if 0 < f c then 1 else 0 := by
      rw [show ((c + 1 : Nat) : Int) = (c : Int) + 1 by omega]
      exact z_pos_s f (by omega)
    rw [hs] at h1
    show 0 ≤ (if 0 < f c then z_ins f c (z_l0 f so c) (z_pos f c) else z_l0 f so c) j ∧ (if 0 < f c then z_ins f c (z_l0 f so c) (z_pos f c) else z_l0 f so c) j < ((c + 1 : Nat) : Int)
    by_cases hc : 0 < f c
    · rw [if_pos hc] at h1 ⊢
      have ih := z_sk_r f c (z_pos f c) (fun x => 0 ≤ x ∧ x < c) (z_pos f c).toNat (z_l0 f so c) (by omega) (fun i h2 h3 h4 => z_l0_r f so c i h2 (by omega))
      unfold z_ins q_us
      by_cases e : j = (z_sk f c (z_pos f c).toNat (z_l0 f so c)).2
      · rw [if_pos e]; omega
      · rw [if_neg e]
        have h5 := ih.2 j h0 (by omega) e
        omega
    · rw [if_neg hc] at h1 ⊢
      have h5 := z_l0_r f so c j h0 (by omega)
      omega
theorem z_lo_r (f so : Int → Int) {c j : Int} (hc : 0 ≤ c) (h0 : 0 ≤ j) (h1 : j < z_pos f c) : 0 ≤ z_lo f so c j ∧ z_lo f so c j < c := by
  have h := z_l0_r f so c.toNat j h0 (by rw [show (c.toNat : Int) = c by omega]; exact h1)
  unfold z_lo
  omega
def m_so (μ : m_S) : Int → Int := z_lo (μ 6) (μ 23) (μ 3 0)
def m_srt (μ : m_S) : m_S := m_u μ 23 (m_so μ)
set_option maxRecDepth 20000 in
theorem tX12_laySorted (w : q_W) (μ : m_S) (hV : m_V μ) : q_D mX12_laySorted 0 [.ref 64] (m_w w μ) (some (q_i (z_pos (μ 6) (μ 3 0)))) (m_w w (m_srt μ)) := by
  refine q_T.of (lv := [some (.ref 64), none, none, none]) (by decide) rfl (Nat.le_of_ble_eq_true rfl) ?_
  have hS := hV.1
  refine q_iconst dX12_laySorted_0 ?_
  refine q_istore_n (lv' := [some (.ref 64), some (q_i 0), none, none]) dX12_laySorted_1 (by decide) rfl ?_
  refine q_iconst dX12_laySorted_2 ?_
  refine q_istore_n (lv' := [some (.ref 64), some (q_i 0), some (q_i 0), none]) dX12_laySorted_3 (by decide) rfl ?_
  have L4 : ∀ (m9 : Nat) (c : Int) (hc0 : 0 ≤ c) (hc1 : c ≤ μ 3 0) (hm9 : μ 3 0 - c < (m9 : Int)), q_J mX12_laySorted 0 (fun v' w' => v' = (some (q_i (z_pos (μ 6) (μ 3 0)))) ∧ w' = (m_w w (m_srt μ))) 0 0 4 [some (.ref 64), some (q_i (z_pos (μ 6) c)), some (q_i c), none] [] (m_w w (m_u μ 23 (z_lo (μ 6) (μ 23) c))) := by
    intro m9
    induction m9 with
    | zero => intro c hc0 hc1 hm9; exact absurd hm9 (by omega)
    | succ m9 ih4 =>
      intro c hc0 hc1 hm9
      refine q_iload_n dX12_laySorted_4 rfl ?_
      refine q_aload_n dX12_laySorted_5 rfl ?_
      refine q_get (v := q_i (μ 3 0)) fX12_139_12 rfl rfl dX12_laySorted_6 ?_
      refine q_icmp_ge (tgt := 88) dX12_laySorted_9 (by decide) ⟨by omega, by omega⟩ ⟨by omega, by omega⟩ (fun h9 => ?_) (fun h9 => ?_)
      · skip
        refine q_iload_n dX12_laySorted_88 rfl ?_
        exact q_iret rfl dX12_laySorted_89 (⟨by rw [show c = μ 3 0 by omega], by rw [show c = μ 3 0 by omega]; rfl⟩)
      · skip
        have hpr := z_pos_r (μ 6) hc0
        refine q_aload_n dX12_laySorted_12 rfl ?_
        refine q_get (v := .ref 67) fX12_16_12 rfl rfl dX12_laySorted_13 ?_
        refine q_iload_n dX12_laySorted_16 rfl ?_
        refine q_lald (f := (μ 6)) (n9 := 216) rfl (by omega) (by omega) dX12_laySorted_17 ?_
        refine q_lconst 0 dX12_laySorted_18 ?_
        refine q_lcmp_le (tgt := 82) dX12_laySorted_19 dX12_laySorted_20 (by decide) ⟨by have := hV.2 c hc0 (by omega); omega, by have := hV.2 c hc0 (by omega); omega⟩ ⟨by decide, by decide⟩ (fun h19 => ?_) (fun h19 => ?_)
        · skip
          refine q_iinc (lv' := [some (.ref 64), some (q_i (z_pos (μ 6) c)), some (q_i (c + 1)), none]) dX12_laySorted_82 rfl (by decide) rfl ?_
          refine q_goto (tgt := 4) dX12_laySorted_85 (by decide) ?_
          exact q_Jle (q_le_s (rfl) (q_le_s (by rw [z_pos_s _ hc0, if_neg (by omega), Int.add_zero]) (q_le_s (rfl) (q_le_n (q_le_e _))))) (rfl) (by rw [z_lo_s _ _ hc0, if_neg (by omega)]) (ih4 (c + 1) (by omega) (by omega) (by omega))
        · skip
          refine q_iload_n dX12_laySorted_23 rfl ?_
          refine q_istore_n (lv' := [some (.ref 64), some (q_i (z_pos (μ 6) c)), some (q_i c), some (q_i (z_pos (μ 6) c))]) dX12_laySorted_24 (by decide) rfl ?_
          have L25 : ∀ (m9 : Nat) (k : Int) (so : Int → Int) (hk0 : 0 ≤ k) (hk1 : k ≤ z_pos (μ 6) c) (hso : ∀ j, 0 ≤ j → j < k → 0 ≤ so j ∧ so j < c) (hsk0 : z_sk (μ 6) c k.toNat so = z_sk (μ 6) c (z_pos (μ 6) c).toNat (z_lo (μ 6) (μ 23) c)) (hm9 : k < (m9 : Int)), q_J mX12_laySorted 0 (fun v' w' => v' = (some (q_i (z_pos (μ 6) (μ 3 0)))) ∧ w' = (m_w w (m_srt μ))) 0 0 25 [some (.ref 64), some (q_i (z_pos (μ 6) c)), some (q_i c), some (q_i k)] [] (m_w w (m_u μ 23 so)) := by
            intro m9
            induction m9 with
            | zero => intro k so hk0 hk1 hso hsk0 hm9; exact absurd hm9 (by omega)
            | succ m9 ih25 =>
              intro k so hk0 hk1 hso hsk0 hm9
              refine q_iload_n dX12_laySorted_25 rfl ?_
              refine q_if_le (tgt := 72) dX12_laySorted_26 (by decide) ⟨by omega, by omega⟩ (fun h26 => ?_) (fun h26 => ?_)
              · skip
                have hend : z_sk (μ 6) c k.toNat so = (so, k) := by rw [z_sk_0 _ _ _ (by omega), show k = 0 by omega]
                refine q_aload_n dX12_laySorted_72 rfl ?_
                refine q_get (v := .ref 74) fX12_42_12 rfl rfl dX12_laySorted_73 ?_
                refine q_iload_n dX12_laySorted_76 rfl ?_
                refine q_iload_n dX12_laySorted_77 rfl ?_
                refine q_iast (f := so) (n9 := 216) rfl (by omega) (by omega) dX12_laySorted_78 ?_
                rw [m_a23]
                refine q_iinc (lv' := [some (.ref 64), some (q_i ((z_pos (μ 6) c) + 1)), some (q_i c), some (q_i k)]) dX12_laySorted_79 rfl (by decide) rfl ?_
                refine q_iinc (lv' := [some (.ref 64), some (q_i ((z_pos (μ 6) c) + 1)), some (q_i (c + 1)), some (q_i k)]) dX12_laySorted_82 rfl (by decide) rfl ?_
                refine q_goto (tgt := 4) dX12_laySorted_85 (by decide) ?_
                exact q_Jle (q_le_s (rfl) (q_le_s (by rw [z_pos_s _ hc0, if_pos h19]) (q_le_s (rfl) (q_le_n (q_le_e _))))) (rfl) (by rw [z_lo_s _ _ hc0, if_pos h19]; unfold z_ins; rw [← hsk0, hend, m_uu]) (ih4 (c + 1) (by omega) (by omega) (by omega))
              · skip
                have hsk := hso (k - 1) (by omega) (by omega)
                refine q_aload_n dX12_laySorted_29 rfl ?_
                refine q_get (v := .ref 67) fX12_16_12 rfl rfl dX12_laySorted_30 ?_
                refine q_aload_n dX12_laySorted_33 rfl ?_
                refine q_get (v := .ref 74) fX12_42_12 rfl rfl dX12_laySorted_34 ?_
                refine q_iload_n dX12_laySorted_37 rfl ?_
                refine q_iconst dX12_laySorted_38 ?_
                refine q_isub dX12_laySorted_39 ?_
                refine q_iald (f := so) (n9 := 216) rfl (by omega) (by omega) dX12_laySorted_40 ?_
                refine q_lald (f := (μ 6)) (n9 := 216) rfl (by omega) (by omega) dX12_laySorted_41 ?_
                refine q_aload_n dX12_laySorted_42 rfl ?_
                refine q_get (v := .ref 67) fX12_16_12 rfl rfl dX12_laySorted_43 ?_
                refine q_iload_n dX12_laySorted_46 rfl ?_
                refine q_lald (f := (μ 6)) (n9 := 216) rfl (by omega) (by omega) dX12_laySorted_47 ?_
                refine q_lcmp_ge (tgt := 72) dX12_laySorted_48 dX12_laySorted_49 (by decide) ⟨by have := hV.2 (so (k - 1)) hsk.1 (by omega); omega, by have := hV.2 (so (k - 1)) hsk.1 (by omega); omega⟩ ⟨by have := hV.2 c hc0 (by omega); omega, by have := hV.2 c hc0 (by omega); omega⟩ (fun h48 => ?_) (fun h48 => ?_)
                · skip
                  have hend : z_sk (μ 6) c k.toNat so = (so, k) := z_sk_no (by omega) (by omega)
                  refine q_aload_n dX12_laySorted_72 rfl ?_
                  refine q_get (v := .ref 74) fX12_42_12 rfl rfl dX12_laySorted_73 ?_
                  refine q_iload_n dX12_laySorted_76 rfl ?_
                  refine q_iload_n dX12_laySorted_77 rfl ?_
                  refine q_iast (f := so) (n9 := 216) rfl (by omega) (by omega) dX12_laySorted_78 ?_
                  rw [m_a23]
                  refine q_iinc (lv' := [some (.ref 64), some (q_i ((z_pos (μ 6) c) + 1)), some (q_i c), some (q_i k)]) dX12_laySorted_79 rfl (by decide) rfl ?_
                  refine q_iinc (lv' := [some (.ref 64), some (q_i ((z_pos (μ 6) c) + 1)), some (q_i (c + 1)), some (q_i k)]) dX12_laySorted_82 rfl (by decide) rfl ?_
                  refine q_goto (tgt := 4) dX12_laySorted_85 (by decide) ?_
                  exact q_Jle (q_le_s (rfl) (q_le_s (by rw [z_pos_s _ hc0, if_pos h19]) (q_le_s (rfl) (q_le_n (q_le_e _))))) (rfl) (by rw [z_lo_s _ _ hc0, if_pos h19]; unfold z_ins; rw [← hsk0, hend, m_uu]) (ih4 (c + 1) (by omega) (by omega) (by omega))
                · skip
                  refine q_aload_n dX12_laySorted_52 rfl ?_
                  refine q_get (v := .ref 74) fX12_42_12 rfl rfl dX12_laySorted_53 ?_
                  refine q_iload_n dX12_laySorted_56 rfl ?_
                  refine q_aload_n dX12_laySorted_57 rfl ?_
                  refine q_get (v := .ref 74) fX12_42_12 rfl rfl dX12_laySorted_58 ?_
                  refine q_iload_n dX12_laySorted_61 rfl ?_
                  refine q_iconst dX12_laySorted_62 ?_
                  refine q_isub dX12_laySorted_63 ?_
                  refine q_iald (f := so) (n9 := 216) rfl (by omega) (by omega) dX12_laySorted_64 ?_
                  refine q_iast (f := so) (n9 := 216) rfl (by omega) (by omega) dX12_laySorted_65 ?_
                  rw [m_a23]
                  refine q_iinc (lv' := [some (.ref 64), some (q_i (z_pos (μ 6) c)), some (q_i c), some (q_i (k + (-1)))]) dX12_laySorted_66 rfl (by decide) rfl ?_
                  refine q_goto (tgt := 25) dX12_laySorted_69 (by decide) ?_
                  exact q_Jle (q_le_s (rfl) (q_le_s (rfl) (q_le_s (rfl) (q_le_s (by rw [show k + -1 = k - 1 by omega]) (q_le_e _))))) (rfl) (by rw [m_uu]) (ih25 (k - 1) (q_us so k (so (k - 1))) (by omega) (by omega) (fun j h0 h1 => by rw [q_us_n (by omega)]; exact hso j h0 (by omega)) ((z_sk_go (by omega) h48).symm.trans hsk0) (by omega))
          exact q_Jle (q_le_s (rfl) (q_le_s (rfl) (q_le_s (rfl) (q_le_s (rfl) (q_le_e _))))) (rfl) (rfl) (L25 ((z_pos (μ 6) c : Int).toNat + 1) (z_pos (μ 6) c) (z_lo (μ 6) (μ 23) c) (by omega) (by omega) (fun j h0 h1 => z_lo_r (μ 6) (μ 23) hc0 h0 h1) (rfl) (by omega))
  exact q_Jle (q_le_s (rfl) (q_le_s (rfl) (q_le_s (rfl) (q_le_n (q_le_e _))))) (rfl) ((congrArg (m_w w) (m_uid μ 23)).symm) (L4 ((μ 3 0 : Int).toNat + 1) 0 (by omega) (by omega) (by omega))
theorem m_so_r {μ : m_S} (hV : m_V μ) {j : Int} (h0 : 0 ≤ j) (h1 : j < z_pos (μ 6) (μ 3 0)) : 0 ≤ m_so μ j ∧ m_so μ j < μ 3 0 := z_lo_r _ _ hV.1.1 h0 h1
def z_min (a b : Int) : Int := if b < a then b else a
def m_many (μ : m_S) (n : Int) : Int := z_min (z_pos (μ 6) (μ 3 0)) n
def m_order_v (μ : m_S) (n r : Int) : Int := if ¬ (1 ≤ n ∧ n ≤ 40) then -1 else if ¬ (0 ≤ r ∧ r ≤ 5) then -1 else if μ 4 0 = 0 then -4 else m_many μ n
def m_order_s (μ : m_S) (n r : Int) : m_S := if ¬ (1 ≤ n ∧ n ≤ 40) then μ else if ¬ (0 ≤ r ∧ r ≤ 5) then μ else if μ 4 0 = 0 then μ else m_u (m_mk (m_srt μ) r (m_many μ n)) 8 (q_cpy (m_so μ) (q_fl (μ 8) (40 * r) 40 0) 0 (40 * r) (m_many μ n))
theorem q_cpy_g (f g : Int → Int) {s d k : Int} (hk : 0 ≤ k) : q_us (q_cpy f g s d k) (d + k) (f (s + k)) = q_cpy f g s d (k + 1) := by
  funext j
  unfold q_us q_cpy
  by_cases h1 : j = d + k
  · rw [if_pos h1, if_pos (by omega), h1, show s + (d + k - d) = s + k by omega]
  · rw [if_neg h1]
    by_cases h2 : d ≤ j ∧ j < d + k
    · rw [if_pos h2, if_pos (by omega)]
    · rw [if_neg h2, if_neg (by omega)]
set_option maxRecDepth 20000 in
theorem tX12_order (w : q_W) (μ : m_S) (n r : Int) (hn : q_r n) (hr : q_r r) (hH : m_Sh μ) (hV : m_V μ) : q_D mX12_order 2 [.ref 64, q_i n, q_i r] (m_w w μ) (some (q_i (m_order_v μ n r))) (m_w w (m_order_s μ n r)) := by
  refine q_T.of (lv := [some (.ref 64), some (q_i n), some (q_i r), none, none]) (by decide) rfl (Nat.le_of_ble_eq_true rfl) ?_
  have hb := hH.b
  have hpr := z_pos_r (μ 6) hV.1.1
  refine q_iload_n dX12_order_0 rfl ?_
  refine q_i2lr dX12_order_1 hn ?_
  refine q_lconst 1 dX12_order_2 ?_
  refine q_ldc2 40 wd_1344 dX12_order_3 ?_
  refine q_cS [q_l n, q_l 1, q_l 40] kX12_57 (tX12_in n 1 40 (⟨by have := (hn).1; omega, by have := (hn).2; omega⟩) (⟨by decide, by decide⟩) (⟨by decide, by decide⟩) (m_w w μ)) dX12_order_6 rfl (by decide) (Nat.le_of_ble_eq_true rfl) rfl ?_
  refine q_ifb_eq (tgt := 19) dX12_order_9 (by decide) (fun h9 => ?_) (fun h9 => ?_)
  · skip
    refine q_iconst dX12_order_19 ?_
    exact q_iret rfl dX12_order_20 (⟨by (unfold m_order_v; (repeat' split) <;> first | rfl | (exfalso; omega)), by (unfold m_order_s; (repeat' split) <;> first | rfl | (exfalso; omega))⟩)
  · skip
    refine q_iload_n dX12_order_12 rfl ?_
    refine q_cS [q_i r] kX12_63 (tX12_isRow (m_w w μ) r (hr)) dX12_order_13 rfl (by decide) (Nat.le_of_ble_eq_true rfl) rfl ?_
    refine q_ifb_ne (tgt := 21) dX12_order_16 (by decide) (fun h16 => ?_) (fun h16 => ?_)
    · skip
      refine q_aload_n dX12_order_21 rfl ?_
      refine q_get (v := q_i (μ 4 0)) fX12_142_12 rfl rfl dX12_order_22 ?_
      refine q_if_ne (tgt := 31) dX12_order_25 (by decide) ⟨by omega, by omega⟩ (fun h25 => ?_) (fun h25 => ?_)
      · skip
        refine q_aload_n dX12_order_31 rfl ?_
        refine q_cV [] kX12_233_12 rfl (tX12_laySorted w μ hV) dX12_order_32 rfl (by decide) (Nat.le_of_ble_eq_true rfl) rfl ?_
        refine q_istore_n (lv' := [some (.ref 64), some (q_i n), some (q_i r), some (q_i (z_pos (μ 6) (μ 3 0))), none]) dX12_order_35 (by decide) rfl ?_
        refine q_iload_n dX12_order_36 rfl ?_
        refine q_iload_n dX12_order_37 rfl ?_
        refine q_icmp_le (tgt := 45) dX12_order_38 (by decide) ⟨by omega, by omega⟩ hn (fun h38 => ?_) (fun h38 => ?_)
        · skip
          refine q_iload_n dX12_order_45 rfl ?_
          refine q_istore_n (lv' := [some (.ref 64), some (q_i n), some (q_i r), some (q_i (z_pos (μ 6) (μ 3 0))), none]) dX12_order_46 (by decide) rfl ?_
          have hmn : (z_pos (μ 6) (μ 3 0)) = m_many μ n := by unfold m_many z_min; split <;> omega
          refine q_Jle (lv' := [some (.ref 64), some (q_i n), some (q_i r), some (q_i (m_many μ n)), none]) (q_le_s rfl (q_le_s rfl (q_le_s rfl (q_le_s (by rw [← hmn]) (q_le_n (q_le_e _)))))) rfl rfl ?_
          have hmr : 0 ≤ m_many μ n ∧ m_many μ n ≤ n ∧ m_many μ n ≤ z_pos (μ 6) (μ 3 0) := by unfold m_many z_min; split <;> omega
          refine q_aload_n dX12_order_47 rfl ?_
          refine q_iload_n dX12_order_48 rfl ?_
          refine q_iload_n dX12_order_49 rfl ?_
          refine q_cVv [q_i r, q_i (m_many μ n)] kX12_71_12 rfl (tX12_makeRow w (m_srt μ) r (by omega) (by omega) (m_many μ n)) dX12_order_50 rfl (by decide) (Nat.le_of_ble_eq_true rfl) rfl ?_
          refine q_iconst dX12_order_53 ?_
          refine q_istore (lv' := [some (.ref 64), some (q_i n), some (q_i r), some (q_i (m_many μ n)), some (q_i 0)]) dX12_order_54 (by decide) rfl ?_
          have L56 : ∀ (m9 : Nat) (k : Int) (hk0 : 0 ≤ k) (hk1 : k ≤ m_many μ n) (hm9 : m_many μ n - k < (m9 : Int)), q_J mX12_order 2 (fun v' w' => v' = (some (q_i (m_order_v μ n r))) ∧ w' = (m_w w (m_order_s μ n r))) 0 0 56 [some (.ref 64), some (q_i n), some (q_i r), some (q_i (m_many μ n)), some (q_i k)] [] (m_w w (m_u (m_mk (m_srt μ) r (m_many μ n)) 8 (q_cpy (m_so μ) (q_fl (μ 8) (40 * r) 40 0) 0 (40 * r) k))) := by
            intro m9
            induction m9 with
            | zero => intro k hk0 hk1 hm9; exact absurd hm9 (by omega)
            | succ m9 ih56 =>
              intro k hk0 hk1 hm9
              refine q_iload dX12_order_56 rfl ?_
              refine q_iload_n dX12_order_58 rfl ?_
              refine q_icmp_ge (tgt := 87) dX12_order_59 (by decide) ⟨by omega, by omega⟩ ⟨by omega, by omega⟩ (fun h59 => ?_) (fun h59 => ?_)
              · skip
                refine q_iload_n dX12_order_87 rfl ?_
                exact q_iret rfl dX12_order_88 (⟨by (unfold m_order_v; (repeat' split) <;> first | rfl | (exfalso; omega)), by rw [show k = m_many μ n by omega]; unfold m_order_s; (repeat' split) <;> first | rfl | (exfalso; omega)⟩)
              · skip
                refine q_aload_n dX12_order_62 rfl ?_
                refine q_get (v := .ref 69) fX12_23_12 rfl rfl dX12_order_63 ?_
                refine q_bipush dX12_order_66 ?_
                refine q_iload_n dX12_order_68 rfl ?_
                refine q_imul dX12_order_69 ?_
                refine q_iload dX12_order_70 rfl ?_
                refine q_iadd dX12_order_72 ?_
                refine q_aload_n dX12_order_73 rfl ?_
                refine q_get (v := .ref 74) fX12_42_12 rfl rfl dX12_order_74 ?_
                refine q_iload dX12_order_77 rfl ?_
                refine q_iald (f := (m_so μ)) (n9 := 216) rfl (by omega) (by omega) dX12_order_79 ?_
                refine q_iast (f := (q_cpy (m_so μ) (q_fl (μ 8) (40 * r) 40 0) 0 (40 * r) k)) (n9 := 240) rfl (by omega) (by omega) dX12_order_80 ?_
                rw [m_a8]
                refine q_iinc (lv' := [some (.ref 64), some (q_i n), some (q_i r), some (q_i (m_many μ n)), some (q_i (k + 1))]) dX12_order_81 rfl (by decide) rfl ?_
                refine q_goto (tgt := 56) dX12_order_84 (by decide) ?_
                exact q_Jle (q_le_s (rfl) (q_le_s (rfl) (q_le_s (rfl) (q_le_s (rfl) (q_le_s (rfl) (q_le_e _)))))) (rfl) (by rw [m_uu, ← q_cpy_g (m_so μ) _ hk0, Int.zero_add]) (ih56 (k + 1) (by omega) (by omega) (by omega))
          exact q_Jle (q_le_s (rfl) (q_le_s (rfl) (q_le_s (rfl) (q_le_s (rfl) (q_le_s (rfl) (q_le_e _)))))) (rfl) (by rw [q_cpy_0]; exact (congrArg (m_w w) (m_uid (m_mk (m_srt μ) r (m_many μ n)) 8)).symm) (L56 ((m_many μ n : Int).toNat + 1) 0 (by omega) (by omega) (by omega))
        · skip
          refine q_iload_n dX12_order_41 rfl ?_
          refine q_goto (tgt := 46) dX12_order_42 (by decide) ?_
          refine q_istore_n (lv' := [some (.ref 64), some (q_i n), some (q_i r), some (q_i n), none]) dX12_order_46 (by decide) rfl ?_
          have hmn : n = m_many μ n := by unfold m_many z_min; split <;> omega
          refine q_Jle (lv' := [some (.ref 64), some (q_i n), some (q_i r), some (q_i (m_many μ n)), none]) (q_le_s rfl (q_le_s rfl (q_le_s rfl (q_le_s (by rw [← hmn]) (q_le_n (q_le_e _)))))) rfl rfl ?_
          have hmr : 0 ≤ m_many μ n ∧ m_many μ n ≤ n ∧ m_many μ n ≤ z_pos (μ 6) (μ 3 0) := by unfold m_many z_min; split <;> omega
          refine q_aload_n dX12_order_47 rfl ?_
          refine q_iload_n dX12_order_48 rfl ?_
          refine q_iload_n dX12_order_49 rfl ?_
          refine q_cVv [q_i r, q_i (m_many μ n)] kX12_71_12 rfl (tX12_makeRow w (m_srt μ) r (by omega) (by omega) (m_many μ n)) dX12_order_50 rfl (by decide) (Nat.le_of_ble_eq_true rfl) rfl ?_
          refine q_iconst dX12_order_53 ?_
          refine q_istore (lv' := [some (.ref 64), some (q_i n), some (q_i r), some (q_i (m_many μ n)), some (q_i 0)]) dX12_order_54 (by decide) rfl ?_
          have L56 : ∀ (m9 : Nat) (k : Int) (hk0 : 0 ≤ k) (hk1 : k ≤ m_many μ n) (hm9 : m_many μ n - k < (m9 : Int)), q_J mX12_order 2 (fun v' w' => v' = (some (q_i (m_order_v μ n r))) ∧ w' = (m_w w (m_order_s μ n r))) 0 0 56 [some (.ref 64), some (q_i n), some (q_i r), some (q_i (m_many μ n)), some (q_i k)] [] (m_w w (m_u (m_mk (m_srt μ) r (m_many μ n)) 8 (q_cpy (m_so μ) (q_fl (μ 8) (40 * r) 40 0) 0 (40 * r) k))) := by
            intro m9
            induction m9 with
            | zero => intro k hk0 hk1 hm9; exact absurd hm9 (by omega)
            | succ m9 ih56 =>
              intro k hk0 hk1 hm9
              refine q_iload dX12_order_56 rfl ?_
              refine q_iload_n dX12_order_58 rfl ?_
              refine q_icmp_ge (tgt := 87) dX12_order_59 (by decide) ⟨by omega, by omega⟩ ⟨by omega, by omega⟩ (fun h59 => ?_) (fun h59 => ?_)
              · skip
                refine q_iload_n dX12_order_87 rfl ?_
                exact q_iret rfl dX12_order_88 (⟨by (unfold m_order_v; (repeat' split) <;> first | rfl | (exfalso; omega)), by rw [show k = m_many μ n by omega]; unfold m_order_s; (repeat' split) <;> first | rfl | (exfalso; omega)⟩)
              · skip
                refine q_aload_n dX12_order_62 rfl ?_
                refine q_get (v := .ref 69) fX12_23_12 rfl rfl dX12_order_63 ?_
                refine q_bipush dX12_order_66 ?_
                refine q_iload_n dX12_order_68 rfl ?_
                refine q_imul dX12_order_69 ?_
                refine q_iload dX12_order_70 rfl ?_
                refine q_iadd dX12_order_72 ?_
                refine q_aload_n dX12_order_73 rfl ?_
                refine q_get (v := .ref 74) fX12_42_12 rfl rfl dX12_order_74 ?_
                refine q_iload dX12_order_77 rfl ?_
                refine q_iald (f := (m_so μ)) (n9 := 216) rfl (by omega) (by omega) dX12_order_79 ?_
                refine q_iast (f := (q_cpy (m_so μ) (q_fl (μ 8) (40 * r) 40 0) 0 (40 * r) k)) (n9 := 240) rfl (by omega) (by omega) dX12_order_80 ?_
                rw [m_a8]
                refine q_iinc (lv' := [some (.ref 64), some (q_i n), some (q_i r), some (q_i (m_many μ n)), some (q_i (k + 1))]) dX12_order_81 rfl (by decide) rfl ?_
                refine q_goto (tgt := 56) dX12_order_84 (by decide) ?_
                exact q_Jle (q_le_s (rfl) (q_le_s (rfl) (q_le_s (rfl) (q_le_s (rfl) (q_le_s (rfl) (q_le_e _)))))) (rfl) (by rw [m_uu, ← q_cpy_g (m_so μ) _ hk0, Int.zero_add]) (ih56 (k + 1) (by omega) (by omega) (by omega))
          exact q_Jle (q_le_s (rfl) (q_le_s (rfl) (q_le_s (rfl) (q_le_s (rfl) (q_le_s (rfl) (q_le_e _)))))) (rfl) (by rw [q_cpy_0]; exact (congrArg (m_w w) (m_uid (m_mk (m_srt μ) r (m_many μ n)) 8)).symm) (L56 ((m_many μ n : Int).toNat + 1) 0 (by omega) (by omega) (by omega))
      · skip
        refine q_bipush dX12_order_28 ?_
        exact q_iret rfl dX12_order_30 (⟨by (unfold m_order_v; (repeat' split) <;> first | rfl | (exfalso; omega)), by (unfold m_order_s; (repeat' split) <;> first | rfl | (exfalso; omega))⟩)
    · skip
      refine q_iconst dX12_order_19 ?_
      exact q_iret rfl dX12_order_20 (⟨by (unfold m_order_v; (repeat' split) <;> first | rfl | (exfalso; omega)), by (unfold m_order_s; (repeat' split) <;> first | rfl | (exfalso; omega))⟩)
def m_tsum (μ : m_S) (k : Int) : Int := z_sum (fun j => (j + 1) * μ 6 (m_so μ j)) k
def m_wsum (μ : m_S) (k : Int) : Int := z_sum (fun j => μ 6 (m_so μ j)) k
theorem m_wsum_r {μ : m_S} (hV : m_V μ) {k : Int} (h0 : 0 ≤ k) (h1 : k ≤ z_pos (μ 6) (μ 3 0)) : 0 ≤ m_wsum μ k ∧ m_wsum μ k ≤ 927712935936 := by
  have hp := z_pos_r (μ 6) hV.1.1
  have hS := hV.1
  have h := z_sum_b (fun j => μ 6 (m_so μ j)) 0 4294967296 h0 (fun j g0 g1 => by
    have g2 := m_so_r hV g0 (by omega)
    exact hV.2 _ g2.1 g2.2)
  unfold m_wsum
  omega
theorem m_tsum_r {μ : m_S} (hV : m_V μ) {k : Int} (h0 : 0 ≤ k) (h1 : k ≤ z_pos (μ 6) (μ 3 0)) : 0 ≤ m_tsum μ k ∧ m_tsum μ k ≤ 200385994162176 := by
  have hp := z_pos_r (μ 6) hV.1.1
  have hS := hV.1
  have h := z_sum_b (fun j => (j + 1) * μ 6 (m_so μ j)) 0 927712935936 h0 (fun j g0 g1 => by
    have g2 := m_so_r hV g0 (by omega)
    exact z_mul2 (A := 216) ⟨by omega, by omega⟩ (hV.2 _ g2.1 g2.2))
  unfold m_tsum
  omega
def m_tries_v (μ : m_S) : Int := if μ 4 0 = 0 then -4 else 1
def m_tries_s (μ : m_S) : m_S := if μ 4 0 = 0 then μ else m_tp (m_srt μ) (m_tsum μ (z_pos (μ 6) (μ 3 0))) (z_sum (μ 6) (μ 3 0))
def m_within_v (μ : m_S) (n : Int) : Int := if ¬ (0 ≤ n ∧ n ≤ 216) then -1 else if μ 4 0 = 0 then -4 else 1
def m_within_s (μ : m_S) (n : Int) : m_S := if ¬ (0 ≤ n ∧ n ≤ 216) then μ else if μ 4 0 = 0 then μ else m_tp (m_srt μ) (m_wsum μ (m_many μ n)) (z_sum (μ 6) (μ 3 0))
set_option maxRecDepth 20000 in
theorem tX12_tries (w : q_W) (μ : m_S) (hH : m_Sh μ) (hPo : m_Po μ) : q_D mX12_tries 2 [.ref 64] (m_w w μ) (some (q_i (m_tries_v μ))) (m_w w (m_tries_s μ)) := by
  refine q_T.of (lv := [some (.ref 64), none, none, none, none]) (by decide) rfl (Nat.le_of_ble_eq_true rfl) ?_
  have hb := hH.b
  have hV := hPo.1
  have hS := hV.1
  have hs6 := m_sum6 hV
  have hpr := z_pos_r (μ 6) hV.1.1
  refine q_aload_n dX12_tries_0 rfl ?_
  refine q_get (v := q_i (μ 4 0)) fX12_142_12 rfl rfl dX12_tries_1 ?_
  refine q_if_ne (tgt := 10) dX12_tries_4 (by decide) ⟨by omega, by omega⟩ (fun h4 => ?_) (fun h4 => ?_)
  · skip
    refine q_aload_n dX12_tries_10 rfl ?_
    refine q_cV [] kX12_233_12 rfl (tX12_laySorted w μ hV) dX12_tries_11 rfl (by decide) (Nat.le_of_ble_eq_true rfl) rfl ?_
    refine q_istore_n (lv' := [some (.ref 64), some (q_i (z_pos (μ 6) (μ 3 0))), none, none, none]) dX12_tries_14 (by decide) rfl ?_
    refine q_lconst 0 dX12_tries_15 ?_
    refine q_lstore_n (lv' := [some (.ref 64), some (q_i (z_pos (μ 6) (μ 3 0))), some (q_l 0), none, none]) dX12_tries_16 (by decide) rfl ?_
    refine q_iconst dX12_tries_17 ?_
    refine q_istore (lv' := [some (.ref 64), some (q_i (z_pos (μ 6) (μ 3 0))), some (q_l 0), none, some (q_i 0)]) dX12_tries_18 (by decide) rfl ?_
    have L20 : ∀ (m9 : Nat) (k : Int) (hk0 : 0 ≤ k) (hk1 : k ≤ z_pos (μ 6) (μ 3 0)) (hm9 : z_pos (μ 6) (μ 3 0) - k < (m9 : Int)), q_J mX12_tries 2 (fun v' w' => v' = (some (q_i (m_tries_v μ))) ∧ w' = (m_w w (m_tries_s μ))) 0 0 20 [some (.ref 64), some (q_i (z_pos (μ 6) (μ 3 0))), some (q_l (m_tsum μ k)), none, some (q_i k)] [] (m_w w (m_srt μ)) := by
      intro m9
      induction m9 with
      | zero => intro k hk0 hk1 hm9; exact absurd hm9 (by omega)
      | succ m9 ih20 =>
        intro k hk0 hk1 hm9
        refine q_iload dX12_tries_20 rfl ?_
        refine q_iload_n dX12_tries_22 rfl ?_
        refine q_icmp_ge (tgt := 53) dX12_tries_23 (by decide) ⟨by omega, by omega⟩ ⟨by omega, by omega⟩ (fun h23 => ?_) (fun h23 => ?_)
        · skip
          have hke : k = z_pos (μ 6) (μ 3 0) := by omega
          subst hke
          have htr := m_tsum_r hV hk0 hk1
          have hG := hH.g (by omega)
          have hS4 := hG.S
          have hq := hPo.2 (by omega)
          refine q_aload_n dX12_tries_53 rfl ?_
          refine q_lload_n dX12_tries_54 rfl ?_
          refine q_aload_n dX12_tries_55 rfl ?_
          refine q_cV [] kX12_219_12 rfl (tX12_allWeights w (m_srt μ) hV) dX12_tries_56 rfl (by decide) (Nat.le_of_ble_eq_true rfl) rfl ?_
          show q_J _ _ _ _ _ _ _ [q_l (z_sum (μ 6) (μ 3 0)), q_l (m_tsum μ (z_pos (μ 6) (μ 3 0))), .ref 64] (m_w w (m_srt μ))
          refine q_cV [q_l (m_tsum μ (z_pos (μ 6) (μ 3 0))), q_l (z_sum (μ 6) (μ 3 0))] kX12_223_12 rfl (tX12_tellParts w (m_srt μ) (m_tsum μ (z_pos (μ 6) (μ 3 0))) (z_sum (μ 6) (μ 3 0)) htr.1 (by omega) hq (by omega)) dX12_tries_59 rfl (by decide) (Nat.le_of_ble_eq_true rfl) rfl ?_
          exact q_iret rfl dX12_tries_62 (⟨by (unfold m_tries_v; (repeat' split) <;> first | rfl | (exfalso; omega)), by (unfold m_tries_s; (repeat' split) <;> first | rfl | (exfalso; omega))⟩)
        · skip
          have hsr := m_so_r hV hk0 (by omega)
          refine q_lload_n dX12_tries_26 rfl ?_
          refine q_iload dX12_tries_27 rfl ?_
          refine q_iconst dX12_tries_29 ?_
          refine q_iadd dX12_tries_30 ?_
          refine q_i2lr dX12_tries_31 ⟨by omega, by omega⟩ ?_
          refine q_aload_n dX12_tries_32 rfl ?_
          refine q_get (v := .ref 67) fX12_16_12 rfl rfl dX12_tries_33 ?_
          refine q_aload_n dX12_tries_36 rfl ?_
          refine q_get (v := .ref 74) fX12_42_12 rfl rfl dX12_tries_37 ?_
          refine q_iload dX12_tries_40 rfl ?_
          refine q_iald (f := (m_so μ)) (n9 := 216) rfl (by omega) (by omega) dX12_tries_42 ?_
          refine q_lald (f := (μ 6)) (n9 := 216) rfl (by omega) (by omega) dX12_tries_43 ?_
          refine q_lmul dX12_tries_44 ?_
          refine q_ladd dX12_tries_45 ?_
          refine q_lstore_n (lv' := [some (.ref 64), some (q_i (z_pos (μ 6) (μ 3 0))), some (q_l ((m_tsum μ k) + ((k + 1) * ((μ 6) ((m_so μ) k))))), none, some (q_i k)]) dX12_tries_46 (by decide) rfl ?_
          refine q_iinc (lv' := [some (.ref 64), some (q_i (z_pos (μ 6) (μ 3 0))), some (q_l ((m_tsum μ k) + ((k + 1) * ((μ 6) ((m_so μ) k))))), none, some (q_i (k + 1))]) dX12_tries_47 rfl (by decide) rfl ?_
          refine q_goto (tgt := 20) dX12_tries_50 (by decide) ?_
          exact q_Jle (q_le_s (rfl) (q_le_s (rfl) (q_le_s (by unfold m_tsum; rw [z_sum_s _ hk0]) (q_le_n (q_le_s (rfl) (q_le_e _)))))) (rfl) (rfl) (ih20 (k + 1) (by omega) (by omega) (by omega))
    exact q_Jle (q_le_s (rfl) (q_le_s (rfl) (q_le_s (rfl) (q_le_n (q_le_s (rfl) (q_le_e _)))))) (rfl) (rfl) (L20 ((z_pos (μ 6) (μ 3 0) : Int).toNat + 1) 0 (by omega) (by omega) (by omega))
  · skip
    refine q_bipush dX12_tries_7 ?_
    exact q_iret rfl dX12_tries_9 (⟨by (unfold m_tries_v; (repeat' split) <;> first | rfl | (exfalso; omega)), by (unfold m_tries_s; (repeat' split) <;> first | rfl | (exfalso; omega))⟩)
set_option maxRecDepth 20000 in
theorem tX12_within (w : q_W) (μ : m_S) (n : Int) (hn : q_r n) (hH : m_Sh μ) (hPo : m_Po μ) : q_D mX12_within 2 [.ref 64, q_i n] (m_w w μ) (some (q_i (m_within_v μ n))) (m_w w (m_within_s μ n)) := by
  refine q_T.of (lv := [some (.ref 64), some (q_i n), none, none, none, none]) (by decide) rfl (Nat.le_of_ble_eq_true rfl) ?_
  have hb := hH.b
  have hV := hPo.1
  have hS := hV.1
  have hs6 := m_sum6 hV
  have hpr := z_pos_r (μ 6) hV.1.1
  refine q_iload_n dX12_within_0 rfl ?_
  refine q_i2lr dX12_within_1 hn ?_
  refine q_lconst 0 dX12_within_2 ?_
  refine q_ldc2 216 wd_1357 dX12_within_3 ?_
  refine q_cS [q_l n, q_l 0, q_l 216] kX12_57 (tX12_in n 0 216 (⟨by have := (hn).1; omega, by have := (hn).2; omega⟩) (⟨by decide, by decide⟩) (⟨by decide, by decide⟩) (m_w w μ)) dX12_within_6 rfl (by decide) (Nat.le_of_ble_eq_true rfl) rfl ?_
  refine q_ifb_ne (tgt := 14) dX12_within_9 (by decide) (fun h9 => ?_) (fun h9 => ?_)
  · skip
    refine q_aload_n dX12_within_14 rfl ?_
    refine q_get (v := q_i (μ 4 0)) fX12_142_12 rfl rfl dX12_within_15 ?_
    refine q_if_ne (tgt := 24) dX12_within_18 (by decide) ⟨by omega, by omega⟩ (fun h18 => ?_) (fun h18 => ?_)
    · skip
      refine q_aload_n dX12_within_24 rfl ?_
      refine q_cV [] kX12_233_12 rfl (tX12_laySorted w μ hV) dX12_within_25 rfl (by decide) (Nat.le_of_ble_eq_true rfl) rfl ?_
      refine q_istore_n (lv' := [some (.ref 64), some (q_i n), some (q_i (z_pos (μ 6) (μ 3 0))), none, none, none]) dX12_within_28 (by decide) rfl ?_
      refine q_lconst 0 dX12_within_29 ?_
      refine q_lstore_n (lv' := [some (.ref 64), some (q_i n), some (q_i (z_pos (μ 6) (μ 3 0))), some (q_l 0), none, none]) dX12_within_30 (by decide) rfl ?_
      refine q_iconst dX12_within_31 ?_
      refine q_istore (lv' := [some (.ref 64), some (q_i n), some (q_i (z_pos (μ 6) (μ 3 0))), some (q_l 0), none, some (q_i 0)]) dX12_within_32 (by decide) rfl ?_
      have L34 : ∀ (m9 : Nat) (k : Int) (hk0 : 0 ≤ k) (hk1 : k ≤ z_pos (μ 6) (μ 3 0)) (hk2 : k ≤ n) (hm9 : z_pos (μ 6) (μ 3 0) - k < (m9 : Int)), q_J mX12_within 2 (fun v' w' => v' = (some (q_i (m_within_v μ n))) ∧ w' = (m_w w (m_within_s μ n))) 0 0 34 [some (.ref 64), some (q_i n), some (q_i (z_pos (μ 6) (μ 3 0))), some (q_l (m_wsum μ k)), none, some (q_i k)] [] (m_w w (m_srt μ)) := by
        intro m9
        induction m9 with
        | zero => intro k hk0 hk1 hk2 hm9; exact absurd hm9 (by omega)
        | succ m9 ih34 =>
          intro k hk0 hk1 hk2 hm9
          refine q_iload dX12_within_34 rfl ?_
          refine q_iload_n dX12_within_36 rfl ?_
          refine q_icmp_ge (tgt := 67) dX12_within_37 (by decide) ⟨by omega, by omega⟩ ⟨by omega, by omega⟩ (fun h37 => ?_) (fun h37 => ?_)
          · skip
            have hke : k = m_many μ n := by unfold m_many z_min; split <;> omega
            subst hke
            have htr := m_wsum_r hV hk0 (by omega)
            have hG := hH.g (by omega)
            have hS4 := hG.S
            have hq := hPo.2 (by omega)
            refine q_aload_n dX12_within_67 rfl ?_
            refine q_lload_n dX12_within_68 rfl ?_
            refine q_aload_n dX12_within_69 rfl ?_
            refine q_cV [] kX12_219_12 rfl (tX12_allWeights w (m_srt μ) hV) dX12_within_70 rfl (by decide) (Nat.le_of_ble_eq_true rfl) rfl ?_
            show q_J _ _ _ _ _ _ _ [q_l (z_sum (μ 6) (μ 3 0)), q_l (m_wsum μ (m_many μ n)), .ref 64] (m_w w (m_srt μ))
            refine q_cV [q_l (m_wsum μ (m_many μ n)), q_l (z_sum (μ 6) (μ 3 0))] kX12_223_12 rfl (tX12_tellParts w (m_srt μ) (m_wsum μ (m_many μ n)) (z_sum (μ 6) (μ 3 0)) htr.1 (by omega) hq (by omega)) dX12_within_73 rfl (by decide) (Nat.le_of_ble_eq_true rfl) rfl ?_
            exact q_iret rfl dX12_within_76 (⟨by (unfold m_within_v; (repeat' split) <;> first | rfl | (exfalso; omega)), by (unfold m_within_s; (repeat' split) <;> first | rfl | (exfalso; omega))⟩)
          · skip
            refine q_iload dX12_within_40 rfl ?_
            refine q_iload_n dX12_within_42 rfl ?_
            refine q_icmp_ge (tgt := 67) dX12_within_43 (by decide) ⟨by omega, by omega⟩ hn (fun h43 => ?_) (fun h43 => ?_)
            · skip
              have hke : k = m_many μ n := by unfold m_many z_min; split <;> omega
              subst hke
              have htr := m_wsum_r hV hk0 (by omega)
              have hG := hH.g (by omega)
              have hS4 := hG.S
              have hq := hPo.2 (by omega)
              refine q_aload_n dX12_within_67 rfl ?_
              refine q_lload_n dX12_within_68 rfl ?_
              refine q_aload_n dX12_within_69 rfl ?_
              refine q_cV [] kX12_219_12 rfl (tX12_allWeights w (m_srt μ) hV) dX12_within_70 rfl (by decide) (Nat.le_of_ble_eq_true rfl) rfl ?_
              show q_J _ _ _ _ _ _ _ [q_l (z_sum (μ 6) (μ 3 0)), q_l (m_wsum μ (m_many μ n)), .ref 64] (m_w w (m_srt μ))
              refine q_cV [q_l (m_wsum μ (m_many μ n)), q_l (z_sum (μ 6) (μ 3 0))] kX12_223_12 rfl (tX12_tellParts w (m_srt μ) (m_wsum μ (m_many μ n)) (z_sum (μ 6) (μ 3 0)) htr.1 (by omega) hq (by omega)) dX12_within_73 rfl (by decide) (Nat.le_of_ble_eq_true rfl) rfl ?_
              exact q_iret rfl dX12_within_76 (⟨by (unfold m_within_v; (repeat' split) <;> first | rfl | (exfalso; omega)), by (unfold m_within_s; (repeat' split) <;> first | rfl | (exfalso; omega))⟩)
            · skip
              have hsr := m_so_r hV hk0 (by omega)
              refine q_lload_n dX12_within_46 rfl ?_
              refine q_aload_n dX12_within_47 rfl ?_
              refine q_get (v := .ref 67) fX12_16_12 rfl rfl dX12_within_48 ?_
              refine q_aload_n dX12_within_51 rfl ?_
              refine q_get (v := .ref 74) fX12_42_12 rfl rfl dX12_within_52 ?_
              refine q_iload dX12_within_55 rfl ?_
              refine q_iald (f := (m_so μ)) (n9 := 216) rfl (by omega) (by omega) dX12_within_57 ?_
              refine q_lald (f := (μ 6)) (n9 := 216) rfl (by omega) (by omega) dX12_within_58 ?_
              refine q_ladd dX12_within_59 ?_
              refine q_lstore_n (lv' := [some (.ref 64), some (q_i n), some (q_i (z_pos (μ 6) (μ 3 0))), some (q_l ((m_wsum μ k) + ((μ 6) ((m_so μ) k)))), none, some (q_i k)]) dX12_within_60 (by decide) rfl ?_
              refine q_iinc (lv' := [some (.ref 64), some (q_i n), some (q_i (z_pos (μ 6) (μ 3 0))), some (q_l ((m_wsum μ k) + ((μ 6) ((m_so μ) k)))), none, some (q_i (k + 1))]) dX12_within_61 rfl (by decide) rfl ?_
              refine q_goto (tgt := 34) dX12_within_64 (by decide) ?_
              exact q_Jle (q_le_s (rfl) (q_le_s (rfl) (q_le_s (rfl) (q_le_s (by unfold m_wsum; rw [z_sum_s _ hk0]) (q_le_n (q_le_s (rfl) (q_le_e _))))))) (rfl) (rfl) (ih34 (k + 1) (by omega) (by omega) (by omega) (by omega))
      exact q_Jle (q_le_s (rfl) (q_le_s (rfl) (q_le_s (rfl) (q_le_s (rfl) (q_le_n (q_le_s (rfl) (q_le_e _))))))) (rfl) (rfl) (L34 ((z_pos (μ 6) (μ 3 0) : Int).toNat + 1) 0 (by omega) (by omega) (by omega) (by omega))
    · skip
      refine q_bipush dX12_within_21 ?_
      exact q_iret rfl dX12_within_23 (⟨by (unfold m_within_v; (repeat' split) <;> first | rfl | (exfalso; omega)), by (unfold m_within_s; (repeat' split) <;> first | rfl | (exfalso; omega))⟩)
  · skip
    refine q_iconst dX12_within_12 ?_
    exact q_iret rfl dX12_within_13 (⟨by (unfold m_within_v; (repeat' split) <;> first | rfl | (exfalso; omega)), by (unfold m_within_s; (repeat' split) <;> first | rfl | (exfalso; omega))⟩)
