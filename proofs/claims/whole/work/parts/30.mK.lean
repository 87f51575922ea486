/-! the reference: fits, chance, read -/
theorem m_nl_r (μ : m_S) (r : Int) : q_r (m_nl_v μ r) := by
  unfold m_nl_v
  (repeat' split) <;> exact ⟨by decide, by decide⟩
/-- told looks in order: what the row says, and what lies in told -/
theorem m_nl_0 {μ : m_S} {r : Int} (h : m_nl_v μ r = 0) : μ 4 0 ≠ 0 ∧ 0 ≤ μ 7 r ∧ (μ 7 r).tmod 2 = 0 ∧ μ 7 r ≤ 12 ∧ m_ok μ r (m_np μ r) ≠ 0 ∧ m_nl_s μ r = m_u μ 24 (m_tlf μ r (m_np μ r) (μ 3 0)) := by
  unfold m_nl_v at h
  unfold m_nl_s
  by_cases h1 : μ 4 0 = 0
  · rw [if_pos h1] at h; omega
  rw [if_neg h1] at h ⊢
  by_cases h2 : μ 7 r < 0
  · rw [if_pos h2] at h; omega
  rw [if_neg h2] at h ⊢
  by_cases h3 : (μ 7 r).tmod 2 ≠ 0
  · rw [if_pos h3] at h; omega
  rw [if_neg h3] at h ⊢
  by_cases h4 : 12 < μ 7 r
  · rw [if_pos h4] at h; omega
  rw [if_neg h4] at h ⊢
  by_cases h5 : m_ok μ r (m_np μ r) ≠ 0
  · rw [if_pos h5]
    exact ⟨h1, by omega, Decidable.not_not.mp h3, by omega, h5, rfl⟩
  · rw [if_neg h5] at h; omega
def m_tl (μ : m_S) (r c : Int) : Int := m_tw μ r c (m_np μ r)
theorem m_tlf_i (μ : m_S) (r n : Int) {c S : Int} (h0 : 0 ≤ c) (h1 : c < S) : m_tlf μ r n S c = m_tw μ r c n := by
  unfold m_tlf
  rw [if_pos ⟨h0, h1⟩]
/-- of S - 1, .., S - n the least at which f is above 0; -9: none -/
def z_bw (f : Int → Int) (S : Int) : Nat → Int
  | 0 => -9
  | k + 1 => if 0 < f (S - ((k : Int) + 1)) then S - ((k : Int) + 1) else z_bw f S k
def z_back (f : Int → Int) (S n : Int) : Int := z_bw f S n.toNat
theorem z_back_s (f : Int → Int) (S : Int) {n : Int} (h : 0 ≤ n) : z_back f S (n + 1) = if 0 < f (S - (n + 1)) then S - (n + 1) else z_back f S n := by
  unfold z_back
  rw [show (n + 1).toNat = n.toNat + 1 by omega]
  show (if 0 < f (S - ((n.toNat : Int) + 1)) then S - ((n.toNat : Int) + 1) else z_bw f S n.toNat) = _
  rw [show (n.toNat : Int) = n by omega]
def m_tpos (μ : m_S) (r c : Int) : Int := if 0 < m_tl μ r c then 1 else 0
def m_fits_v (μ : m_S) (r : Int) : Int := if ¬ (0 ≤ r ∧ r ≤ 5) then -1 else if m_nl_v μ r ≠ 0 then m_nl_v μ r else z_sum (m_tpos μ r) (μ 3 0)
def m_fits_s (μ : m_S) (r : Int) : m_S := if ¬ (0 ≤ r ∧ r ≤ 5) then μ else if m_nl_v μ r ≠ 0 then m_nl_s μ r else m_u (m_nl_s μ r) 11 (fun _ => z_back (m_tl μ r) (μ 3 0) (μ 3 0))
set_option maxRecDepth 20000 in
theorem tX12_fits (w : q_W) (μ : m_S) (r : Int) (hr : q_r r) (hH : m_Sh μ) (hI : m_I μ) : q_D mX12_fits 6 [.ref 64, q_i r] (m_w w μ) (some (q_i (m_fits_v μ r))) (m_w w (m_fits_s μ r)) := by
  refine q_T.of (lv := [some (.ref 64), some (q_i r), none, none, none]) (by decide) rfl (Nat.le_of_ble_eq_true rfl) ?_
  have hb := hH.b
  refine q_iload_n dX12_fits_0 rfl ?_
  refine q_cS [q_i r] kX12_63 (tX12_isRow (m_w w μ) r (hr)) dX12_fits_1 rfl (by decide) (Nat.le_of_ble_eq_true rfl) rfl ?_
  refine q_ifb_ne (tgt := 9) dX12_fits_4 (by decide) (fun h4 => ?_) (fun h4 => ?_)
  · skip
    refine q_aload_n dX12_fits_9 rfl ?_
    refine q_iload_n dX12_fits_10 rfl ?_
    refine q_cV [q_i r] kX12_245_12 rfl (tX12_noLooks w μ r (by omega) (by omega) hH hI) dX12_fits_11 rfl (by decide) (Nat.le_of_ble_eq_true rfl) rfl ?_
    refine q_istore_n (lv' := [some (.ref 64), some (q_i r), some (q_i (m_nl_v μ r)), none, none]) dX12_fits_14 (by decide) rfl ?_
    refine q_iload_n dX12_fits_15 rfl ?_
    refine q_if_eq (tgt := 21) dX12_fits_16 (by decide) (m_nl_r μ r) (fun h16 => ?_) (fun h16 => ?_)
    · skip
      obtain ⟨hn1, hn2, hn3, hn4, hn5, hn6⟩ := m_nl_0 h16
      have hG := hH.g (by omega)
      have hS := hG.S
      have hnp : μ 7 r = 2 * m_np μ r := z_half hn2 hn3
      rw [hn6]
      refine q_iconst dX12_fits_21 ?_
      refine q_istore_n (lv' := [some (.ref 64), some (q_i r), some (q_i (m_nl_v μ r)), some (q_i 0), none]) dX12_fits_22 (by decide) rfl ?_
      refine q_aload_n dX12_fits_23 rfl ?_
      refine q_bipush dX12_fits_24 ?_
      refine q_puti (fs := m_o (m_u μ 24 (m_tlf μ r (m_np μ r) (μ 3 0)))) pX12_52_12 rfl (Nat.le_of_ble_eq_true rfl) dX12_fits_26 ?_
      rw [m_p11]
      refine q_aload_n dX12_fits_29 rfl ?_
      refine q_get (v := q_i (μ 3 0)) fX12_139_12 rfl rfl dX12_fits_30 ?_
      refine q_iconst dX12_fits_33 ?_
      refine q_isub dX12_fits_34 ?_
      refine q_istore (lv' := [some (.ref 64), some (q_i r), some (q_i (m_nl_v μ r)), some (q_i 0), some (q_i ((μ 3 0) - 1))]) dX12_fits_35 (by decide) rfl ?_
      have L37 : ∀ (m9 : Nat) (k : Int) (hk0 : 0 ≤ k) (hk1 : k ≤ μ 3 0) (hm9 : μ 3 0 - k < (m9 : Int)), q_J mX12_fits 6 (fun v' w' => v' = (some (q_i (m_fits_v μ r))) ∧ w' = (m_w w (m_fits_s μ r))) 0 0 37 [some (.ref 64), some (q_i r), some (q_i (m_nl_v μ r)), some (q_i (z_sum (m_tpos μ r) (μ 3 0) - z_sum (m_tpos μ r) (μ 3 0 - k))), some (q_i (μ 3 0 - 1 - k))] [] (m_w w (m_u (m_u μ 24 (m_tlf μ r (m_np μ r) (μ 3 0))) 11 (fun _ => z_back (m_tl μ r) (μ 3 0) k))) := by
        intro m9
        induction m9 with
        | zero => intro k hk0 hk1 hm9; exact absurd hm9 (by omega)
        | succ m9 ih37 =>
          intro k hk0 hk1 hm9
          refine q_iload dX12_fits_37 rfl ?_
          refine q_if_lt (tgt := 93) dX12_fits_39 (by decide) ⟨by omega, by omega⟩ (fun h39 => ?_) (fun h39 => ?_)
          · skip
            refine q_iload_n dX12_fits_93 rfl ?_
            exact q_iret rfl dX12_fits_94 (⟨by rw [show k = μ 3 0 by omega, Int.sub_self, z_sum_0, Int.sub_zero]; unfold m_fits_v; (repeat' split) <;> first | rfl | (exfalso; omega), by rw [show k = μ 3 0 by omega, ← hn6]; unfold m_fits_s; (repeat' split) <;> first | rfl | (exfalso; omega)⟩)
          · skip
            refine q_iload_n dX12_fits_42 rfl ?_
            refine q_aload_n dX12_fits_43 rfl ?_
            refine q_get (v := .ref 75) fX12_45_12 rfl rfl dX12_fits_44 ?_
            refine q_iload dX12_fits_47 rfl ?_
            refine q_lald (f := (m_tlf μ r (m_np μ r) (μ 3 0))) (n9 := 216) rfl (by omega) (by omega) dX12_fits_49 ?_
            rw [m_tlf_i μ r (m_np μ r) (c := μ 3 0 - 1 - k) (S := μ 3 0) (by omega) (by omega)]
            show q_J _ _ _ _ _ _ _ [q_l (m_tl μ r (μ 3 0 - 1 - k)), q_i (z_sum (m_tpos μ r) (μ 3 0) - z_sum (m_tpos μ r) (μ 3 0 - k))] _
            refine q_lconst 0 dX12_fits_50 ?_
            refine q_lcmp_le (tgt := 59) dX12_fits_51 dX12_fits_52 (by decide) ⟨by have h9 : 0 ≤ m_tl μ r (μ 3 0 - 1 - k) ∧ m_tl μ r (μ 3 0 - 1 - k) ≤ 4294967296 := m_tw_r hG r (μ 3 0 - 1 - k) (k := m_np μ r) (by omega); omega, by have h9 : 0 ≤ m_tl μ r (μ 3 0 - 1 - k) ∧ m_tl μ r (μ 3 0 - 1 - k) ≤ 4294967296 := m_tw_r hG r (μ 3 0 - 1 - k) (k := m_np μ r) (by omega); omega⟩ ⟨by decide, by decide⟩ (fun h51 => ?_) (fun h51 => ?_)
            · skip
              refine q_iconst dX12_fits_59 ?_
              refine q_iadd dX12_fits_60 ?_
              refine q_istore_n (lv' := [some (.ref 64), some (q_i r), some (q_i (m_nl_v μ r)), some (q_i ((z_sum (m_tpos μ r) (μ 3 0) - z_sum (m_tpos μ r) (μ 3 0 - k)) + 0)), some (q_i (μ 3 0 - 1 - k))]) dX12_fits_61 (by decide) rfl ?_
              refine q_aload_n dX12_fits_62 rfl ?_
              refine q_aload_n dX12_fits_63 rfl ?_
              refine q_get (v := .ref 75) fX12_45_12 rfl rfl dX12_fits_64 ?_
              refine q_iload dX12_fits_67 rfl ?_
              refine q_lald (f := (m_tlf μ r (m_np μ r) (μ 3 0))) (n9 := 216) rfl (by omega) (by omega) dX12_fits_69 ?_
              rw [m_tlf_i μ r (m_np μ r) (c := μ 3 0 - 1 - k) (S := μ 3 0) (by omega) (by omega)]
              show q_J _ _ _ _ _ _ _ [q_l (m_tl μ r (μ 3 0 - 1 - k)), .ref 64] _
              refine q_lconst 0 dX12_fits_70 ?_
              refine q_lcmp_le (tgt := 80) dX12_fits_71 dX12_fits_72 (by decide) ⟨by have h9 : 0 ≤ m_tl μ r (μ 3 0 - 1 - k) ∧ m_tl μ r (μ 3 0 - 1 - k) ≤ 4294967296 := m_tw_r hG r (μ 3 0 - 1 - k) (k := m_np μ r) (by omega); omega, by have h9 : 0 ≤ m_tl μ r (μ 3 0 - 1 - k) ∧ m_tl μ r (μ 3 0 - 1 - k) ≤ 4294967296 := m_tw_r hG r (μ 3 0 - 1 - k) (k := m_np μ r) (by omega); omega⟩ ⟨by decide, by decide⟩ (fun h71 => ?_) (fun h71 => False.elim (by omega))
              refine q_aload_n dX12_fits_80 rfl ?_
              refine q_get (v := q_i (z_back (m_tl μ r) (μ 3 0) k)) fX12_52_12 rfl rfl dX12_fits_81 ?_
              refine q_puti (fs := m_o (m_u (m_u μ 24 (m_tlf μ r (m_np μ r) (μ 3 0))) 11 (fun _ => z_back (m_tl μ r) (μ 3 0) k))) pX12_52_12 rfl (Nat.le_of_ble_eq_true rfl) dX12_fits_84 ?_
              rw [m_p11]
              refine q_iinc (lv' := [some (.ref 64), some (q_i r), some (q_i (m_nl_v μ r)), some (q_i ((z_sum (m_tpos μ r) (μ 3 0) - z_sum (m_tpos μ r) (μ 3 0 - k)) + 0)), some (q_i ((μ 3 0 - 1 - k) + (-1)))]) dX12_fits_87 rfl (by decide) rfl ?_
              refine q_goto (tgt := 37) dX12_fits_90 (by decide) ?_
              exact q_Jle (q_le_s (rfl) (q_le_s (rfl) (q_le_s (rfl) (q_le_s (by rw [show μ 3 0 - k = (μ 3 0 - (k + 1)) + 1 by omega, z_sum_s _ (show 0 ≤ μ 3 0 - (k + 1) by omega), show μ 3 0 - (k + 1) = μ 3 0 - 1 - k by omega]; unfold m_tpos; split <;> first | (congr 2; omega) | (exfalso; omega)) (q_le_s (by rw [show μ 3 0 - 1 - k + -1 = μ 3 0 - 1 - (k + 1) by omega]) (q_le_e _)))))) (rfl) (by rw [m_uu, z_back_s _ _ hk0, show μ 3 0 - (k + 1) = μ 3 0 - 1 - k by omega]; split <;> first | rfl | (exfalso; omega)) (ih37 (k + 1) (by omega) (by omega) (by omega))
            · skip
              refine q_iconst dX12_fits_55 ?_
              refine q_goto (tgt := 60) dX12_fits_56 (by decide) ?_
              refine q_iadd dX12_fits_60 ?_
              refine q_istore_n (lv' := [some (.ref 64), some (q_i r), some (q_i (m_nl_v μ r)), some (q_i ((z_sum (m_tpos μ r) (μ 3 0) - z_sum (m_tpos μ r) (μ 3 0 - k)) + 1)), some (q_i (μ 3 0 - 1 - k))]) dX12_fits_61 (by decide) rfl ?_
              refine q_aload_n dX12_fits_62 rfl ?_
              refine q_aload_n dX12_fits_63 rfl ?_
              refine q_get (v := .ref 75) fX12_45_12 rfl rfl dX12_fits_64 ?_
              refine q_iload dX12_fits_67 rfl ?_
              refine q_lald (f := (m_tlf μ r (m_np μ r) (μ 3 0))) (n9 := 216) rfl (by omega) (by omega) dX12_fits_69 ?_
              rw [m_tlf_i μ r (m_np μ r) (c := μ 3 0 - 1 - k) (S := μ 3 0) (by omega) (by omega)]
              show q_J _ _ _ _ _ _ _ [q_l (m_tl μ r (μ 3 0 - 1 - k)), .ref 64] _
              refine q_lconst 0 dX12_fits_70 ?_
              refine q_lcmp_le (tgt := 80) dX12_fits_71 dX12_fits_72 (by decide) ⟨by have h9 : 0 ≤ m_tl μ r (μ 3 0 - 1 - k) ∧ m_tl μ r (μ 3 0 - 1 - k) ≤ 4294967296 := m_tw_r hG r (μ 3 0 - 1 - k) (k := m_np μ r) (by omega); omega, by have h9 : 0 ≤ m_tl μ r (μ 3 0 - 1 - k) ∧ m_tl μ r (μ 3 0 - 1 - k) ≤ 4294967296 := m_tw_r hG r (μ 3 0 - 1 - k) (k := m_np μ r) (by omega); omega⟩ ⟨by decide, by decide⟩ (fun h71 => False.elim (by omega)) (fun h71 => ?_)
              refine q_iload dX12_fits_75 rfl ?_
              refine q_goto (tgt := 84) dX12_fits_77 (by decide) ?_
              refine q_puti (fs := m_o (m_u (m_u μ 24 (m_tlf μ r (m_np μ r) (μ 3 0))) 11 (fun _ => z_back (m_tl μ r) (μ 3 0) k))) pX12_52_12 rfl (Nat.le_of_ble_eq_true rfl) dX12_fits_84 ?_
              rw [m_p11]
              refine q_iinc (lv' := [some (.ref 64), some (q_i r), some (q_i (m_nl_v μ r)), some (q_i ((z_sum (m_tpos μ r) (μ 3 0) - z_sum (m_tpos μ r) (μ 3 0 - k)) + 1)), some (q_i ((μ 3 0 - 1 - k) + (-1)))]) dX12_fits_87 rfl (by decide) rfl ?_
              refine q_goto (tgt := 37) dX12_fits_90 (by decide) ?_
              exact q_Jle (q_le_s (rfl) (q_le_s (rfl) (q_le_s (rfl) (q_le_s (by rw [show μ 3 0 - k = (μ 3 0 - (k + 1)) + 1 by omega, z_sum_s _ (show 0 ≤ μ 3 0 - (k + 1) by omega), show μ 3 0 - (k + 1) = μ 3 0 - 1 - k by omega]; unfold m_tpos; split <;> first | (congr 2; omega) | (exfalso; omega)) (q_le_s (by rw [show μ 3 0 - 1 - k + -1 = μ 3 0 - 1 - (k + 1) by omega]) (q_le_e _)))))) (rfl) (by rw [m_uu, z_back_s _ _ hk0, show μ 3 0 - (k + 1) = μ 3 0 - 1 - k by omega]; split <;> first | rfl | (exfalso; omega)) (ih37 (k + 1) (by omega) (by omega) (by omega))
      exact q_Jle (q_le_s (rfl) (q_le_s (rfl) (q_le_s (rfl) (q_le_s (by rw [Int.sub_zero, Int.sub_self]) (q_le_s (by rw [Int.sub_zero]) (q_le_e _)))))) (rfl) (rfl) (L37 ((μ 3 0 : Int).toNat + 1) 0 (by omega) (by omega) (by omega))
    · skip
      refine q_iload_n dX12_fits_19 rfl ?_
      exact q_iret rfl dX12_fits_20 (⟨by (unfold m_fits_v; (repeat' split) <;> first | rfl | (exfalso; omega)), by (unfold m_fits_s; (repeat' split) <;> first | rfl | (exfalso; omega))⟩)
  · skip
    refine q_iconst dX12_fits_7 ?_
    exact q_iret rfl dX12_fits_8 (⟨by (unfold m_fits_v; (repeat' split) <;> first | rfl | (exfalso; omega)), by (unfold m_fits_s; (repeat' split) <;> first | rfl | (exfalso; omega))⟩)
def m_bel (μ : m_S) (r k : Int) : Int := μ 3 0 * z_prod (fun i => m_inall μ (m_it μ r (2 * i))) k
theorem z_p_pos (f : Int → Int) : ∀ k : Nat, (∀ j : Int, 0 ≤ j → j < k → 1 ≤ f j ∧ f j ≤ 216) → 1 ≤ z_p f k ∧ z_p f k ≤ z_p (fun _ => 216) k
  | 0, _ => ⟨Int.le_refl 1, Int.le_refl _⟩
  | k + 1, h => by
    have h1 := z_p_pos f k (fun j h0 h1 => h j h0 (by omega))
    have h2 := h k (by omega) (by omega)
    have h3 := z_mul2 (a := z_p f k) (b := f k) ⟨by omega, h1.2⟩ ⟨by omega, h2.2⟩
    exact ⟨by have := Int.mul_pos (show 0 < z_p f k by omega) (show 0 < f k by omega); show 1 ≤ z_p f k * f k; omega, h3.2⟩
theorem z_p216 : ∀ k : Nat, k ≤ 6 → z_p (fun _ => 216) k ≤ 101559956668416 := by decide
theorem m_bel_r {μ : m_S} (hG : m_G μ) {r k : Int} (hk : k ≤ 6) (h : ∀ j : Int, 0 ≤ j → j < k → 0 ≤ m_it μ r (2 * j) ∧ m_it μ r (2 * j) ≤ μ 4 0 - 1) : 0 < m_bel μ r k ∧ m_bel μ r k ≤ 21936950640377856 := by
  have hS := hG.S
  have h1 := z_p_pos (fun i => m_inall μ (m_it μ r (2 * i))) k.toNat (fun j h0 h1 => by
    have h2 := h j h0 (by omega)
    exact m_inall_r hG h2.1 (by omega))
  have h2 := z_p216 k.toNat (by omega)
  have h3 := z_mul2 (a := μ 3 0) (b := z_p (fun i => m_inall μ (m_it μ r (2 * i))) k.toNat) (A := 216) (B := 101559956668416) ⟨by omega, hS.2⟩ ⟨by omega, by omega⟩
  unfold m_bel
  exact ⟨Int.mul_pos (by omega) (show 0 < z_p _ _ by omega), h3.2⟩
def m_chance_v (μ : m_S) (r : Int) : Int := if ¬ (0 ≤ r ∧ r ≤ 5) then -1 else if m_nl_v μ r ≠ 0 then m_nl_v μ r else 1
def m_chance_s (μ : m_S) (r : Int) : m_S := if ¬ (0 ≤ r ∧ r ≤ 5) then μ else if m_nl_v μ r ≠ 0 then m_nl_s μ r else m_tp (m_nl_s μ r) (z_sum (m_tl μ r) (μ 3 0)) (m_bel μ r (m_np μ r))
theorem m_tls_r {μ : m_S} (hG : m_G μ) (r : Int) (hn : m_np μ r ≤ 6) : 0 ≤ z_sum (m_tl μ r) (μ 3 0) ∧ z_sum (m_tl μ r) (μ 3 0) ≤ 927712935936 := by
  have hS := hG.S
  have h := z_sum_b (m_tl μ r) 0 4294967296 (n := μ 3 0) (by omega) (fun j h0 h1 => m_tw_r hG r j hn)
  omega
set_option maxRecDepth 20000 in
theorem tX12_chance (w : q_W) (μ : m_S) (r : Int) (hr : q_r r) (hH : m_Sh μ) (hI : m_I μ) : q_D mX12_chance 6 [.ref 64, q_i r] (m_w w μ) (some (q_i (m_chance_v μ r))) (m_w w (m_chance_s μ r)) := by
  refine q_T.of (lv := [some (.ref 64), some (q_i r), none, none, none, none, none, none]) (by decide) rfl (Nat.le_of_ble_eq_true rfl) ?_
  have hb := hH.b
  refine q_iload_n dX12_chance_0 rfl ?_
  refine q_cS [q_i r] kX12_63 (tX12_isRow (m_w w μ) r (hr)) dX12_chance_1 rfl (by decide) (Nat.le_of_ble_eq_true rfl) rfl ?_
  refine q_ifb_ne (tgt := 9) dX12_chance_4 (by decide) (fun h4 => ?_) (fun h4 => ?_)
  · skip
    refine q_aload_n dX12_chance_9 rfl ?_
    refine q_iload_n dX12_chance_10 rfl ?_
    refine q_cV [q_i r] kX12_245_12 rfl (tX12_noLooks w μ r (by omega) (by omega) hH hI) dX12_chance_11 rfl (by decide) (Nat.le_of_ble_eq_true rfl) rfl ?_
    refine q_istore_n (lv' := [some (.ref 64), some (q_i r), some (q_i (m_nl_v μ r)), none, none, none, none, none]) dX12_chance_14 (by decide) rfl ?_
    refine q_iload_n dX12_chance_15 rfl ?_
    refine q_if_eq (tgt := 21) dX12_chance_16 (by decide) (m_nl_r μ r) (fun h16 => ?_) (fun h16 => ?_)
    · skip
      obtain ⟨hn1, hn2, hn3, hn4, hn5, hn6⟩ := m_nl_0 h16
      have hG := hH.g (by omega)
      have hS := hG.S
      have hnp : μ 7 r = 2 * m_np μ r := z_half hn2 hn3
      rw [hn6]
      refine q_lconst 0 dX12_chance_21 ?_
      refine q_lstore_n (lv' := [some (.ref 64), some (q_i r), some (q_i (m_nl_v μ r)), some (q_l 0), none, none, none, none]) dX12_chance_22 (by decide) rfl ?_
      refine q_aload_n dX12_chance_23 rfl ?_
      refine q_get (v := q_i (μ 3 0)) fX12_139_12 rfl rfl dX12_chance_24 ?_
      refine q_i2lr dX12_chance_27 ⟨by omega, by omega⟩ ?_
      refine q_lstore (lv' := [some (.ref 64), some (q_i r), some (q_i (m_nl_v μ r)), some (q_l 0), none, some (q_l (μ 3 0)), none, none]) dX12_chance_28 (by decide) rfl ?_
      refine q_iconst dX12_chance_30 ?_
      refine q_istore (lv' := [some (.ref 64), some (q_i r), some (q_i (m_nl_v μ r)), some (q_l 0), none, some (q_l (μ 3 0)), none, some (q_i 0)]) dX12_chance_31 (by decide) rfl ?_
      have L33 : ∀ (m9 : Nat) (k : Int) (hk0 : 0 ≤ k) (hk1 : k ≤ μ 3 0) (hm9 : μ 3 0 - k < (m9 : Int)), q_J mX12_chance 6 (fun v' w' => v' = (some (q_i (m_chance_v μ r))) ∧ w' = (m_w w (m_chance_s μ r))) 0 0 33 [some (.ref 64), some (q_i r), some (q_i (m_nl_v μ r)), some (q_l (z_sum (m_tl μ r) k)), none, some (q_l (μ 3 0)), none, some (q_i k)] [] (m_w w (m_u μ 24 (m_tlf μ r (m_np μ r) (μ 3 0)))) := by
        intro m9
        induction m9 with
        | zero => intro k hk0 hk1 hm9; exact absurd hm9 (by omega)
        | succ m9 ih33 =>
          intro k hk0 hk1 hm9
          refine q_iload dX12_chance_33 rfl ?_
          refine q_aload_n dX12_chance_35 rfl ?_
          refine q_get (v := q_i (μ 3 0)) fX12_139_12 rfl rfl dX12_chance_36 ?_
          refine q_icmp_ge (tgt := 58) dX12_chance_39 (by decide) ⟨by omega, by omega⟩ ⟨by omega, by omega⟩ (fun h39 => ?_) (fun h39 => ?_)
          · skip
            have hke : k = μ 3 0 := by omega
            subst hke
            refine q_bipush dX12_chance_58 ?_
            refine q_iload_n dX12_chance_60 rfl ?_
            refine q_imul dX12_chance_61 ?_
            refine q_istore (lv' := [some (.ref 64), some (q_i r), some (q_i (m_nl_v μ r)), some (q_l (z_sum (m_tl μ r) (μ 3 0))), none, some (q_l (μ 3 0)), none, some (q_i (40 * r))]) dX12_chance_62 (by decide) rfl ?_
            have L64 : ∀ (m9 : Nat) (i : Int) (hi0 : 0 ≤ i) (hi1 : i ≤ m_np μ r) (hm9 : m_np μ r - i < (m9 : Int)), q_J mX12_chance 6 (fun v' w' => v' = (some (q_i (m_chance_v μ r))) ∧ w' = (m_w w (m_chance_s μ r))) 0 0 64 [some (.ref 64), some (q_i r), some (q_i (m_nl_v μ r)), some (q_l (z_sum (m_tl μ r) (μ 3 0))), none, some (q_l (m_bel μ r i)), none, some (q_i (40 * r + 2 * i))] [] (m_w w (m_u μ 24 (m_tlf μ r (m_np μ r) (μ 3 0)))) := by
              intro m9
              induction m9 with
              | zero => intro i hi0 hi1 hm9; exact absurd hm9 (by omega)
              | succ m9 ih64 =>
                intro i hi0 hi1 hm9
                refine q_iload dX12_chance_64 rfl ?_
                refine q_bipush dX12_chance_66 ?_
                refine q_iload_n dX12_chance_68 rfl ?_
                refine q_imul dX12_chance_69 ?_
                refine q_aload_n dX12_chance_70 rfl ?_
                refine q_get (v := .ref 68) fX12_20_12 rfl rfl dX12_chance_71 ?_
                refine q_iload_n dX12_chance_74 rfl ?_
                refine q_iald (f := (μ 7)) (n9 := 6) rfl (by omega) (by omega) dX12_chance_75 ?_
                refine q_iadd dX12_chance_76 ?_
                refine q_icmp_ge (tgt := 103) dX12_chance_77 (by decide) ⟨by omega, by omega⟩ ⟨by omega, by omega⟩ (fun h77 => ?_) (fun h77 => ?_)
                · skip
                  have hie : i = m_np μ r := by omega
                  subst hie
                  have hbl := m_bel_r hG (r := r) (k := m_np μ r) (by omega) (fun j h0 h1 => (m_ok_a hn5 h0 h1).1)
                  have htl := m_tls_r hG r (by omega)
                  refine q_aload_n dX12_chance_103 rfl ?_
                  refine q_lload_n dX12_chance_104 rfl ?_
                  refine q_lload dX12_chance_105 rfl ?_
                  refine q_cV [q_l (z_sum (m_tl μ r) (μ 3 0)), q_l (m_bel μ r (m_np μ r))] kX12_223_12 rfl (tX12_tellParts w (m_u μ 24 (m_tlf μ r (m_np μ r) (μ 3 0))) (z_sum (m_tl μ r) (μ 3 0)) (m_bel μ r (m_np μ r)) htl.1 (by omega) hbl.1 (by omega)) dX12_chance_107 rfl (by decide) (Nat.le_of_ble_eq_true rfl) rfl ?_
                  exact q_iret rfl dX12_chance_110 (⟨by (unfold m_chance_v; (repeat' split) <;> first | rfl | (exfalso; omega)), by rw [← hn6]; unfold m_chance_s; (repeat' split) <;> first | rfl | (exfalso; omega)⟩)
                · skip
                  have hpa := m_ok_a hn5 (k := i) hi0 (by omega)
                  refine q_lload dX12_chance_80 rfl ?_
                  refine q_aload_n dX12_chance_82 rfl ?_
                  refine q_aload_n dX12_chance_83 rfl ?_
                  refine q_get (v := .ref 69) fX12_23_12 rfl rfl dX12_chance_84 ?_
                  refine q_iload dX12_chance_87 rfl ?_
                  refine q_iald (f := (μ 8)) (n9 := 240) rfl (by omega) (by omega) dX12_chance_89 ?_
                  show q_J _ _ _ _ _ _ _ [q_i (m_it μ r (2 * i)), .ref 64, q_l (m_bel μ r i)] _
                  refine q_cV [q_i (m_it μ r (2 * i))] kX12_177_12 rfl (tX12_waysInAll w (m_u μ 24 (m_tlf μ r (m_np μ r) (μ 3 0))) (m_it μ r (2 * i)) hpa.1.1 (show _ < μ 4 0 by have := hpa.1.2; omega) hG) dX12_chance_90 rfl (by decide) (Nat.le_of_ble_eq_true rfl) rfl ?_
                  show q_J _ _ _ _ _ _ _ [q_i (m_inall μ (m_it μ r (2 * i))), q_l (m_bel μ r i)] (m_w w (m_u μ 24 (m_tlf μ r (m_np μ r) (μ 3 0))))
                  refine q_i2lr dX12_chance_93 ⟨by have := m_inall_r hG (p := m_it μ r (2 * i)) hpa.1.1 (by have := hpa.1.2; omega); omega, by have := m_inall_r hG (p := m_it μ r (2 * i)) hpa.1.1 (by have := hpa.1.2; omega); omega⟩ ?_
                  refine q_lmul dX12_chance_94 ?_
                  refine q_lstore (lv' := [some (.ref 64), some (q_i r), some (q_i (m_nl_v μ r)), some (q_l (z_sum (m_tl μ r) (μ 3 0))), none, some (q_l ((m_bel μ r i) * (m_inall μ (m_it μ r (2 * i))))), none, some (q_i (40 * r + 2 * i))]) dX12_chance_95 (by decide) rfl ?_
                  refine q_iinc (lv' := [some (.ref 64), some (q_i r), some (q_i (m_nl_v μ r)), some (q_l (z_sum (m_tl μ r) (μ 3 0))), none, some (q_l ((m_bel μ r i) * (m_inall μ (m_it μ r (2 * i))))), none, some (q_i ((40 * r + 2 * i) + 2))]) dX12_chance_97 rfl (by decide) rfl ?_
                  refine q_goto (tgt := 64) dX12_chance_100 (by decide) ?_
                  exact q_Jle (q_le_s (rfl) (q_le_s (rfl) (q_le_s (rfl) (q_le_s (rfl) (q_le_n (q_le_s (by unfold m_bel; rw [z_prod_s _ hi0, Int.mul_assoc]) (q_le_n (q_le_s (by rw [show 40 * r + 2 * i + 2 = 40 * r + 2 * (i + 1) by omega]) (q_le_e _))))))))) (rfl) (rfl) (ih64 (i + 1) (by omega) (by omega) (by omega))
            exact q_Jle (q_le_s (rfl) (q_le_s (rfl) (q_le_s (rfl) (q_le_s (rfl) (q_le_n (q_le_s (by unfold m_bel; rw [z_prod_0, Int.mul_one]) (q_le_n (q_le_s (by rw [Int.mul_zero, Int.add_zero]) (q_le_e _))))))))) (rfl) (rfl) (L64 ((m_np μ r : Int).toNat + 1) 0 (by omega) (by omega) (by omega))
          · skip
            refine q_lload_n dX12_chance_42 rfl ?_
            refine q_aload_n dX12_chance_43 rfl ?_
            refine q_get (v := .ref 75) fX12_45_12 rfl rfl dX12_chance_44 ?_
            refine q_iload dX12_chance_47 rfl ?_
            refine q_lald (f := (m_tlf μ r (m_np μ r) (μ 3 0))) (n9 := 216) rfl (by omega) (by omega) dX12_chance_49 ?_
            rw [m_tlf_i μ r (m_np μ r) (c := k) (S := μ 3 0) (hk0) (by omega)]
            show q_J _ _ _ _ _ _ _ [q_l (m_tl μ r k), q_l (z_sum (m_tl μ r) k)] _
            refine q_ladd dX12_chance_50 ?_
            refine q_lstore_n (lv' := [some (.ref 64), some (q_i r), some (q_i (m_nl_v μ r)), some (q_l ((z_sum (m_tl μ r) k) + (m_tl μ r k))), none, some (q_l (μ 3 0)), none, some (q_i k)]) dX12_chance_51 (by decide) rfl ?_
            refine q_iinc (lv' := [some (.ref 64), some (q_i r), some (q_i (m_nl_v μ r)), some (q_l ((z_sum (m_tl μ r) k) + (m_tl μ r k))), none, some (q_l (μ 3 0)), none, some (q_i (k + 1))]) dX12_chance_52 rfl (by decide) rfl ?_
            refine q_goto (tgt := 33) dX12_chance_55 (by decide) ?_
            exact q_Jle (q_le_s (rfl) (q_le_s (rfl) (q_le_s (rfl) (q_le_s (by rw [z_sum_s _ hk0]) (q_le_n (q_le_s (rfl) (q_le_n (q_le_s (rfl) (q_le_e _))))))))) (rfl) (rfl) (ih33 (k + 1) (by omega) (by omega) (by omega))
      exact q_Jle (q_le_s (rfl) (q_le_s (rfl) (q_le_s (rfl) (q_le_s (rfl) (q_le_n (q_le_s (rfl) (q_le_n (q_le_s (rfl) (q_le_e _))))))))) (rfl) (rfl) (L33 ((μ 3 0 : Int).toNat + 1) 0 (by omega) (by omega) (by omega))
    · skip
      refine q_iload_n dX12_chance_19 rfl ?_
      exact q_iret rfl dX12_chance_20 (⟨by (unfold m_chance_v; (repeat' split) <;> first | rfl | (exfalso; omega)), by (unfold m_chance_s; (repeat' split) <;> first | rfl | (exfalso; omega))⟩)
  · skip
    refine q_iconst dX12_chance_7 ?_
    exact q_iret rfl dX12_chance_8 (⟨by (unfold m_chance_v; (repeat' split) <;> first | rfl | (exfalso; omega)), by (unfold m_chance_s; (repeat' split) <;> first | rfl | (exfalso; omega))⟩)
def m_read_v (μ : m_S) (r : Int) : Int := if ¬ (0 ≤ r ∧ r ≤ 5) then -1 else if m_nl_v μ r ≠ 0 then m_nl_v μ r else if m_tl μ r (z_am (m_tl μ r) (μ 3 0)) = 0 then -3 else z_am (m_tl μ r) (μ 3 0)
def m_read_s (μ : m_S) (r : Int) : m_S := if ¬ (0 ≤ r ∧ r ≤ 5) then μ else if m_nl_v μ r ≠ 0 then m_nl_s μ r else if m_tl μ r (z_am (m_tl μ r) (μ 3 0)) = 0 then m_find (m_nl_s μ r) 4 else m_nl_s μ r
set_option maxRecDepth 20000 in
theorem tX12_read (w : q_W) (μ : m_S) (r : Int) (hr : q_r r) (hH : m_Sh μ) (hI : m_I μ) : q_D mX12_read 6 [.ref 64, q_i r] (m_w w μ) (some (q_i (m_read_v μ r))) (m_w w (m_read_s μ r)) := by
  refine q_T.of (lv := [some (.ref 64), some (q_i r), none, none, none]) (by decide) rfl (Nat.le_of_ble_eq_true rfl) ?_
  have hb := hH.b
  refine q_iload_n dX12_read_0 rfl ?_
  refine q_cS [q_i r] kX12_63 (tX12_isRow (m_w w μ) r (hr)) dX12_read_1 rfl (by decide) (Nat.le_of_ble_eq_true rfl) rfl ?_
  refine q_ifb_ne (tgt := 9) dX12_read_4 (by decide) (fun h4 => ?_) (fun h4 => ?_)
  · skip
    refine q_aload_n dX12_read_9 rfl ?_
    refine q_iload_n dX12_read_10 rfl ?_
    refine q_cV [q_i r] kX12_245_12 rfl (tX12_noLooks w μ r (by omega) (by omega) hH hI) dX12_read_11 rfl (by decide) (Nat.le_of_ble_eq_true rfl) rfl ?_
    refine q_istore_n (lv' := [some (.ref 64), some (q_i r), some (q_i (m_nl_v μ r)), none, none]) dX12_read_14 (by decide) rfl ?_
    refine q_iload_n dX12_read_15 rfl ?_
    refine q_if_eq (tgt := 21) dX12_read_16 (by decide) (m_nl_r μ r) (fun h16 => ?_) (fun h16 => ?_)
    · skip
      obtain ⟨hn1, hn2, hn3, hn4, hn5, hn6⟩ := m_nl_0 h16
      have hG := hH.g (by omega)
      have hS := hG.S
      have hnp : μ 7 r = 2 * m_np μ r := z_half hn2 hn3
      rw [hn6]
      refine q_iconst dX12_read_21 ?_
      refine q_istore_n (lv' := [some (.ref 64), some (q_i r), some (q_i (m_nl_v μ r)), some (q_i 0), none]) dX12_read_22 (by decide) rfl ?_
      refine q_iconst dX12_read_23 ?_
      refine q_istore (lv' := [some (.ref 64), some (q_i r), some (q_i (m_nl_v μ r)), some (q_i 0), some (q_i 0)]) dX12_read_24 (by decide) rfl ?_
      have L26 : ∀ (m9 : Nat) (k : Int) (hk0 : 0 ≤ k) (hk1 : k ≤ μ 3 0) (hm9 : μ 3 0 - k < (m9 : Int)), q_J mX12_read 6 (fun v' w' => v' = (some (q_i (m_read_v μ r))) ∧ w' = (m_w w (m_read_s μ r))) 0 0 26 [some (.ref 64), some (q_i r), some (q_i (m_nl_v μ r)), some (q_i (z_am (m_tl μ r) k)), some (q_i k)] [] (m_w w (m_u μ 24 (m_tlf μ r (m_np μ r) (μ 3 0)))) := by
        intro m9
        induction m9 with
        | zero => intro k hk0 hk1 hm9; exact absurd hm9 (by omega)
        | succ m9 ih26 =>
          intro k hk0 hk1 hm9
          refine q_iload dX12_read_26 rfl ?_
          refine q_aload_n dX12_read_28 rfl ?_
          refine q_get (v := q_i (μ 3 0)) fX12_139_12 rfl rfl dX12_read_29 ?_
          refine q_icmp_ge (tgt := 65) dX12_read_32 (by decide) ⟨by omega, by omega⟩ ⟨by omega, by omega⟩ (fun h32 => ?_) (fun h32 => ?_)
          · skip
            have hke : k = μ 3 0 := by omega
            subst hke
            have har := z_am_r0 (m_tl μ r) hk0 hk1 (by omega)
            refine q_aload_n dX12_read_65 rfl ?_
            refine q_get (v := .ref 75) fX12_45_12 rfl rfl dX12_read_66 ?_
            refine q_iload_n dX12_read_69 rfl ?_
            refine q_lald (f := (m_tlf μ r (m_np μ r) (μ 3 0))) (n9 := 216) rfl (by omega) (by omega) dX12_read_70 ?_
            rw [m_tlf_i μ r (m_np μ r) (c := z_am (m_tl μ r) (μ 3 0)) (S := μ 3 0) (har.1) (har.2)]
            show q_J _ _ _ _ _ _ _ [q_l (m_tl μ r (z_am (m_tl μ r) (μ 3 0)))] _
            refine q_lconst 0 dX12_read_71 ?_
            refine q_lcmp_ne (tgt := 84) dX12_read_72 dX12_read_73 (by decide) ⟨by have h9 : 0 ≤ m_tl μ r (z_am (m_tl μ r) (μ 3 0)) ∧ m_tl μ r (z_am (m_tl μ r) (μ 3 0)) ≤ 4294967296 := m_tw_r hG r (z_am (m_tl μ r) (μ 3 0)) (k := m_np μ r) (by omega); omega, by have h9 : 0 ≤ m_tl μ r (z_am (m_tl μ r) (μ 3 0)) ∧ m_tl μ r (z_am (m_tl μ r) (μ 3 0)) ≤ 4294967296 := m_tw_r hG r (z_am (m_tl μ r) (μ 3 0)) (k := m_np μ r) (by omega); omega⟩ ⟨by decide, by decide⟩ (fun h72 => ?_) (fun h72 => ?_)
            · skip
              refine q_iload_n dX12_read_84 rfl ?_
              exact q_iret rfl dX12_read_85 (⟨by (unfold m_read_v; (repeat' split) <;> first | rfl | (exfalso; omega)), by rw [← hn6]; unfold m_read_s; (repeat' split) <;> first | rfl | (exfalso; omega)⟩)
            · skip
              refine q_aload_n dX12_read_76 rfl ?_
              refine q_iconst dX12_read_77 ?_
              refine q_cV [q_i 4] kX12_67_12 rfl (tX12_find w (m_u μ 24 (m_tlf μ r (m_np μ r) (μ 3 0))) 4 (by decide) (by decide)) dX12_read_78 rfl (by decide) (Nat.le_of_ble_eq_true rfl) rfl ?_
              refine q_goto (tgt := 85) dX12_read_81 (by decide) ?_
              exact q_iret rfl dX12_read_85 (⟨by (unfold m_read_v; (repeat' split) <;> first | rfl | (exfalso; omega)), by rw [← hn6]; unfold m_read_s; (repeat' split) <;> first | rfl | (exfalso; omega)⟩)
          · skip
            have har := z_am_r0 (m_tl μ r) hk0 hk1 (by omega)
            refine q_aload_n dX12_read_35 rfl ?_
            refine q_get (v := .ref 75) fX12_45_12 rfl rfl dX12_read_36 ?_
            refine q_iload dX12_read_39 rfl ?_
            refine q_lald (f := (m_tlf μ r (m_np μ r) (μ 3 0))) (n9 := 216) rfl (by omega) (by omega) dX12_read_41 ?_
            rw [m_tlf_i μ r (m_np μ r) (c := k) (S := μ 3 0) (hk0) (by omega)]
            show q_J _ _ _ _ _ _ _ [q_l (m_tl μ r k)] _
            refine q_aload_n dX12_read_42 rfl ?_
            refine q_get (v := .ref 75) fX12_45_12 rfl rfl dX12_read_43 ?_
            refine q_iload_n dX12_read_46 rfl ?_
            refine q_lald (f := (m_tlf μ r (m_np μ r) (μ 3 0))) (n9 := 216) rfl (by omega) (by omega) dX12_read_47 ?_
            rw [m_tlf_i μ r (m_np μ r) (c := z_am (m_tl μ r) k) (S := μ 3 0) (har.1) (har.2)]
            show q_J _ _ _ _ _ _ _ [q_l (m_tl μ r (z_am (m_tl μ r) k)), q_l (m_tl μ r k)] _
            refine q_lcmp_le (tgt := 57) dX12_read_48 dX12_read_49 (by decide) ⟨by have h9 : 0 ≤ m_tl μ r k ∧ m_tl μ r k ≤ 4294967296 := m_tw_r hG r k (k := m_np μ r) (by omega); omega, by have h9 : 0 ≤ m_tl μ r k ∧ m_tl μ r k ≤ 4294967296 := m_tw_r hG r k (k := m_np μ r) (by omega); omega⟩ ⟨by have h9 : 0 ≤ m_tl μ r (z_am (m_tl μ r) k) ∧ m_tl μ r (z_am (m_tl μ r) k) ≤ 4294967296 := m_tw_r hG r (z_am (m_tl μ r) k) (k := m_np μ r) (by omega); omega, by have h9 : 0 ≤ m_tl μ r (z_am (m_tl μ r) k) ∧ m_tl μ r (z_am (m_tl μ r) k) ≤ 4294967296 := m_tw_r hG r (z_am (m_tl μ r) k) (k := m_np μ r) (by omega); omega⟩ (fun h48 => ?_) (fun h48 => ?_)
            · skip
              refine q_iload_n dX12_read_57 rfl ?_
              refine q_istore_n (lv' := [some (.ref 64), some (q_i r), some (q_i (m_nl_v μ r)), some (q_i (z_am (m_tl μ r) k)), some (q_i k)]) dX12_read_58 (by decide) rfl ?_
              refine q_iinc (lv' := [some (.ref 64), some (q_i r), some (q_i (m_nl_v μ r)), some (q_i (z_am (m_tl μ r) k)), some (q_i (k + 1))]) dX12_read_59 rfl (by decide) rfl ?_
              refine q_goto (tgt := 26) dX12_read_62 (by decide) ?_
              exact q_Jle (q_le_s (rfl) (q_le_s (rfl) (q_le_s (rfl) (q_le_s (by rw [z_am_s _ hk0]; split <;> first | rfl | (exfalso; omega)) (q_le_s (rfl) (q_le_e _)))))) (rfl) (rfl) (ih26 (k + 1) (by omega) (by omega) (by omega))
            · skip
              refine q_iload dX12_read_52 rfl ?_
              refine q_goto (tgt := 58) dX12_read_54 (by decide) ?_
              refine q_istore_n (lv' := [some (.ref 64), some (q_i r), some (q_i (m_nl_v μ r)), some (q_i k), some (q_i k)]) dX12_read_58 (by decide) rfl ?_
              refine q_iinc (lv' := [some (.ref 64), some (q_i r), some (q_i (m_nl_v μ r)), some (q_i k), some (q_i (k + 1))]) dX12_read_59 rfl (by decide) rfl ?_
              refine q_goto (tgt := 26) dX12_read_62 (by decide) ?_
              exact q_Jle (q_le_s (rfl) (q_le_s (rfl) (q_le_s (rfl) (q_le_s (by rw [z_am_s _ hk0]; split <;> first | rfl | (exfalso; omega)) (q_le_s (rfl) (q_le_e _)))))) (rfl) (rfl) (ih26 (k + 1) (by omega) (by omega) (by omega))
      exact q_Jle (q_le_s (rfl) (q_le_s (rfl) (q_le_s (rfl) (q_le_s (rfl) (q_le_s (rfl) (q_le_e _)))))) (rfl) (rfl) (L26 ((μ 3 0 : Int).toNat + 1) 0 (by omega) (by omega) (by omega))
    · skip
      refine q_iload_n dX12_read_19 rfl ?_
      exact q_iret rfl dX12_read_20 (⟨by (unfold m_read_v; (repeat' split) <;> first | rfl | (exfalso; omega)), by (unfold m_read_s; (repeat' split) <;> first | rfl | (exfalso; omega))⟩)
  · skip
    refine q_iconst dX12_read_7 ?_
    exact q_iret rfl dX12_read_8 (⟨by (unfold m_read_v; (repeat' split) <;> first | rfl | (exfalso; omega)), by (unfold m_read_s; (repeat' split) <;> first | rfl | (exfalso; omega))⟩)
