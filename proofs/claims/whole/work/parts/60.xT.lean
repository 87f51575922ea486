/-! the class's calls, against the reference: rows and texts -/
theorem m_ref_no {μ : m_S} {r i : Int} (h : ¬ (0 ≤ r ∧ r ≤ 5)) : m_ref_v μ r i = -1 ∧ m_ref_s μ r i = μ := ⟨if_pos h, if_pos h⟩
theorem z_R.rpv {μ ξ : m_S} {B P : Nat} {g : Int → Option Nat} (h : z_R μ ξ B P g) {r : Int} (h0 : 0 ≤ r) (h1 : r < 6) (i : Int) : x_rp_v ξ (32 + 2 * r.toNat) i = m_ref_v μ r i := by
  have hz := h.rz h0 h1
  unfold x_rp_v m_ref_v
  rw [if_neg (show ¬ ¬ (0 ≤ r ∧ r ≤ 5) by omega), hz.2]
  by_cases e : μ 7 r < 0
  · rw [if_pos e, if_pos e]
  · rw [if_neg e, if_neg e]
    by_cases e2 : 0 ≤ i ∧ i < μ 7 r
    · rw [if_pos e2, if_pos (by omega)]
    · rw [if_neg e2, if_neg (by omega)]
theorem z_R.rps {μ ξ : m_S} {B P : Nat} {g : Int → Option Nat} (h : z_R μ ξ B P g) {r : Int} (h0 : 0 ≤ r) (h1 : r < 6) (i : Int) : z_R (m_ref_s μ r i) (x_rp_s ξ (32 + 2 * r.toNat) i) B P g := by
  have hz := h.rz h0 h1
  unfold x_rp_s m_ref_s
  rw [if_neg (show ¬ ¬ (0 ≤ r ∧ r ≤ 5) by omega), hz.2]
  by_cases e : μ 7 r < 0
  · rw [if_pos e, if_pos e]
    exact h.find 1
  · rw [if_neg e, if_neg e]
    by_cases e2 : 0 ≤ i ∧ i < μ 7 r
    · rw [if_pos e2, if_pos (by omega)]
      exact h
    · rw [if_neg e2, if_neg (by omega)]
      exact h.find 2
theorem x_rp_ne {ξ : m_S} {a : Nat} {i : Int} (h : ¬ x_rp_v ξ a i = 0) : (ξ a 1 < 0 ∧ x_rp_v ξ a i = -3 ∧ x_rp_s ξ a i = x_fi ξ 1) ∨ ((0 ≤ ξ a 1 ∧ ¬ (0 ≤ i ∧ i < ξ a 1)) ∧ x_rp_v ξ a i = -3 ∧ x_rp_s ξ a i = x_fi ξ 2) := by
  unfold x_rp_v at h ⊢
  unfold x_rp_s
  by_cases e : ξ a 1 < 0
  · rw [if_pos e, if_pos e]
    exact Or.inl ⟨e, rfl, rfl⟩
  · rw [if_neg e] at h
    rw [if_neg e, if_neg e]
    by_cases e2 : 0 ≤ i ∧ i < ξ a 1
    · rw [if_pos e2] at h
      exact absurd rfl h
    · rw [if_neg e2, if_neg e2]
      exact Or.inr ⟨⟨by omega, e2⟩, rfl, rfl⟩
theorem x_rr_ne {ξ : m_S} {a : Nat} (h : ¬ x_rr_v ξ a = 0) : ξ a 1 < 0 ∧ x_rr_v ξ a = -3 ∧ x_rr_s ξ a = x_fi ξ 1 := by
  unfold x_rr_v at h ⊢
  unfold x_rr_s
  by_cases e : ξ a 1 < 0
  · rw [if_pos e, if_pos e]
    exact ⟨e, rfl, rfl⟩
  · rw [if_neg e] at h
    exact absurd rfl h
set_option maxRecDepth 20000 in
theorem tX11_row (w : q_W) (μ ξ : m_S) (B P : Nat) (g : Int → Option Nat) (hR : z_R μ ξ B P g) (r n : Int) (hr : q_r r) (hn : q_r n) : q_T mX11_row 3 0 0 [.ref 0, q_i r, q_i n] (x_w w ξ B P g) (z_Q w B P g (q_i (m_row_v μ r n)) (m_row_s μ r n)) := by
  refine q_T.of (lv := [some (.ref 0), some (q_i r), some (q_i n)]) (by decide) rfl (Nat.le_of_ble_eq_true rfl) ?_
  by_cases hq0 : 0 ≤ r ∧ r < 6
  · skip
    obtain ⟨hr0, hr1⟩ := hq0
    have hzr := hR.rz (r := r) hr0 hr1
    refine q_aload_n dX11_row_0 rfl ?_
    refine q_aload_n dX11_row_1 rfl ?_
    refine q_get (v := .ref 1) fX11_11_11 rfl rfl dX11_row_2 ?_
    refine q_iload_n dX11_row_5 rfl ?_
    refine q_cS [.ref 1, q_i r] kX11_60 (tX11_among_1y w ξ B P g r (by omega) (by omega)) dX11_row_6 rfl (by decide) (Nat.le_of_ble_eq_true rfl) rfl ?_
    refine q_iload_n dX11_row_9 rfl ?_
    refine q_iconst dX11_row_10 ?_
    refine q_cV [.ref (32 + 2 * r.toNat), q_i n, q_i 0] kX11_64_11 rfl (tX11_makeAnew w ξ B P g (32 + 2 * r.toNat) 40 (x_isR_rows hr0 hr1) (by omega) n 0 (hn)) dX11_row_11 rfl (by decide) (Nat.le_of_ble_eq_true rfl) rfl ?_
    exact q_iret rfl dX11_row_14 (⟨by unfold x_ma_v m_row_v; (repeat' split) <;> first | rfl | (exfalso; omega), _, rfl, by unfold m_row_s x_ma_s; (repeat' split) <;> first | exact hR | exact hR.find 5 | exact hR.mk (by omega) (by omega) (by omega) (by omega) | (exfalso; omega)⟩)
  · skip
    refine q_aload_n dX11_row_0 rfl ?_
    refine q_aload_n dX11_row_1 rfl ?_
    refine q_get (v := .ref 1) fX11_11_11 rfl rfl dX11_row_2 ?_
    refine q_iload_n dX11_row_5 rfl ?_
    refine q_cS [.ref 1, q_i r] kX11_60 (tX11_among_1n w ξ B P g r (hr) (by omega)) dX11_row_6 rfl (by decide) (Nat.le_of_ble_eq_true rfl) rfl ?_
    refine q_iload_n dX11_row_9 rfl ?_
    refine q_iconst dX11_row_10 ?_
    refine q_cV [.null, q_i n, q_i 0] kX11_64_11 rfl (tX11_makeAnew_n w ξ B P g n 0) dX11_row_11 rfl (by decide) (Nat.le_of_ble_eq_true rfl) rfl ?_
    exact q_iret rfl dX11_row_14 (⟨by unfold m_row_v; (repeat first | rw [if_pos (by omega)] | rw [if_neg (by omega)]), _, rfl, by unfold m_row_s; (repeat first | rw [if_pos (by omega)] | rw [if_neg (by omega)]); exact hR⟩)
set_option maxRecDepth 20000 in
theorem tX11_text (w : q_W) (μ ξ : m_S) (B P : Nat) (g : Int → Option Nat) (hR : z_R μ ξ B P g) (r n : Int) (hr : q_r r) (hn : q_r n) : q_T mX11_text 3 0 0 [.ref 0, q_i r, q_i n] (x_w w ξ B P g) (z_Q w B P g (q_i (m_text_v μ r n)) (m_text_s μ r n)) := by
  refine q_T.of (lv := [some (.ref 0), some (q_i r), some (q_i n)]) (by decide) rfl (Nat.le_of_ble_eq_true rfl) ?_
  by_cases hq0 : 0 ≤ r ∧ r < 4
  · skip
    obtain ⟨hr0, hr1⟩ := hq0
    have hzr := hR.tz (r := r) hr0 hr1
    refine q_aload_n dX11_text_0 rfl ?_
    refine q_aload_n dX11_text_1 rfl ?_
    refine q_get (v := .ref 2) fX11_15_11 rfl rfl dX11_text_2 ?_
    refine q_iload_n dX11_text_5 rfl ?_
    refine q_cS [.ref 2, q_i r] kX11_60 (tX11_among_2y w ξ B P g r (by omega) (by omega)) dX11_text_6 rfl (by decide) (Nat.le_of_ble_eq_true rfl) rfl ?_
    refine q_iload_n dX11_text_9 rfl ?_
    refine q_bipush dX11_text_10 ?_
    refine q_cV [.ref (44 + 2 * r.toNat), q_i n, q_i 32] kX11_64_11 rfl (tX11_makeAnew w ξ B P g (44 + 2 * r.toNat) 60 (x_isR_texts hr0 hr1) (by omega) n 32 (hn)) dX11_text_12 rfl (by decide) (Nat.le_of_ble_eq_true rfl) rfl ?_
    exact q_iret rfl dX11_text_15 (⟨by unfold x_ma_v m_text_v; (repeat' split) <;> first | rfl | (exfalso; omega), _, rfl, by unfold m_text_s x_ma_s; (repeat' split) <;> first | exact hR | exact hR.find 5 | exact hR.text (by omega) (by omega) (by omega) (by omega) | (exfalso; omega)⟩)
  · skip
    refine q_aload_n dX11_text_0 rfl ?_
    refine q_aload_n dX11_text_1 rfl ?_
    refine q_get (v := .ref 2) fX11_15_11 rfl rfl dX11_text_2 ?_
    refine q_iload_n dX11_text_5 rfl ?_
    refine q_cS [.ref 2, q_i r] kX11_60 (tX11_among_2n w ξ B P g r (hr) (by omega)) dX11_text_6 rfl (by decide) (Nat.le_of_ble_eq_true rfl) rfl ?_
    refine q_iload_n dX11_text_9 rfl ?_
    refine q_bipush dX11_text_10 ?_
    refine q_cV [.null, q_i n, q_i 32] kX11_64_11 rfl (tX11_makeAnew_n w ξ B P g n 32) dX11_text_12 rfl (by decide) (Nat.le_of_ble_eq_true rfl) rfl ?_
    exact q_iret rfl dX11_text_15 (⟨by unfold m_text_v; (repeat first | rw [if_pos (by omega)] | rw [if_neg (by omega)]), _, rfl, by unfold m_text_s; (repeat first | rw [if_pos (by omega)] | rw [if_neg (by omega)]); exact hR⟩)
set_option maxRecDepth 20000 in
theorem tX11_lay (w : q_W) (μ ξ : m_S) (B P : Nat) (g : Int → Option Nat) (hR : z_R μ ξ B P g) (r i v : Int) (hr : q_r r) (hi : q_r i) (hv : q_r v) : q_T mX11_lay 3 0 0 [.ref 0, q_i r, q_i i, q_i v] (x_w w ξ B P g) (z_Q w B P g (q_i (m_lay_v μ r i)) (m_lay_s μ r i v)) := by
  refine q_T.of (lv := [some (.ref 0), some (q_i r), some (q_i i), some (q_i v), none, none]) (by decide) rfl (Nat.le_of_ble_eq_true rfl) ?_
  by_cases hq0 : 0 ≤ r ∧ r < 6
  · skip
    obtain ⟨hr0, hr1⟩ := hq0
    have hzr := hR.rz (r := r) hr0 hr1
    refine q_aload_n dX11_lay_0 rfl ?_
    refine q_get (v := .ref 1) fX11_11_11 rfl rfl dX11_lay_1 ?_
    refine q_iload_n dX11_lay_4 rfl ?_
    refine q_cS [.ref 1, q_i r] kX11_60 (tX11_among_1y w ξ B P g r (by omega) (by omega)) dX11_lay_5 rfl (by decide) (Nat.le_of_ble_eq_true rfl) rfl ?_
    refine q_astore (lv' := [some (.ref 0), some (q_i r), some (q_i i), some (q_i v), some (.ref (32 + 2 * r.toNat)), none]) dX11_lay_8 (by decide) rfl ?_
    refine q_aload_n dX11_lay_10 rfl ?_
    refine q_aload dX11_lay_11 rfl ?_
    refine q_iload_n dX11_lay_13 rfl ?_
    refine q_cV [.ref (32 + 2 * r.toNat), q_i i] kX11_68_11 rfl (tX11_refusedPlace w ξ B P g (32 + 2 * r.toNat) 40 (x_isR_rows hr0 hr1) (by omega) i (hi)) dX11_lay_14 rfl (by decide) (Nat.le_of_ble_eq_true rfl) rfl ?_
    refine q_istore (lv' := [some (.ref 0), some (q_i r), some (q_i i), some (q_i v), some (.ref (32 + 2 * r.toNat)), some (q_i (x_rp_v ξ (32 + 2 * r.toNat) i))]) dX11_lay_17 (by decide) rfl ?_
    refine q_iload dX11_lay_19 rfl ?_
    refine q_if_eq (tgt := 27) dX11_lay_21 (by decide) (x_rp_r ξ _ i) (fun h21 => ?_) (fun h21 => ?_)
    · skip
      obtain ⟨hii, hrs⟩ := x_rp_0 h21
      rw [hrs]
      refine q_aload_n dX11_lay_27 rfl ?_
      refine q_aload dX11_lay_28 rfl ?_
      refine q_get (v := .ref ((32 + 2 * r.toNat) + 1)) fX11_72_7 (x_rO (x_isR_rows hr0 hr1)) rfl dX11_lay_30 ?_
      refine q_iload_n dX11_lay_33 rfl ?_
      refine q_iald (f := (ξ ((32 + 2 * r.toNat) + 1))) (n9 := 40) (x_rP (x_isR_rows hr0 hr1)) (by omega) (by omega) dX11_lay_34 ?_ (by rcases ((x_isR_rows hr0 hr1)).n with q | q <;> omega)
      refine q_cVv [q_i ((ξ ((32 + 2 * r.toNat) + 1)) i)] kX11_75_11 rfl (tX11_tellNumber w ξ B P g ((ξ ((32 + 2 * r.toNat) + 1)) i)) dX11_lay_35 rfl (by decide) (Nat.le_of_ble_eq_true rfl) rfl ?_
      refine q_aload dX11_lay_38 rfl ?_
      refine q_get (v := .ref ((32 + 2 * r.toNat) + 1)) fX11_72_7 (x_rO (x_isR_rows hr0 hr1)) rfl dX11_lay_40 ?_
      refine q_iload_n dX11_lay_43 rfl ?_
      refine q_iload_n dX11_lay_44 rfl ?_
      refine q_iast (f := ((x_tn ξ ((ξ ((32 + 2 * r.toNat) + 1)) i)) ((32 + 2 * r.toNat) + 1))) (n9 := 40) (x_rP (x_isR_rows hr0 hr1)) (by omega) (by omega) dX11_lay_45 ?_ (by rcases ((x_isR_rows hr0 hr1)).n with q | q <;> omega)
      refine q_Jeq rfl rfl (x_rP_u (x_isR_rows hr0 hr1) _) ?_
      refine q_iconst dX11_lay_46 ?_
      exact q_iret rfl dX11_lay_47 (⟨by unfold m_lay_v; rw [← hR.rpv hr0 hr1 i, if_pos h21], _, rfl, by unfold m_lay_s; rw [← hR.rpv hr0 hr1 i, if_pos h21]; exact hR.lay hr0 hr1 (by omega) (by omega) hv⟩)
    · skip
      refine q_iload dX11_lay_24 rfl ?_
      exact q_iret rfl dX11_lay_26 (⟨by unfold m_lay_v; rw [← hR.rpv hr0 hr1 i, if_neg h21], _, rfl, by unfold m_lay_s; rw [← hR.rpv hr0 hr1 i, if_neg h21]; exact hR.rps hr0 hr1 i⟩)
  · skip
    refine q_aload_n dX11_lay_0 rfl ?_
    refine q_get (v := .ref 1) fX11_11_11 rfl rfl dX11_lay_1 ?_
    refine q_iload_n dX11_lay_4 rfl ?_
    refine q_cS [.ref 1, q_i r] kX11_60 (tX11_among_1n w ξ B P g r (hr) (by omega)) dX11_lay_5 rfl (by decide) (Nat.le_of_ble_eq_true rfl) rfl ?_
    refine q_astoreN (lv' := [some (.ref 0), some (q_i r), some (q_i i), some (q_i v), some (.null), none]) dX11_lay_8 (by decide) rfl ?_
    refine q_aload_n dX11_lay_10 rfl ?_
    refine q_aloadN dX11_lay_11 rfl ?_
    refine q_iload_n dX11_lay_13 rfl ?_
    refine q_cV [.null, q_i i] kX11_68_11 rfl (tX11_refusedPlace_n w ξ B P g i) dX11_lay_14 rfl (by decide) (Nat.le_of_ble_eq_true rfl) rfl ?_
    refine q_istore (lv' := [some (.ref 0), some (q_i r), some (q_i i), some (q_i v), some (.null), some (q_i (-1))]) dX11_lay_17 (by decide) rfl ?_
    refine q_iload dX11_lay_19 rfl ?_
    refine q_if_eq (tgt := 27) dX11_lay_21 (by decide) ⟨by decide, by decide⟩ (fun h21 => False.elim (by omega)) (fun h21 => ?_)
    refine q_iload dX11_lay_24 rfl ?_
    exact q_iret rfl dX11_lay_26 (⟨by unfold m_lay_v; rw [(m_ref_no (by omega)).1]; rfl, _, rfl, by unfold m_lay_s; rw [(m_ref_no (μ := μ) (i := i) (by omega)).1, if_neg (by decide), (m_ref_no (by omega)).2]; exact hR⟩)
set_option maxRecDepth 20000 in
theorem tX11_at (w : q_W) (μ ξ : m_S) (B P : Nat) (g : Int → Option Nat) (hR : z_R μ ξ B P g) (r i : Int) (hr : q_r r) (hi : q_r i) : q_T mX11_at 3 0 0 [.ref 0, q_i r, q_i i] (x_w w ξ B P g) (z_Q w B P g (q_i (m_lay_v μ r i)) (m_at_s μ r i)) := by
  refine q_T.of (lv := [some (.ref 0), some (q_i r), some (q_i i), none, none]) (by decide) rfl (Nat.le_of_ble_eq_true rfl) ?_
  by_cases hq0 : 0 ≤ r ∧ r < 6
  · skip
    obtain ⟨hr0, hr1⟩ := hq0
    have hzr := hR.rz (r := r) hr0 hr1
    refine q_aload_n dX11_at_0 rfl ?_
    refine q_get (v := .ref 1) fX11_11_11 rfl rfl dX11_at_1 ?_
    refine q_iload_n dX11_at_4 rfl ?_
    refine q_cS [.ref 1, q_i r] kX11_60 (tX11_among_1y w ξ B P g r (by omega) (by omega)) dX11_at_5 rfl (by decide) (Nat.le_of_ble_eq_true rfl) rfl ?_
    refine q_astore_n (lv' := [some (.ref 0), some (q_i r), some (q_i i), some (.ref (32 + 2 * r.toNat)), none]) dX11_at_8 (by decide) rfl ?_
    refine q_aload_n dX11_at_9 rfl ?_
    refine q_aload_n dX11_at_10 rfl ?_
    refine q_iload_n dX11_at_11 rfl ?_
    refine q_cV [.ref (32 + 2 * r.toNat), q_i i] kX11_68_11 rfl (tX11_refusedPlace w ξ B P g (32 + 2 * r.toNat) 40 (x_isR_rows hr0 hr1) (by omega) i (hi)) dX11_at_12 rfl (by decide) (Nat.le_of_ble_eq_true rfl) rfl ?_
    refine q_istore (lv' := [some (.ref 0), some (q_i r), some (q_i i), some (.ref (32 + 2 * r.toNat)), some (q_i (x_rp_v ξ (32 + 2 * r.toNat) i))]) dX11_at_15 (by decide) rfl ?_
    refine q_iload dX11_at_17 rfl ?_
    refine q_if_eq (tgt := 25) dX11_at_19 (by decide) (x_rp_r ξ _ i) (fun h19 => ?_) (fun h19 => ?_)
    · skip
      obtain ⟨hii, hrs⟩ := x_rp_0 h19
      rw [hrs]
      refine q_aload_n dX11_at_25 rfl ?_
      refine q_aload_n dX11_at_26 rfl ?_
      refine q_get (v := .ref ((32 + 2 * r.toNat) + 1)) fX11_72_7 (x_rO (x_isR_rows hr0 hr1)) rfl dX11_at_27 ?_
      refine q_iload_n dX11_at_30 rfl ?_
      refine q_iald (f := (ξ ((32 + 2 * r.toNat) + 1))) (n9 := 40) (x_rP (x_isR_rows hr0 hr1)) (by omega) (by omega) dX11_at_31 ?_ (by rcases ((x_isR_rows hr0 hr1)).n with q | q <;> omega)
      refine q_cVv [q_i ((ξ ((32 + 2 * r.toNat) + 1)) i)] kX11_75_11 rfl (tX11_tellNumber w ξ B P g ((ξ ((32 + 2 * r.toNat) + 1)) i)) dX11_at_32 rfl (by decide) (Nat.le_of_ble_eq_true rfl) rfl ?_
      refine q_iconst dX11_at_35 ?_
      exact q_iret rfl dX11_at_36 (⟨by unfold m_lay_v; rw [← hR.rpv hr0 hr1 i, if_pos h19], _, rfl, by unfold m_at_s; rw [← hR.rpv hr0 hr1 i, if_pos h19]; exact by (rw [hR.ri hr0 hr1 (by omega) (by omega)]; exact hR.tell _)⟩)
    · skip
      refine q_iload dX11_at_22 rfl ?_
      exact q_iret rfl dX11_at_24 (⟨by unfold m_lay_v; rw [← hR.rpv hr0 hr1 i, if_neg h19], _, rfl, by unfold m_at_s; rw [← hR.rpv hr0 hr1 i, if_neg h19]; exact hR.rps hr0 hr1 i⟩)
  · skip
    refine q_aload_n dX11_at_0 rfl ?_
    refine q_get (v := .ref 1) fX11_11_11 rfl rfl dX11_at_1 ?_
    refine q_iload_n dX11_at_4 rfl ?_
    refine q_cS [.ref 1, q_i r] kX11_60 (tX11_among_1n w ξ B P g r (hr) (by omega)) dX11_at_5 rfl (by decide) (Nat.le_of_ble_eq_true rfl) rfl ?_
    refine q_astore_nN (lv' := [some (.ref 0), some (q_i r), some (q_i i), some (.null), none]) dX11_at_8 (by decide) rfl ?_
    refine q_aload_n dX11_at_9 rfl ?_
    refine q_aload_nN dX11_at_10 rfl ?_
    refine q_iload_n dX11_at_11 rfl ?_
    refine q_cV [.null, q_i i] kX11_68_11 rfl (tX11_refusedPlace_n w ξ B P g i) dX11_at_12 rfl (by decide) (Nat.le_of_ble_eq_true rfl) rfl ?_
    refine q_istore (lv' := [some (.ref 0), some (q_i r), some (q_i i), some (.null), some (q_i (-1))]) dX11_at_15 (by decide) rfl ?_
    refine q_iload dX11_at_17 rfl ?_
    refine q_if_eq (tgt := 25) dX11_at_19 (by decide) ⟨by decide, by decide⟩ (fun h19 => False.elim (by omega)) (fun h19 => ?_)
    refine q_iload dX11_at_22 rfl ?_
    exact q_iret rfl dX11_at_24 (⟨by unfold m_lay_v; rw [(m_ref_no (by omega)).1]; rfl, _, rfl, by unfold m_at_s; rw [(m_ref_no (μ := μ) (i := i) (by omega)).1, if_neg (by decide), (m_ref_no (by omega)).2]; exact hR⟩)
set_option maxRecDepth 20000 in
theorem tX11_tear (w : q_W) (μ ξ : m_S) (B P : Nat) (g : Int → Option Nat) (hR : z_R μ ξ B P g) (r : Int) (hr : q_r r) : q_T mX11_tear 2 0 0 [.ref 0, q_i r] (x_w w ξ B P g) (z_Q w B P g (q_i (m_tear_v μ r)) (m_tear_s μ r)) := by
  refine q_T.of (lv := [some (.ref 0), some (q_i r), none, none]) (by decide) rfl (Nat.le_of_ble_eq_true rfl) ?_
  by_cases hq0 : 0 ≤ r ∧ r < 6
  · skip
    obtain ⟨hr0, hr1⟩ := hq0
    have hzr := hR.rz (r := r) hr0 hr1
    refine q_aload_n dX11_tear_0 rfl ?_
    refine q_get (v := .ref 1) fX11_11_11 rfl rfl dX11_tear_1 ?_
    refine q_iload_n dX11_tear_4 rfl ?_
    refine q_cS [.ref 1, q_i r] kX11_60 (tX11_among_1y w ξ B P g r (by omega) (by omega)) dX11_tear_5 rfl (by decide) (Nat.le_of_ble_eq_true rfl) rfl ?_
    refine q_astore_n (lv' := [some (.ref 0), some (q_i r), some (.ref (32 + 2 * r.toNat)), none]) dX11_tear_8 (by decide) rfl ?_
    refine q_aload_n dX11_tear_9 rfl ?_
    refine q_aload_n dX11_tear_10 rfl ?_
    refine q_cV [.ref (32 + 2 * r.toNat)] kX11_78_11 rfl (tX11_refusedRow w ξ B P g (32 + 2 * r.toNat) 40 (x_isR_rows hr0 hr1) (by omega)) dX11_tear_11 rfl (by decide) (Nat.le_of_ble_eq_true rfl) rfl ?_
    refine q_istore_n (lv' := [some (.ref 0), some (q_i r), some (.ref (32 + 2 * r.toNat)), some (q_i (x_rr_v ξ (32 + 2 * r.toNat)))]) dX11_tear_14 (by decide) rfl ?_
    refine q_iload_n dX11_tear_15 rfl ?_
    refine q_if_eq (tgt := 21) dX11_tear_16 (by decide) (x_rr_r ξ _) (fun h16 => ?_) (fun h16 => ?_)
    · skip
      obtain ⟨hii, hrs⟩ := x_rr_0 h16
      rw [hrs]
      refine q_aload_n dX11_tear_21 rfl ?_
      refine q_iconst dX11_tear_22 ?_
      refine q_puti (fs := [.ref ((32 + 2 * r.toNat) + 1), q_i (ξ (32 + 2 * r.toNat) 1)]) pX11_82_7 (x_rO (x_isR_rows hr0 hr1)) (Nat.le_of_ble_eq_true rfl) dX11_tear_23 ?_
      refine q_Jeq rfl rfl (x_rO_u (x_isR_rows hr0 hr1) _) ?_
      refine q_iconst dX11_tear_26 ?_
      exact q_iret rfl dX11_tear_27 (⟨by unfold m_tear_v; (repeat first | rw [if_pos (by omega)] | rw [if_neg (by omega)]), _, rfl, by unfold m_tear_s; (repeat first | rw [if_pos (by omega)] | rw [if_neg (by omega)]); exact hR.tear hr0 hr1⟩)
    · skip
      obtain ⟨hx1, hx2, hx3⟩ := x_rr_ne h16
      rw [hx2, hx3]
      refine q_iload_n dX11_tear_19 rfl ?_
      exact q_iret rfl dX11_tear_20 (⟨by unfold m_tear_v; (repeat first | rw [if_pos (by omega)] | rw [if_neg (by omega)]), _, rfl, by unfold m_tear_s; (repeat first | rw [if_pos (by omega)] | rw [if_neg (by omega)]); exact hR.find 1⟩)
  · skip
    refine q_aload_n dX11_tear_0 rfl ?_
    refine q_get (v := .ref 1) fX11_11_11 rfl rfl dX11_tear_1 ?_
    refine q_iload_n dX11_tear_4 rfl ?_
    refine q_cS [.ref 1, q_i r] kX11_60 (tX11_among_1n w ξ B P g r (hr) (by omega)) dX11_tear_5 rfl (by decide) (Nat.le_of_ble_eq_true rfl) rfl ?_
    refine q_astore_nN (lv' := [some (.ref 0), some (q_i r), some (.null), none]) dX11_tear_8 (by decide) rfl ?_
    refine q_aload_n dX11_tear_9 rfl ?_
    refine q_aload_nN dX11_tear_10 rfl ?_
    refine q_cV [.null] kX11_78_11 rfl (tX11_refusedRow_n w ξ B P g) dX11_tear_11 rfl (by decide) (Nat.le_of_ble_eq_true rfl) rfl ?_
    refine q_istore_n (lv' := [some (.ref 0), some (q_i r), some (.null), some (q_i (-1))]) dX11_tear_14 (by decide) rfl ?_
    refine q_iload_n dX11_tear_15 rfl ?_
    refine q_if_eq (tgt := 21) dX11_tear_16 (by decide) ⟨by decide, by decide⟩ (fun h16 => False.elim (by omega)) (fun h16 => ?_)
    refine q_iload_n dX11_tear_19 rfl ?_
    exact q_iret rfl dX11_tear_20 (⟨by unfold m_tear_v; (repeat first | rw [if_pos (by omega)] | rw [if_neg (by omega)]), _, rfl, by unfold m_tear_s; (repeat first | rw [if_pos (by omega)] | rw [if_neg (by omega)]); exact hR⟩)
theorem z_R.rsum {μ ξ : m_S} {B P : Nat} {g : Int → Option Nat} (h : z_R μ ξ B P g) {r : Int} (h0 : 0 ≤ r) (h1 : r < 6) : z_sum (ξ (32 + 2 * r.toNat + 1)) (ξ (32 + 2 * r.toNat) 1) = z_sum (fun j => μ 8 (40 * r + j)) (μ 7 r) := by
  rw [(h.rz h0 h1).2]
  exact z_sum_c (fun j a0 a1 => h.ri h0 h1 a0 a1)
set_option maxRecDepth 20000 in
theorem tX11_mean (w : q_W) (μ ξ : m_S) (B P : Nat) (g : Int → Option Nat) (hR : z_R μ ξ B P g) (r : Int) (hr : q_r r) : q_T mX11_mean 2 0 0 [.ref 0, q_i r] (x_w w ξ B P g) (z_Q w B P g (q_i (m_mean_v μ r)) (m_mean_s μ r)) := by
  refine q_T.of (lv := [some (.ref 0), some (q_i r), none, none]) (by decide) rfl (Nat.le_of_ble_eq_true rfl) ?_
  by_cases hq0 : 0 ≤ r ∧ r < 6
  · skip
    obtain ⟨hr0, hr1⟩ := hq0
    have hzr := hR.rz (r := r) hr0 hr1
    refine q_aload_n dX11_mean_0 rfl ?_
    refine q_get (v := .ref 1) fX11_11_11 rfl rfl dX11_mean_1 ?_
    refine q_iload_n dX11_mean_4 rfl ?_
    refine q_cS [.ref 1, q_i r] kX11_60 (tX11_among_1y w ξ B P g r (by omega) (by omega)) dX11_mean_5 rfl (by decide) (Nat.le_of_ble_eq_true rfl) rfl ?_
    refine q_astore_n (lv' := [some (.ref 0), some (q_i r), some (.ref (32 + 2 * r.toNat)), none]) dX11_mean_8 (by decide) rfl ?_
    refine q_aload_n dX11_mean_9 rfl ?_
    refine q_aload_n dX11_mean_10 rfl ?_
    refine q_cV [.ref (32 + 2 * r.toNat)] kX11_78_11 rfl (tX11_refusedRow w ξ B P g (32 + 2 * r.toNat) 40 (x_isR_rows hr0 hr1) (by omega)) dX11_mean_11 rfl (by decide) (Nat.le_of_ble_eq_true rfl) rfl ?_
    refine q_istore_n (lv' := [some (.ref 0), some (q_i r), some (.ref (32 + 2 * r.toNat)), some (q_i (x_rr_v ξ (32 + 2 * r.toNat)))]) dX11_mean_14 (by decide) rfl ?_
    refine q_iload_n dX11_mean_15 rfl ?_
    refine q_if_eq (tgt := 21) dX11_mean_16 (by decide) (x_rr_r ξ _) (fun h16 => ?_) (fun h16 => ?_)
    · skip
      obtain ⟨hii, hrs⟩ := x_rr_0 h16
      rw [hrs]
      refine q_aload_n dX11_mean_21 rfl ?_
      refine q_get (v := q_i (ξ (32 + 2 * r.toNat) 1)) fX11_82_7 (x_rO (x_isR_rows hr0 hr1)) rfl dX11_mean_22 ?_
      refine q_if_ne (tgt := 34) dX11_mean_25 (by decide) ⟨by omega, by omega⟩ (fun h25 => ?_) (fun h25 => ?_)
      · skip
        refine q_aload_n dX11_mean_34 rfl ?_
        refine q_aload_n dX11_mean_35 rfl ?_
        refine q_cV [] kX11_103_7 (x_rO (x_isR_rows hr0 hr1)) (tX7_sum w ξ B P g (32 + 2 * r.toNat) 40 (x_isR_rows hr0 hr1) (by omega) (by omega) (by omega) (fun j a0 a1 => by rw [hR.ri hr0 hr1 a0 (by omega)]; exact hR.I.it _)) dX11_mean_36 rfl (by decide) (Nat.le_of_ble_eq_true rfl) rfl ?_
        have hsu := hR.rsum hr0 hr1
        have hsr := m_sum_r hR.I r (n := μ 7 r) (by omega) (by omega)
        rw [← hsu] at hsr
        refine q_aload_n dX11_mean_39 rfl ?_
        refine q_get (v := q_i (ξ (32 + 2 * r.toNat) 1)) fX11_82_7 (x_rO (x_isR_rows hr0 hr1)) rfl dX11_mean_40 ?_
        refine q_i2lr dX11_mean_43 ⟨by omega, by omega⟩ ?_
        refine q_ldiv dX11_mean_44 hsr ⟨by omega, by omega⟩ (by omega) (by omega) ?_
        refine q_l2i dX11_mean_45 ?_
        refine q_cVv [q_i (((z_sum (ξ ((32 + 2 * r.toNat) + 1)) (ξ (32 + 2 * r.toNat) 1))).tdiv (ξ (32 + 2 * r.toNat) 1))] kX11_75_11 rfl (tX11_tellNumber w ξ B P g (((z_sum (ξ ((32 + 2 * r.toNat) + 1)) (ξ (32 + 2 * r.toNat) 1))).tdiv (ξ (32 + 2 * r.toNat) 1))) dX11_mean_46 rfl (by decide) (Nat.le_of_ble_eq_true rfl) rfl ?_
        refine q_iconst dX11_mean_49 ?_
        exact q_iret rfl dX11_mean_50 (⟨by unfold m_mean_v; (repeat first | rw [if_pos (by omega)] | rw [if_neg (by omega)]), _, rfl, by unfold m_mean_s; (repeat first | rw [if_pos (by omega)] | rw [if_neg (by omega)]); exact (by unfold m_mean; rw [← hsu, ← hzr.2]; exact hR.tell _)⟩)
      · skip
        refine q_aload_n dX11_mean_28 rfl ?_
        refine q_iconst dX11_mean_29 ?_
        refine q_cV [q_i 4] kX11_85_11 rfl (tX11_found w ξ B P g 4 (by decide) (by decide)) dX11_mean_30 rfl (by decide) (Nat.le_of_ble_eq_true rfl) rfl ?_
        exact q_iret rfl dX11_mean_33 (⟨by unfold m_mean_v; (repeat first | rw [if_pos (by omega)] | rw [if_neg (by omega)]), _, rfl, by unfold m_mean_s; (repeat first | rw [if_pos (by omega)] | rw [if_neg (by omega)]); exact hR.find 4⟩)
    · skip
      obtain ⟨hx1, hx2, hx3⟩ := x_rr_ne h16
      rw [hx2, hx3]
      refine q_iload_n dX11_mean_19 rfl ?_
      exact q_iret rfl dX11_mean_20 (⟨by unfold m_mean_v; (repeat first | rw [if_pos (by omega)] | rw [if_neg (by omega)]), _, rfl, by unfold m_mean_s; (repeat first | rw [if_pos (by omega)] | rw [if_neg (by omega)]); exact hR.find 1⟩)
  · skip
    refine q_aload_n dX11_mean_0 rfl ?_
    refine q_get (v := .ref 1) fX11_11_11 rfl rfl dX11_mean_1 ?_
    refine q_iload_n dX11_mean_4 rfl ?_
    refine q_cS [.ref 1, q_i r] kX11_60 (tX11_among_1n w ξ B P g r (hr) (by omega)) dX11_mean_5 rfl (by decide) (Nat.le_of_ble_eq_true rfl) rfl ?_
    refine q_astore_nN (lv' := [some (.ref 0), some (q_i r), some (.null), none]) dX11_mean_8 (by decide) rfl ?_
    refine q_aload_n dX11_mean_9 rfl ?_
    refine q_aload_nN dX11_mean_10 rfl ?_
    refine q_cV [.null] kX11_78_11 rfl (tX11_refusedRow_n w ξ B P g) dX11_mean_11 rfl (by decide) (Nat.le_of_ble_eq_true rfl) rfl ?_
    refine q_istore_n (lv' := [some (.ref 0), some (q_i r), some (.null), some (q_i (-1))]) dX11_mean_14 (by decide) rfl ?_
    refine q_iload_n dX11_mean_15 rfl ?_
    refine q_if_eq (tgt := 21) dX11_mean_16 (by decide) ⟨by decide, by decide⟩ (fun h16 => False.elim (by omega)) (fun h16 => ?_)
    refine q_iload_n dX11_mean_19 rfl ?_
    exact q_iret rfl dX11_mean_20 (⟨by unfold m_mean_v; (repeat first | rw [if_pos (by omega)] | rw [if_neg (by omega)]), _, rfl, by unfold m_mean_s; (repeat first | rw [if_pos (by omega)] | rw [if_neg (by omega)]); exact hR⟩)
set_option maxRecDepth 20000 in
theorem tX11_put (w : q_W) (μ ξ : m_S) (B P : Nat) (g : Int → Option Nat) (hR : z_R μ ξ B P g) (r i v : Int) (hr : q_r r) (hi : q_r i) (hv : q_r v) : q_T mX11_put 3 0 0 [.ref 0, q_i r, q_i i, q_i v] (x_w w ξ B P g) (z_Q w B P g (q_i (m_put_v μ r i)) (m_put_s μ r i v)) := by
  refine q_T.of (lv := [some (.ref 0), some (q_i r), some (q_i i), some (q_i v), none, none, none]) (by decide) rfl (Nat.le_of_ble_eq_true rfl) ?_
  by_cases hq0 : 0 ≤ r ∧ r < 4
  · skip
    obtain ⟨hr0, hr1⟩ := hq0
    have hzr := hR.tz (r := r) hr0 hr1
    refine q_aload_n dX11_put_0 rfl ?_
    refine q_get (v := .ref 2) fX11_15_11 rfl rfl dX11_put_1 ?_
    refine q_iload_n dX11_put_4 rfl ?_
    refine q_cS [.ref 2, q_i r] kX11_60 (tX11_among_2y w ξ B P g r (by omega) (by omega)) dX11_put_5 rfl (by decide) (Nat.le_of_ble_eq_true rfl) rfl ?_
    refine q_astore (lv' := [some (.ref 0), some (q_i r), some (q_i i), some (q_i v), some (.ref (44 + 2 * r.toNat)), none, none]) dX11_put_8 (by decide) rfl ?_
    refine q_aload_n dX11_put_10 rfl ?_
    refine q_aload dX11_put_11 rfl ?_
    refine q_iload_n dX11_put_13 rfl ?_
    refine q_cV [.ref (44 + 2 * r.toNat), q_i i] kX11_68_11 rfl (tX11_refusedPlace w ξ B P g (44 + 2 * r.toNat) 60 (x_isR_texts hr0 hr1) (by omega) i (hi)) dX11_put_14 rfl (by decide) (Nat.le_of_ble_eq_true rfl) rfl ?_
    refine q_istore (lv' := [some (.ref 0), some (q_i r), some (q_i i), some (q_i v), some (.ref (44 + 2 * r.toNat)), some (q_i (x_rp_v ξ (44 + 2 * r.toNat) i)), none]) dX11_put_17 (by decide) rfl ?_
    refine q_iload dX11_put_19 rfl ?_
    refine q_if_eq (tgt := 27) dX11_put_21 (by decide) (x_rp_r ξ _ i) (fun h21 => ?_) (fun h21 => ?_)
    · skip
      obtain ⟨hii, hrs⟩ := x_rp_0 h21
      rw [hrs]
      refine q_aload dX11_put_27 rfl ?_
      refine q_get (v := .ref ((44 + 2 * r.toNat) + 1)) fX11_72_7 (x_rO (x_isR_texts hr0 hr1)) rfl dX11_put_29 ?_
      refine q_iload_n dX11_put_32 rfl ?_
      refine q_iald (f := (ξ ((44 + 2 * r.toNat) + 1))) (n9 := 60) (x_rP (x_isR_texts hr0 hr1)) (by omega) (by omega) dX11_put_33 ?_ (by rcases ((x_isR_texts hr0 hr1)).n with q | q <;> omega)
      refine q_istore (lv' := [some (.ref 0), some (q_i r), some (q_i i), some (q_i v), some (.ref (44 + 2 * r.toNat)), some (q_i (x_rp_v ξ (44 + 2 * r.toNat) i)), some (q_i ((ξ ((44 + 2 * r.toNat) + 1)) i))]) dX11_put_34 (by decide) rfl ?_
      refine q_aload dX11_put_36 rfl ?_
      refine q_get (v := .ref ((44 + 2 * r.toNat) + 1)) fX11_72_7 (x_rO (x_isR_texts hr0 hr1)) rfl dX11_put_38 ?_
      refine q_iload_n dX11_put_41 rfl ?_
      refine q_iload_n dX11_put_42 rfl ?_
      refine q_i2b dX11_put_43 hv ?_
      refine q_iast (f := (ξ ((44 + 2 * r.toNat) + 1))) (n9 := 60) (x_rP (x_isR_texts hr0 hr1)) (by omega) (by omega) dX11_put_44 ?_ (by rcases ((x_isR_texts hr0 hr1)).n with q | q <;> omega)
      refine q_Jeq rfl rfl (x_rP_u (x_isR_texts hr0 hr1) _) ?_
      refine q_iload dX11_put_45 rfl ?_
      refine q_sipush dX11_put_47 ?_
      refine q_iadd dX11_put_50 ?_
      exact q_iret rfl dX11_put_51 (⟨by unfold m_put_v; (repeat first | rw [if_pos (by omega)] | rw [if_neg (by omega)]); rw [← hR.ti hr0 hr1 (by omega) (by omega)], _, rfl, by unfold m_put_s; (repeat first | rw [if_pos (by omega)] | rw [if_neg (by omega)]); exact hR.put hr0 hr1 (by omega) (by omega)⟩)
    · skip
      rcases x_rp_ne h21 with ⟨hx1, hx2, hx3⟩ | ⟨hx1, hx2, hx3⟩
      · skip
        rw [hx2, hx3]
        refine q_iload dX11_put_24 rfl ?_
        exact q_iret rfl dX11_put_26 (⟨by unfold m_put_v; (repeat first | rw [if_pos (by omega)] | rw [if_neg (by omega)]), _, rfl, by unfold m_put_s; (repeat first | rw [if_pos (by omega)] | rw [if_neg (by omega)]); exact hR.find 1⟩)
      · skip
        rw [hx2, hx3]
        refine q_iload dX11_put_24 rfl ?_
        exact q_iret rfl dX11_put_26 (⟨by unfold m_put_v; (repeat first | rw [if_pos (by omega)] | rw [if_neg (by omega)]), _, rfl, by unfold m_put_s; (repeat first | rw [if_pos (by omega)] | rw [if_neg (by omega)]); exact hR.find 2⟩)
  · skip
    refine q_aload_n dX11_put_0 rfl ?_
    refine q_get (v := .ref 2) fX11_15_11 rfl rfl dX11_put_1 ?_
    refine q_iload_n dX11_put_4 rfl ?_
    refine q_cS [.ref 2, q_i r] kX11_60 (tX11_among_2n w ξ B P g r (hr) (by omega)) dX11_put_5 rfl (by decide) (Nat.le_of_ble_eq_true rfl) rfl ?_
    refine q_astoreN (lv' := [some (.ref 0), some (q_i r), some (q_i i), some (q_i v), some (.null), none, none]) dX11_put_8 (by decide) rfl ?_
    refine q_aload_n dX11_put_10 rfl ?_
    refine q_aloadN dX11_put_11 rfl ?_
    refine q_iload_n dX11_put_13 rfl ?_
    refine q_cV [.null, q_i i] kX11_68_11 rfl (tX11_refusedPlace_n w ξ B P g i) dX11_put_14 rfl (by decide) (Nat.le_of_ble_eq_true rfl) rfl ?_
    refine q_istore (lv' := [some (.ref 0), some (q_i r), some (q_i i), some (q_i v), some (.null), some (q_i (-1)), none]) dX11_put_17 (by decide) rfl ?_
    refine q_iload dX11_put_19 rfl ?_
    refine q_if_eq (tgt := 27) dX11_put_21 (by decide) ⟨by decide, by decide⟩ (fun h21 => False.elim (by omega)) (fun h21 => ?_)
    refine q_iload dX11_put_24 rfl ?_
    exact q_iret rfl dX11_put_26 (⟨by unfold m_put_v; (repeat first | rw [if_pos (by omega)] | rw [if_neg (by omega)]), _, rfl, by unfold m_put_s; (repeat first | rw [if_pos (by omega)] | rw [if_neg (by omega)]); exact hR⟩)
set_option maxRecDepth 20000 in
theorem tX11_copy (w : q_W) (μ ξ : m_S) (B P : Nat) (g : Int → Option Nat) (hR : z_R μ ξ B P g) (r i t j n : Int) (hr : q_r r) (hi : q_r i) (ht : q_r t) (hj : q_r j) (hn : q_r n) : q_T mX11_copy 2 0 0 [.ref 0, q_i r, q_i i, q_i t, q_i j, q_i n] (x_w w ξ B P g) (z_Q w B P g (q_i (m_copy_v μ r i t j n)) (m_copy_s μ r i t j n)) := by
  refine q_T.of (lv := [some (.ref 0), some (q_i r), some (q_i i), some (q_i t), some (q_i j), some (q_i n), none, none]) (by decide) rfl (Nat.le_of_ble_eq_true rfl) ?_
  by_cases hq0 : 0 ≤ r ∧ r < 6
  · skip
    obtain ⟨hr0, hr1⟩ := hq0
    have hzr := hR.rz (r := r) hr0 hr1
    by_cases hq0t : 0 ≤ t ∧ t < 6
    · skip
      obtain ⟨ht0, ht1⟩ := hq0t
      have hzt := hR.rz (r := t) ht0 ht1
      refine q_aload_n dX11_copy_0 rfl ?_
      refine q_get (v := .ref 1) fX11_11_11 rfl rfl dX11_copy_1 ?_
      refine q_iload_n dX11_copy_4 rfl ?_
      refine q_cS [.ref 1, q_i r] kX11_60 (tX11_among_1y w ξ B P g r (by omega) (by omega)) dX11_copy_5 rfl (by decide) (Nat.le_of_ble_eq_true rfl) rfl ?_
      refine q_astore (lv' := [some (.ref 0), some (q_i r), some (q_i i), some (q_i t), some (q_i j), some (q_i n), some (.ref (32 + 2 * r.toNat)), none]) dX11_copy_8 (by decide) rfl ?_
      refine q_aload_n dX11_copy_10 rfl ?_
      refine q_get (v := .ref 1) fX11_11_11 rfl rfl dX11_copy_11 ?_
      refine q_iload_n dX11_copy_14 rfl ?_
      refine q_cS [.ref 1, q_i t] kX11_60 (tX11_among_1y w ξ B P g t (by omega) (by omega)) dX11_copy_15 rfl (by decide) (Nat.le_of_ble_eq_true rfl) rfl ?_
      refine q_astore (lv' := [some (.ref 0), some (q_i r), some (q_i i), some (q_i t), some (q_i j), some (q_i n), some (.ref (32 + 2 * r.toNat)), some (.ref (32 + 2 * t.toNat))]) dX11_copy_18 (by decide) rfl ?_
      refine q_aload dX11_copy_20 rfl ?_
      refine q_ifnullS dX11_copy_22 ?_
      refine q_aload dX11_copy_25 rfl ?_
      refine q_ifnonnullS (tgt := 32) dX11_copy_27 (by decide) ?_
      refine q_iload dX11_copy_32 rfl ?_
      refine q_if_ge (tgt := 43) dX11_copy_34 (by decide) hn (fun h34 => ?_) (fun h34 => ?_)
      · skip
        refine q_aload dX11_copy_43 rfl ?_
        refine q_cV [] kX11_89_7 (x_rO (x_isR_rows hr0 hr1)) (tX7_isMissing w ξ B P g (32 + 2 * r.toNat) 40 (x_isR_rows hr0 hr1) (by omega)) dX11_copy_45 rfl (by decide) (Nat.le_of_ble_eq_true rfl) rfl ?_
        refine q_ifb_ne (tgt := 59) dX11_copy_48 (by decide) (fun h48 => ?_) (fun h48 => ?_)
        · skip
          refine q_aload_n dX11_copy_59 rfl ?_
          refine q_iconst dX11_copy_60 ?_
          refine q_cV [q_i 1] kX11_85_11 rfl (tX11_found w ξ B P g 1 (by decide) (by decide)) dX11_copy_61 rfl (by decide) (Nat.le_of_ble_eq_true rfl) rfl ?_
          exact q_iret rfl dX11_copy_64 (⟨by unfold m_copy_v; (repeat first | rw [if_pos (by omega)] | rw [if_neg (by omega)]), _, rfl, by unfold m_copy_s; (repeat first | rw [if_pos (by omega)] | rw [if_neg (by omega)]); exact hR.find 1⟩)
        · skip
          refine q_aload dX11_copy_51 rfl ?_
          refine q_cV [] kX11_89_7 (x_rO (x_isR_rows ht0 ht1)) (tX7_isMissing w ξ B P g (32 + 2 * t.toNat) 40 (x_isR_rows ht0 ht1) (by omega)) dX11_copy_53 rfl (by decide) (Nat.le_of_ble_eq_true rfl) rfl ?_
          refine q_ifb_eq (tgt := 65) dX11_copy_56 (by decide) (fun h56 => ?_) (fun h56 => ?_)
          · skip
            refine q_aload dX11_copy_65 rfl ?_
            refine q_iload_n dX11_copy_67 rfl ?_
            refine q_iload dX11_copy_68 rfl ?_
            refine q_cV [q_i i, q_i n] kX11_93_7 (x_rO (x_isR_rows hr0 hr1)) (tX7_hasRun w ξ B P g (32 + 2 * r.toNat) 40 (x_isR_rows hr0 hr1) (by omega) i n hi hn) dX11_copy_70 rfl (by decide) (Nat.le_of_ble_eq_true rfl) rfl ?_
            refine q_ifb_eq (tgt := 88) dX11_copy_73 (by decide) (fun h73 => ?_) (fun h73 => ?_)
            · skip
              refine q_aload_n dX11_copy_88 rfl ?_
              refine q_iconst dX11_copy_89 ?_
              refine q_cV [q_i 2] kX11_85_11 rfl (tX11_found w ξ B P g 2 (by decide) (by decide)) dX11_copy_90 rfl (by decide) (Nat.le_of_ble_eq_true rfl) rfl ?_
              exact q_iret rfl dX11_copy_93 (⟨by unfold m_copy_v; (repeat first | rw [if_pos (by omega)] | rw [if_neg (by omega)]), _, rfl, by unfold m_copy_s; (repeat first | rw [if_pos (by omega)] | rw [if_neg (by omega)]); exact hR.find 2⟩)
            · skip
              refine q_aload dX11_copy_76 rfl ?_
              refine q_iload dX11_copy_78 rfl ?_
              refine q_iload dX11_copy_80 rfl ?_
              refine q_cV [q_i j, q_i n] kX11_93_7 (x_rO (x_isR_rows ht0 ht1)) (tX7_hasRun w ξ B P g (32 + 2 * t.toNat) 40 (x_isR_rows ht0 ht1) (by omega) j n hj hn) dX11_copy_82 rfl (by decide) (Nat.le_of_ble_eq_true rfl) rfl ?_
              refine q_ifb_ne (tgt := 94) dX11_copy_85 (by decide) (fun h85 => ?_) (fun h85 => ?_)
              · skip
                refine q_aload dX11_copy_94 rfl ?_
                refine q_get (v := .ref ((32 + 2 * r.toNat) + 1)) fX11_72_7 (x_rO (x_isR_rows hr0 hr1)) rfl dX11_copy_96 ?_
                refine q_iload_n dX11_copy_99 rfl ?_
                refine q_aload dX11_copy_100 rfl ?_
                refine q_get (v := .ref ((32 + 2 * t.toNat) + 1)) fX11_72_7 (x_rO (x_isR_rows ht0 ht1)) rfl dX11_copy_102 ?_
                refine q_iload dX11_copy_105 rfl ?_
                refine q_iload dX11_copy_107 rfl ?_
                refine q_copyi wd_334 wd_336 wd_335 wd_70 (x_rP (x_isR_rows hr0 hr1)) (x_rP (x_isR_rows ht0 ht1)) (by omega) (by omega) (by omega) (by omega) (by omega) (by decide) (Nat.le_of_ble_eq_true rfl) dX11_copy_109 ?_
                refine q_Jeq rfl rfl (x_rP_u (x_isR_rows ht0 ht1) _) ?_
                refine q_iconst dX11_copy_112 ?_
                exact q_iret rfl dX11_copy_113 (⟨by unfold m_copy_v; (repeat first | rw [if_pos (by omega)] | rw [if_neg (by omega)]), _, rfl, by unfold m_copy_s; (repeat first | rw [if_pos (by omega)] | rw [if_neg (by omega)]); exact hR.copy hr0 hr1 ht0 ht1 (by omega) (by omega) (by omega)⟩)
              · skip
                refine q_aload_n dX11_copy_88 rfl ?_
                refine q_iconst dX11_copy_89 ?_
                refine q_cV [q_i 2] kX11_85_11 rfl (tX11_found w ξ B P g 2 (by decide) (by decide)) dX11_copy_90 rfl (by decide) (Nat.le_of_ble_eq_true rfl) rfl ?_
                exact q_iret rfl dX11_copy_93 (⟨by unfold m_copy_v; (repeat first | rw [if_pos (by omega)] | rw [if_neg (by omega)]), _, rfl, by unfold m_copy_s; (repeat first | rw [if_pos (by omega)] | rw [if_neg (by omega)]); exact hR.find 2⟩)
          · skip
            refine q_aload_n dX11_copy_59 rfl ?_
            refine q_iconst dX11_copy_60 ?_
            refine q_cV [q_i 1] kX11_85_11 rfl (tX11_found w ξ B P g 1 (by decide) (by decide)) dX11_copy_61 rfl (by decide) (Nat.le_of_ble_eq_true rfl) rfl ?_
            exact q_iret rfl dX11_copy_64 (⟨by unfold m_copy_v; (repeat first | rw [if_pos (by omega)] | rw [if_neg (by omega)]), _, rfl, by unfold m_copy_s; (repeat first | rw [if_pos (by omega)] | rw [if_neg (by omega)]); exact hR.find 1⟩)
      · skip
        refine q_aload_n dX11_copy_37 rfl ?_
        refine q_iconst dX11_copy_38 ?_
        refine q_cV [q_i 5] kX11_85_11 rfl (tX11_found w ξ B P g 5 (by decide) (by decide)) dX11_copy_39 rfl (by decide) (Nat.le_of_ble_eq_true rfl) rfl ?_
        exact q_iret rfl dX11_copy_42 (⟨by unfold m_copy_v; (repeat first | rw [if_pos (by omega)] | rw [if_neg (by omega)]), _, rfl, by unfold m_copy_s; (repeat first | rw [if_pos (by omega)] | rw [if_neg (by omega)]); exact hR.find 5⟩)
    · skip
      refine q_aload_n dX11_copy_0 rfl ?_
      refine q_get (v := .ref 1) fX11_11_11 rfl rfl dX11_copy_1 ?_
      refine q_iload_n dX11_copy_4 rfl ?_
      refine q_cS [.ref 1, q_i r] kX11_60 (tX11_among_1y w ξ B P g r (by omega) (by omega)) dX11_copy_5 rfl (by decide) (Nat.le_of_ble_eq_true rfl) rfl ?_
      refine q_astore (lv' := [some (.ref 0), some (q_i r), some (q_i i), some (q_i t), some (q_i j), some (q_i n), some (.ref (32 + 2 * r.toNat)), none]) dX11_copy_8 (by decide) rfl ?_
      refine q_aload_n dX11_copy_10 rfl ?_
      refine q_get (v := .ref 1) fX11_11_11 rfl rfl dX11_copy_11 ?_
      refine q_iload_n dX11_copy_14 rfl ?_
      refine q_cS [.ref 1, q_i t] kX11_60 (tX11_among_1n w ξ B P g t (ht) (by omega)) dX11_copy_15 rfl (by decide) (Nat.le_of_ble_eq_true rfl) rfl ?_
      refine q_astoreN (lv' := [some (.ref 0), some (q_i r), some (q_i i), some (q_i t), some (q_i j), some (q_i n), some (.ref (32 + 2 * r.toNat)), some (.null)]) dX11_copy_18 (by decide) rfl ?_
      refine q_aload dX11_copy_20 rfl ?_
      refine q_ifnullS dX11_copy_22 ?_
      refine q_aloadN dX11_copy_25 rfl ?_
      refine q_ifnonnullN dX11_copy_27 ?_
      refine q_iconst dX11_copy_30 ?_
      exact q_iret rfl dX11_copy_31 (⟨by unfold m_copy_v; (repeat first | rw [if_pos (by omega)] | rw [if_neg (by omega)]), _, rfl, by unfold m_copy_s; (repeat first | rw [if_pos (by omega)] | rw [if_neg (by omega)]); exact hR⟩)
  · skip
    by_cases hq0t : 0 ≤ t ∧ t < 6
    · skip
      obtain ⟨ht0, ht1⟩ := hq0t
      have hzt := hR.rz (r := t) ht0 ht1
      refine q_aload_n dX11_copy_0 rfl ?_
      refine q_get (v := .ref 1) fX11_11_11 rfl rfl dX11_copy_1 ?_
      refine q_iload_n dX11_copy_4 rfl ?_
      refine q_cS [.ref 1, q_i r] kX11_60 (tX11_among_1n w ξ B P g r (hr) (by omega)) dX11_copy_5 rfl (by decide) (Nat.le_of_ble_eq_true rfl) rfl ?_
      refine q_astoreN (lv' := [some (.ref 0), some (q_i r), some (q_i i), some (q_i t), some (q_i j), some (q_i n), some (.null), none]) dX11_copy_8 (by decide) rfl ?_
      refine q_aload_n dX11_copy_10 rfl ?_
      refine q_get (v := .ref 1) fX11_11_11 rfl rfl dX11_copy_11 ?_
      refine q_iload_n dX11_copy_14 rfl ?_
      refine q_cS [.ref 1, q_i t] kX11_60 (tX11_among_1y w ξ B P g t (by omega) (by omega)) dX11_copy_15 rfl (by decide) (Nat.le_of_ble_eq_true rfl) rfl ?_
      refine q_astore (lv' := [some (.ref 0), some (q_i r), some (q_i i), some (q_i t), some (q_i j), some (q_i n), some (.null), some (.ref (32 + 2 * t.toNat))]) dX11_copy_18 (by decide) rfl ?_
      refine q_aloadN dX11_copy_20 rfl ?_
      refine q_ifnullN (tgt := 30) dX11_copy_22 (by decide) ?_
      refine q_iconst dX11_copy_30 ?_
      exact q_iret rfl dX11_copy_31 (⟨by unfold m_copy_v; (repeat first | rw [if_pos (by omega)] | rw [if_neg (by omega)]), _, rfl, by unfold m_copy_s; (repeat first | rw [if_pos (by omega)] | rw [if_neg (by omega)]); exact hR⟩)
    · skip
      refine q_aload_n dX11_copy_0 rfl ?_
      refine q_get (v := .ref 1) fX11_11_11 rfl rfl dX11_copy_1 ?_
      refine q_iload_n dX11_copy_4 rfl ?_
      refine q_cS [.ref 1, q_i r] kX11_60 (tX11_among_1n w ξ B P g r (hr) (by omega)) dX11_copy_5 rfl (by decide) (Nat.le_of_ble_eq_true rfl) rfl ?_
      refine q_astoreN (lv' := [some (.ref 0), some (q_i r), some (q_i i), some (q_i t), some (q_i j), some (q_i n), some (.null), none]) dX11_copy_8 (by decide) rfl ?_
      refine q_aload_n dX11_copy_10 rfl ?_
      refine q_get (v := .ref 1) fX11_11_11 rfl rfl dX11_copy_11 ?_
      refine q_iload_n dX11_copy_14 rfl ?_
      refine q_cS [.ref 1, q_i t] kX11_60 (tX11_among_1n w ξ B P g t (ht) (by omega)) dX11_copy_15 rfl (by decide) (Nat.le_of_ble_eq_true rfl) rfl ?_
      refine q_astoreN (lv' := [some (.ref 0), some (q_i r), some (q_i i), some (q_i t), some (q_i j), some (q_i n), some (.null), some (.null)]) dX11_copy_18 (by decide) rfl ?_
      refine q_aloadN dX11_copy_20 rfl ?_
      refine q_ifnullN (tgt := 30) dX11_copy_22 (by decide) ?_
      refine q_iconst dX11_copy_30 ?_
      exact q_iret rfl dX11_copy_31 (⟨by unfold m_copy_v; (repeat first | rw [if_pos (by omega)] | rw [if_neg (by omega)]), _, rfl, by unfold m_copy_s; (repeat first | rw [if_pos (by omega)] | rw [if_neg (by omega)]); exact hR⟩)
set_option maxRecDepth 20000 in
theorem tX11_asked (w : q_W) (μ ξ : m_S) (B P : Nat) (g : Int → Option Nat) (hR : z_R μ ξ B P g) : q_T mX11_asked 0 0 0 [.ref 0] (x_w w ξ B P g) (z_Q w B P g (q_i (μ 11 0)) μ) := by
  refine q_T.of (lv := [some (.ref 0)]) (by decide) rfl (Nat.le_of_ble_eq_true rfl) ?_
  refine q_aload_n dX11_asked_0 rfl ?_
  refine q_get (v := q_i (ξ 0 7)) fX11_46_11 rfl rfl dX11_asked_1 ?_
  exact q_iret rfl dX11_asked_4 (⟨by rw [hR.2.2.1.2.1], _, rfl, hR⟩)
set_option maxRecDepth 20000 in
theorem tX11_upper (w : q_W) (μ ξ : m_S) (B P : Nat) (g : Int → Option Nat) (hR : z_R μ ξ B P g) : q_T mX11_upper 0 0 0 [.ref 0] (x_w w ξ B P g) (z_Q w B P g (q_l (μ 12 0)) μ) := by
  refine q_T.of (lv := [some (.ref 0)]) (by decide) rfl (Nat.le_of_ble_eq_true rfl) ?_
  refine q_aload_n dX11_upper_0 rfl ?_
  refine q_get (v := q_l (ξ 0 8)) fX11_49_11 rfl rfl dX11_upper_1 ?_
  exact q_lret rfl dX11_upper_4 (⟨by rw [hR.2.2.1.2.2.1], _, rfl, hR⟩)
set_option maxRecDepth 20000 in
theorem tX11_lower (w : q_W) (μ ξ : m_S) (B P : Nat) (g : Int → Option Nat) (hR : z_R μ ξ B P g) : q_T mX11_lower 0 0 0 [.ref 0] (x_w w ξ B P g) (z_Q w B P g (q_l (μ 13 0)) μ) := by
  refine q_T.of (lv := [some (.ref 0)]) (by decide) rfl (Nat.le_of_ble_eq_true rfl) ?_
  refine q_aload_n dX11_lower_0 rfl ?_
  refine q_get (v := q_l (ξ 0 9)) fX11_53_11 rfl rfl dX11_lower_1 ?_
  exact q_lret rfl dX11_lower_4 (⟨by rw [hR.2.2.1.2.2.2.1], _, rfl, hR⟩)
set_option maxRecDepth 20000 in
theorem tX11_finding (w : q_W) (μ ξ : m_S) (B P : Nat) (g : Int → Option Nat) (hR : z_R μ ξ B P g) : q_T mX11_finding 0 0 0 [.ref 0] (x_w w ξ B P g) (z_Q w B P g (q_i (μ 14 0)) μ) := by
  refine q_T.of (lv := [some (.ref 0)]) (by decide) rfl (Nat.le_of_ble_eq_true rfl) ?_
  refine q_aload_n dX11_finding_0 rfl ?_
  refine q_get (v := q_i (ξ 0 6)) fX11_42_11 rfl rfl dX11_finding_1 ?_
  exact q_iret rfl dX11_finding_4 (⟨by rw [hR.2.2.1.1], _, rfl, hR⟩)
set_option maxRecDepth 20000 in
theorem tX11_findings (w : q_W) (μ ξ : m_S) (B P : Nat) (g : Int → Option Nat) (hR : z_R μ ξ B P g) (t : Int) (ht : q_r t) : q_T mX11_findings 0 0 0 [.ref 0, q_i t] (x_w w ξ B P g) (z_Q w B P g (q_i (m_findings_v μ t)) μ) := by
  refine q_T.of (lv := [some (.ref 0), some (q_i t)]) (by decide) rfl (Nat.le_of_ble_eq_true rfl) ?_
  refine q_iload_n dX11_findings_0 rfl ?_
  refine q_iconst dX11_findings_1 ?_
  refine q_icmp_lt (tgt := 10) dX11_findings_2 (by decide) ht ⟨by decide, by decide⟩ (fun h2 => ?_) (fun h2 => ?_)
  · skip
    refine q_iconst dX11_findings_10 ?_
    refine q_goto (tgt := 20) dX11_findings_11 (by decide) ?_
    exact q_iret rfl dX11_findings_20 (⟨by unfold m_findings_v; (repeat first | rw [if_pos (by omega)] | rw [if_neg (by omega)]), _, rfl, hR⟩)
  · skip
    refine q_iload_n dX11_findings_5 rfl ?_
    refine q_iconst dX11_findings_6 ?_
    refine q_icmp_le (tgt := 14) dX11_findings_7 (by decide) ht ⟨by decide, by decide⟩ (fun h7 => ?_) (fun h7 => ?_)
    · skip
      refine q_aload_n dX11_findings_14 rfl ?_
      refine q_get (v := .ref 31) fX11_38_11 rfl rfl dX11_findings_15 ?_
      refine q_iload_n dX11_findings_18 rfl ?_
      refine q_iald (f := (ξ 31)) (n9 := 6) rfl (by omega) (by omega) dX11_findings_19 ?_
      exact q_iret rfl dX11_findings_20 (⟨by unfold m_findings_v; (repeat first | rw [if_pos (by omega)] | rw [if_neg (by omega)]); rw [hR.2.2.1.2.2.2.2 t], _, rfl, hR⟩)
    · skip
      refine q_iconst dX11_findings_10 ?_
      refine q_goto (tgt := 20) dX11_findings_11 (by decide) ?_
      exact q_iret rfl dX11_findings_20 (⟨by unfold m_findings_v; (repeat first | rw [if_pos (by omega)] | rw [if_neg (by omega)]), _, rfl, hR⟩)
