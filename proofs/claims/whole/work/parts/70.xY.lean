/-! the class's calls, against the reference: fault -/
set_option maxRecDepth 20000 in
theorem tX11_fault (w : q_W) (μ ξ : m_S) (B P : Nat) (g : Int → Option Nat) (hR : z_R μ ξ B P g) (r : Int) (hr : q_r r) : q_T mX11_fault 5 0 0 [.ref 0, q_i r] (x_w w ξ B P g) (z_Q w B P g (q_i (m_fault_v μ r)) (m_fault_s μ r)) := by
  refine q_T.of (lv := [some (.ref 0), some (q_i r), none, none]) (by decide) rfl (Nat.le_of_ble_eq_true rfl) ?_
  by_cases hq0 : 0 ≤ r ∧ r < 4
  · skip
    obtain ⟨hr0, hr1⟩ := hq0
    have hzr := hR.tz (r := r) hr0 hr1
    refine q_aload_n dX11_fault_0 rfl ?_
    refine q_get (v := .ref 2) fX11_15_11 rfl rfl dX11_fault_1 ?_
    refine q_iload_n dX11_fault_4 rfl ?_
    refine q_cS [.ref 2, q_i r] kX11_60 (tX11_among_2y w ξ B P g r (by omega) (by omega)) dX11_fault_5 rfl (by decide) (Nat.le_of_ble_eq_true rfl) rfl ?_
    refine q_astore_n (lv' := [some (.ref 0), some (q_i r), some (.ref (44 + 2 * r.toNat)), none]) dX11_fault_8 (by decide) rfl ?_
    refine q_aload_n dX11_fault_9 rfl ?_
    refine q_aload_n dX11_fault_10 rfl ?_
    refine q_cV [.ref (44 + 2 * r.toNat)] kX11_78_11 rfl (tX11_refusedRow w ξ B P g (44 + 2 * r.toNat) 60 (x_isR_texts hr0 hr1) (by omega)) dX11_fault_11 rfl (by decide) (Nat.le_of_ble_eq_true rfl) rfl ?_
    refine q_istore_n (lv' := [some (.ref 0), some (q_i r), some (.ref (44 + 2 * r.toNat)), some (q_i (x_rr_v ξ (44 + 2 * r.toNat)))]) dX11_fault_14 (by decide) rfl ?_
    refine q_iload_n dX11_fault_15 rfl ?_
    refine q_if_eq (tgt := 23) dX11_fault_16 (by decide) (x_rr_r ξ _) (fun h16 => ?_) (fun h16 => ?_)
    · skip
      obtain ⟨hii, hrs⟩ := x_rr_0 h16
      rw [hrs]
      refine q_aload_n dX11_fault_23 rfl ?_
      refine q_get (v := .ref 4) fX11_27_11 rfl rfl dX11_fault_24 ?_
      refine q_aload_n dX11_fault_27 rfl ?_
      refine q_cV [.ref (44 + 2 * r.toNat)] kX11_107_6 rfl (tX6_faultOf w ξ B P g (44 + 2 * r.toNat) (x_isR_texts hr0 hr1) (by omega) (hR.tb hr0 hr1)) dX11_fault_28 rfl (by decide) (Nat.le_of_ble_eq_true rfl) rfl ?_
      exact q_iret rfl dX11_fault_31 (⟨by unfold m_fault_v; (repeat first | rw [if_pos (by omega)] | rw [if_neg (by omega)]); rw [(hR.fo hr0 hr1 (by omega)).1], _, rfl, by unfold m_fault_s; (repeat first | rw [if_pos (by omega)] | rw [if_neg (by omega)]); exact hR.fos r _⟩)
    · skip
      obtain ⟨hx1, hx2, hx3⟩ := x_rr_ne h16
      rw [hx2, hx3]
      refine q_iload_n dX11_fault_19 rfl ?_
      refine q_goto (tgt := 31) dX11_fault_20 (by decide) ?_
      exact q_iret rfl dX11_fault_31 (⟨by unfold m_fault_v; (repeat first | rw [if_pos (by omega)] | rw [if_neg (by omega)]), _, rfl, by unfold m_fault_s; (repeat first | rw [if_pos (by omega)] | rw [if_neg (by omega)]); exact hR.find 1⟩)
  · skip
    refine q_aload_n dX11_fault_0 rfl ?_
    refine q_get (v := .ref 2) fX11_15_11 rfl rfl dX11_fault_1 ?_
    refine q_iload_n dX11_fault_4 rfl ?_
    refine q_cS [.ref 2, q_i r] kX11_60 (tX11_among_2n w ξ B P g r (hr) (by omega)) dX11_fault_5 rfl (by decide) (Nat.le_of_ble_eq_true rfl) rfl ?_
    refine q_astore_nN (lv' := [some (.ref 0), some (q_i r), some (.null), none]) dX11_fault_8 (by decide) rfl ?_
    refine q_aload_n dX11_fault_9 rfl ?_
    refine q_aload_nN dX11_fault_10 rfl ?_
    refine q_cV [.null] kX11_78_11 rfl (tX11_refusedRow_n w ξ B P g) dX11_fault_11 rfl (by decide) (Nat.le_of_ble_eq_true rfl) rfl ?_
    refine q_istore_n (lv' := [some (.ref 0), some (q_i r), some (.null), some (q_i (-1))]) dX11_fault_14 (by decide) rfl ?_
    refine q_iload_n dX11_fault_15 rfl ?_
    refine q_if_eq (tgt := 23) dX11_fault_16 (by decide) ⟨by decide, by decide⟩ (fun h16 => False.elim (by omega)) (fun h16 => ?_)
    refine q_iload_n dX11_fault_19 rfl ?_
    refine q_goto (tgt := 31) dX11_fault_20 (by decide) ?_
    exact q_iret rfl dX11_fault_31 (⟨by unfold m_fault_v; (repeat first | rw [if_pos (by omega)] | rw [if_neg (by omega)]), _, rfl, by unfold m_fault_s; (repeat first | rw [if_pos (by omega)] | rw [if_neg (by omega)]); exact hR⟩)
