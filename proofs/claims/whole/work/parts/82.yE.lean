/-! the class's shed, against the reference -/
set_option maxRecDepth 20000 in
theorem tX11_shed_n (w : q_W) (μ ξ : m_S) (B P : Nat) (g : Int → Option Nat) (hR : z_R μ ξ B P g) (r : Int) (hr : q_r r) (hno : ¬ ((0 ≤ r ∧ r ≤ 3) ∧ 0 ≤ μ 9 r ∧ m_fo_v μ r = -9)) : q_T mX11_shed 6 0 0 [.ref 0, q_i r] (x_w w ξ B P g) (z_Q w B P g (q_i (m_shed_v μ r)) (m_shed_s μ r)) := by
  refine q_T.of (lv := [some (.ref 0), some (q_i r), none, none, none]) (by decide) rfl (Nat.le_of_ble_eq_true rfl) ?_
  by_cases hq0 : 0 ≤ r ∧ r < 4
  · skip
    obtain ⟨hr0, hr1⟩ := hq0
    have hzr := hR.tz (r := r) hr0 hr1
    refine q_aload_n dX11_shed_0 rfl ?_
    refine q_get (v := .ref 2) fX11_15_11 rfl rfl dX11_shed_1 ?_
    refine q_iload_n dX11_shed_4 rfl ?_
    refine q_cS [.ref 2, q_i r] kX11_60 (tX11_among_2y w ξ B P g r (by omega) (by omega)) dX11_shed_5 rfl (by decide) (Nat.le_of_ble_eq_true rfl) rfl ?_
    refine q_astore_n (lv' := [some (.ref 0), some (q_i r), some (.ref (44 + 2 * r.toNat)), none, none]) dX11_shed_8 (by decide) rfl ?_
    refine q_aload_n dX11_shed_9 rfl ?_
    refine q_aload_n dX11_shed_10 rfl ?_
    refine q_cV [.ref (44 + 2 * r.toNat)] kX11_78_11 rfl (tX11_refusedRow w ξ B P g (44 + 2 * r.toNat) 60 (x_isR_texts hr0 hr1) (by omega)) dX11_shed_11 rfl (by decide) (Nat.le_of_ble_eq_true rfl) rfl ?_
    refine q_istore_n (lv' := [some (.ref 0), some (q_i r), some (.ref (44 + 2 * r.toNat)), some (q_i (x_rr_v ξ (44 + 2 * r.toNat))), none]) dX11_shed_14 (by decide) rfl ?_
    refine q_iload_n dX11_shed_15 rfl ?_
    refine q_if_eq (tgt := 21) dX11_shed_16 (by decide) (x_rr_r ξ _) (fun h16 => ?_) (fun h16 => ?_)
    · skip
      obtain ⟨hii, hrs⟩ := x_rr_0 h16
      rw [hrs]
      refine q_aload_n dX11_shed_21 rfl ?_
      refine q_get (v := .ref 4) fX11_27_11 rfl rfl dX11_shed_22 ?_
      refine q_aload_n dX11_shed_25 rfl ?_
      refine q_cV [.ref (44 + 2 * r.toNat)] kX11_107_6 rfl (tX6_faultOf w ξ B P g (44 + 2 * r.toNat) (x_isR_texts hr0 hr1) (by omega) (hR.tb hr0 hr1)) dX11_shed_26 rfl (by decide) (Nat.le_of_ble_eq_true rfl) rfl ?_
      refine q_bipush dX11_shed_29 ?_
      refine q_icmp_eq (tgt := 37) dX11_shed_31 (by decide) (by rw [(hR.fo hr0 hr1 (by omega)).1]; have q := m_fo_r (m_f1_R hR.I (t := r) (by omega) (by omega) (by omega)); exact ⟨by omega, by omega⟩) ⟨by decide, by decide⟩ (fun h31 => False.elim (hno ⟨⟨by omega, by omega⟩, by omega, (hR.fo hr0 hr1 (by omega)).1.symm.trans h31⟩)) (fun h31 => ?_)
      have hne : m_fo_v μ r ≠ -9 := fun q => h31 ((hR.fo hr0 hr1 (by omega)).1.trans q)
      refine q_bipush dX11_shed_34 ?_
      exact q_iret rfl dX11_shed_36 (⟨by unfold m_shed_v; rw [if_neg (by omega), if_neg (by omega), if_pos hne], _, rfl, by unfold m_shed_s; rw [if_neg (by omega), if_neg (by omega), if_pos hne]; exact hR.fos r _⟩)
    · skip
      obtain ⟨hx1, hx2, hx3⟩ := x_rr_ne h16
      rw [hx2, hx3]
      refine q_iload_n dX11_shed_19 rfl ?_
      exact q_iret rfl dX11_shed_20 (⟨by unfold m_shed_v; (repeat first | rw [if_pos (by omega)] | rw [if_neg (by omega)]), _, rfl, by unfold m_shed_s; (repeat first | rw [if_pos (by omega)] | rw [if_neg (by omega)]); exact hR.find 1⟩)
  · skip
    refine q_aload_n dX11_shed_0 rfl ?_
    refine q_get (v := .ref 2) fX11_15_11 rfl rfl dX11_shed_1 ?_
    refine q_iload_n dX11_shed_4 rfl ?_
    refine q_cS [.ref 2, q_i r] kX11_60 (tX11_among_2n w ξ B P g r (hr) (by omega)) dX11_shed_5 rfl (by decide) (Nat.le_of_ble_eq_true rfl) rfl ?_
    refine q_astore_nN (lv' := [some (.ref 0), some (q_i r), some (.null), none, none]) dX11_shed_8 (by decide) rfl ?_
    refine q_aload_n dX11_shed_9 rfl ?_
    refine q_aload_nN dX11_shed_10 rfl ?_
    refine q_cV [.null] kX11_78_11 rfl (tX11_refusedRow_n w ξ B P g) dX11_shed_11 rfl (by decide) (Nat.le_of_ble_eq_true rfl) rfl ?_
    refine q_istore_n (lv' := [some (.ref 0), some (q_i r), some (.null), some (q_i (-1)), none]) dX11_shed_14 (by decide) rfl ?_
    refine q_iload_n dX11_shed_15 rfl ?_
    refine q_if_eq (tgt := 21) dX11_shed_16 (by decide) ⟨by decide, by decide⟩ (fun h16 => False.elim (by omega)) (fun h16 => ?_)
    refine q_iload_n dX11_shed_19 rfl ?_
    exact q_iret rfl dX11_shed_20 (⟨by unfold m_shed_v; (repeat first | rw [if_pos (by omega)] | rw [if_neg (by omega)]), _, rfl, by unfold m_shed_s; (repeat first | rw [if_pos (by omega)] | rw [if_neg (by omega)]); exact hR⟩)
set_option maxRecDepth 20000 in
theorem tX11_shed_y (w : q_W) (μ ξ : m_S) (B P : Nat) (g : Int → Option Nat) (hR : z_R μ ξ B P g) (n : Nat) (hd : q_dom (x_w w ξ B P g) n) (h76 : 76 ≤ n) (r : Int) (hr0 : 0 ≤ r) (hr1 : r < 4) (h9 : 0 ≤ μ 9 r) (hfo : m_fo_v μ r = -9) : q_T mX11_shed 6 (m_fo_s μ r 22 0).toNat (6 * (m_fo_s μ r 22 0).toNat) [.ref 0, q_i r] (x_w w ξ B P g) (fun v' w' => v' = some (q_i (m_shed_v μ r)) ∧ ∃ σ g', w' = x_w (x_pw w ξ B P) σ n (m_fo_s μ r 22 0).toNat g' ∧ z_R (m_shed_s μ r) σ n (m_fo_s μ r 22 0).toNat g') := by
  refine q_T.of (lv := [some (.ref 0), some (q_i r), none, none, none]) (by decide) rfl (Nat.le_of_ble_eq_true rfl) ?_
  obtain ⟨hn7, hn80, hn81, hn82, hn10⟩ := hR.n
  have hSb := hR.Sh.b
  have hDb := hR.De.1
  have hPs := hR.Ps
  have hPs1 := hPs.1
  have hPs2 := hPs.2.1
  have hPs3 := hPs.2.2.1
  have hTs := hR.Ts
  have hV := hR.V
  have hzr := hR.tz (r := r) hr0 hr1
  refine q_aload_n dX11_shed_0 rfl ?_
  refine q_get (v := .ref 2) fX11_15_11 rfl rfl dX11_shed_1 ?_
  refine q_iload_n dX11_shed_4 rfl ?_
  refine q_cS [.ref 2, q_i r] kX11_60 (tX11_among_2y w ξ B P g r (by omega) (by omega)) dX11_shed_5 rfl (by decide) (Nat.le_of_ble_eq_true rfl) rfl ?_
  refine q_astore_n (lv' := [some (.ref 0), some (q_i r), some (.ref (44 + 2 * r.toNat)), none, none]) dX11_shed_8 (by decide) rfl ?_
  refine q_aload_n dX11_shed_9 rfl ?_
  refine q_aload_n dX11_shed_10 rfl ?_
  refine q_cV [.ref (44 + 2 * r.toNat)] kX11_78_11 rfl (tX11_refusedRow w ξ B P g (44 + 2 * r.toNat) 60 (x_isR_texts hr0 hr1) (by omega)) dX11_shed_11 rfl (by decide) (Nat.le_of_ble_eq_true rfl) rfl ?_
  refine q_istore_n (lv' := [some (.ref 0), some (q_i r), some (.ref (44 + 2 * r.toNat)), some (q_i (x_rr_v ξ (44 + 2 * r.toNat))), none]) dX11_shed_14 (by decide) rfl ?_
  refine q_iload_n dX11_shed_15 rfl ?_
  refine q_if_eq (tgt := 21) dX11_shed_16 (by decide) (x_rr_r ξ _) (fun h16 => ?_) (fun h16 => False.elim (by obtain ⟨hx1, -, -⟩ := x_rr_ne h16; omega))
  obtain ⟨hii, hrs⟩ := x_rr_0 h16
  rw [hrs]
  refine q_aload_n dX11_shed_21 rfl ?_
  refine q_get (v := .ref 4) fX11_27_11 rfl rfl dX11_shed_22 ?_
  refine q_aload_n dX11_shed_25 rfl ?_
  refine q_cV [.ref (44 + 2 * r.toNat)] kX11_107_6 rfl (tX6_faultOf w ξ B P g (44 + 2 * r.toNat) (x_isR_texts hr0 hr1) (by omega) (hR.tb hr0 hr1)) dX11_shed_26 rfl (by decide) (Nat.le_of_ble_eq_true rfl) rfl ?_
  refine q_bipush dX11_shed_29 ?_
  refine q_icmp_eq (tgt := 37) dX11_shed_31 (by decide) (by rw [(hR.fo hr0 hr1 (by omega)).1]; have q := m_fo_r (m_f1_R hR.I (t := r) (by omega) (by omega) (by omega)); exact ⟨by omega, by omega⟩) ⟨by decide, by decide⟩ (fun h31 => ?_) (fun h31 => False.elim (h31 ((hR.fo hr0 hr1 (by omega)).1.trans hfo)))
  refine q_aload_n dX11_shed_37 rfl ?_
  refine q_get (v := .ref 7) fX11_34_11 rfl rfl dX11_shed_38 ?_
  refine q_aload_n dX11_shed_41 rfl ?_
  refine q_get (v := .ref 4) fX11_27_11 rfl rfl dX11_shed_42 ?_
  have hz := (hR.fo hr0 hr1 (by omega)).2 hfo
  obtain ⟨hν, hRd, hm⟩ := m_fo_Rd (m_f1_R hR.I (t := r) (by omega) (by omega) (by omega)) hfo
  have hν5 := hν.2.2.2.1
  have h42 : (x_fo ξ (44 + 2 * r.toNat)).2 4 2 = (m_fo_s μ r 22 0) := hz.2.2.1 hm
  have hd1 := hRd.1
  have hd2 := hRd.2.1
  refine q_callV (kc := 0) (ks := 0) [.ref 4] kX11_110_8 rfl (tX8_begin w ((x_fo ξ (44 + 2 * r.toNat)).2) B P g n (x_dom_c hd) h76 ⟨by rw [hz.1]; omega, by rw [hz.2.1]; omega⟩ (by rw [h42]; omega) (fun p p0 p1 => by rw [h42] at p1; rw [(hz.2.2.2 p p0 p1).1]; exact (hRd.2.2 p p0 p1).1) (fun p p0 p1 => by rw [h42] at p1; rw [(hz.2.2.2 p p0 p1).2]; exact (hRd.2.2 p p0 p1).2)) (by decide) rfl rfl (Nat.le_of_ble_eq_true rfl) (by rw [h42]; rfl) (by rw [h42]; rfl) dX11_shed_45 (fun v9 w9 h9 => ?_)
  obtain ⟨hv9, σ, g', hw9, hb, h00⟩ := h9
  have hbase : x_pw w ((x_fo ξ (44 + 2 * r.toNat)).2) B P = x_pw w ξ B P := x_pw_c (fun k hk => x_fo_k ξ _ (by omega))
  rw [hv9, hw9, hbase, h42]
  show q_J _ _ _ _ _ _ _ [] (x_w (x_pw w ξ B P) (x_wg σ) n (m_fo_s μ r 22 0).toNat g')
  refine q_iconst dX11_shed_48 ?_
  refine q_istore (lv' := [some (.ref 0), some (q_i r), some (.ref (44 + 2 * r.toNat)), some (q_i (x_rr_v ξ (44 + 2 * r.toNat))), some (q_i 0)]) dX11_shed_49 (by decide) rfl ?_
  refine q_iload dX11_shed_51 rfl ?_
  refine q_aload_n dX11_shed_53 rfl ?_
  refine q_get (v := .ref 3) fX11_20_11 rfl rfl dX11_shed_54 ?_
  refine q_alen rfl (by decide) dX11_shed_57 ?_
  refine q_icmp_ge (tgt := 78) dX11_shed_58 (by decide) ⟨by decide, by decide⟩ ⟨by omega, by omega⟩ (fun h58 => False.elim (by omega)) (fun h58 => ?_)
  refine q_aload_n dX11_shed_61 rfl ?_
  refine q_get (v := .ref 3) fX11_20_11 rfl rfl dX11_shed_62 ?_
  refine q_iload dX11_shed_65 rfl ?_
  refine q_aald rfl (by decide) (by omega) (by omega) dX11_shed_67 ?_
  show q_J _ _ _ _ _ _ _ [.ref 52] _
  refine q_iconst dX11_shed_68 ?_
  refine q_puti (fs := [q_i ((x_wg σ) 52 0), .ref 53, .ref 54, .ref 55]) pX11_114_9 rfl (Nat.le_of_ble_eq_true rfl) dX11_shed_69 ?_
  refine q_Jeq rfl rfl (x_up (f := (q_us ((x_wg σ) 52) 0 (-1))) rfl) ?_
  refine q_iinc (lv' := [some (.ref 0), some (q_i r), some (.ref (44 + 2 * r.toNat)), some (q_i (x_rr_v ξ (44 + 2 * r.toNat))), some (q_i 1)]) dX11_shed_72 rfl (by decide) rfl ?_
  refine q_goto (tgt := 51) dX11_shed_75 (by decide) ?_
  refine q_iload dX11_shed_51 rfl ?_
  refine q_aload_n dX11_shed_53 rfl ?_
  refine q_get (v := .ref 3) fX11_20_11 rfl rfl dX11_shed_54 ?_
  refine q_alen rfl (by decide) dX11_shed_57 ?_
  refine q_icmp_ge (tgt := 78) dX11_shed_58 (by decide) ⟨by decide, by decide⟩ ⟨by omega, by omega⟩ (fun h58 => False.elim (by omega)) (fun h58 => ?_)
  refine q_aload_n dX11_shed_61 rfl ?_
  refine q_get (v := .ref 3) fX11_20_11 rfl rfl dX11_shed_62 ?_
  refine q_iload dX11_shed_65 rfl ?_
  refine q_aald rfl (by decide) (by omega) (by omega) dX11_shed_67 ?_
  show q_J _ _ _ _ _ _ _ [.ref 56] _
  refine q_iconst dX11_shed_68 ?_
  refine q_puti (fs := [q_i ((x_wg σ) 56 0), .ref 57, .ref 58, .ref 59]) pX11_114_9 rfl (Nat.le_of_ble_eq_true rfl) dX11_shed_69 ?_
  refine q_Jeq rfl rfl (x_up (f := (q_us ((x_wg σ) 56) 0 (-1))) rfl) ?_
  refine q_iinc (lv' := [some (.ref 0), some (q_i r), some (.ref (44 + 2 * r.toNat)), some (q_i (x_rr_v ξ (44 + 2 * r.toNat))), some (q_i 2)]) dX11_shed_72 rfl (by decide) rfl ?_
  refine q_goto (tgt := 51) dX11_shed_75 (by decide) ?_
  refine q_iload dX11_shed_51 rfl ?_
  refine q_aload_n dX11_shed_53 rfl ?_
  refine q_get (v := .ref 3) fX11_20_11 rfl rfl dX11_shed_54 ?_
  refine q_alen rfl (by decide) dX11_shed_57 ?_
  refine q_icmp_ge (tgt := 78) dX11_shed_58 (by decide) ⟨by decide, by decide⟩ ⟨by omega, by omega⟩ (fun h58 => False.elim (by omega)) (fun h58 => ?_)
  refine q_aload_n dX11_shed_61 rfl ?_
  refine q_get (v := .ref 3) fX11_20_11 rfl rfl dX11_shed_62 ?_
  refine q_iload dX11_shed_65 rfl ?_
  refine q_aald rfl (by decide) (by omega) (by omega) dX11_shed_67 ?_
  show q_J _ _ _ _ _ _ _ [.ref 60] _
  refine q_iconst dX11_shed_68 ?_
  refine q_puti (fs := [q_i ((x_wg σ) 60 0), .ref 61, .ref 62, .ref 63]) pX11_114_9 rfl (Nat.le_of_ble_eq_true rfl) dX11_shed_69 ?_
  refine q_Jeq rfl rfl (x_up (f := (q_us ((x_wg σ) 60) 0 (-1))) rfl) ?_
  refine q_iinc (lv' := [some (.ref 0), some (q_i r), some (.ref (44 + 2 * r.toNat)), some (q_i (x_rr_v ξ (44 + 2 * r.toNat))), some (q_i 3)]) dX11_shed_72 rfl (by decide) rfl ?_
  refine q_goto (tgt := 51) dX11_shed_75 (by decide) ?_
  refine q_iload dX11_shed_51 rfl ?_
  refine q_aload_n dX11_shed_53 rfl ?_
  refine q_get (v := .ref 3) fX11_20_11 rfl rfl dX11_shed_54 ?_
  refine q_alen rfl (by decide) dX11_shed_57 ?_
  refine q_icmp_ge (tgt := 78) dX11_shed_58 (by decide) ⟨by decide, by decide⟩ ⟨by omega, by omega⟩ (fun h58 => ?_) (fun h58 => False.elim (by omega))
  refine q_aload_n dX11_shed_78 rfl ?_
  refine q_get (v := .ref 7) fX11_34_11 rfl rfl dX11_shed_79 ?_
  refine q_get (v := q_i ((x_wg σ) 7 0)) fX11_115_8 rfl rfl dX11_shed_82 ?_
  exact q_iret rfl dX11_shed_85 (⟨by unfold m_shed_v; rw [if_neg (by omega), if_neg (by omega), if_neg (fun q => q hfo)]; exact congrArg (fun z => some (q_i z)) (hb.2.2.1.2.2.trans h42), x_k3 (x_wg σ), g', rfl, by unfold m_shed_s; rw [if_neg (by omega), if_neg (by omega), if_neg (fun q => q hfo)]; exact z_shd (ξ := ξ) (hR.fos r (44 + 2 * r.toNat)) hν hRd hm hz h76 hb h00⟩)
