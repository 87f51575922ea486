/-! the class's calls, against the reference: flicks, deeds, kept sheds, lots -/
set_option maxRecDepth 20000 in
theorem tX11_flicks (w : q_W) (μ ξ : m_S) (B P : Nat) (g : Int → Option Nat) (hR : z_R μ ξ B P g) (p v : Int) (hp : q_r p) (hv : q_r v) : q_T mX11_flicks 5 0 0 [.ref 0, q_i p, q_i v] (x_w w ξ B P g) (z_Q w B P g (q_i (m_flicks_v μ p v)) (m_flicks_s μ p v)) := by
  refine q_T.of (lv := [some (.ref 0), some (q_i p), some (q_i v), none, none]) (by decide) rfl (Nat.le_of_ble_eq_true rfl) ?_
  obtain ⟨hn7, hn80, hn81, hn82, hn10⟩ := hR.n
  have hSb := hR.Sh.b
  have hDb := hR.De.1
  have hPs := hR.Ps
  have hPs1 := hPs.1
  have hPs2 := hPs.2.1
  have hPs3 := hPs.2.2.1
  have hTs := hR.Ts
  have hV := hR.V
  by_cases hq0 : 0 ≤ p ∧ p < ξ 7 0
  · skip
    obtain ⟨hp0, hp1⟩ := hq0
    refine q_aload_n dX11_flicks_0 rfl ?_
    refine q_get (v := .ref 7) fX11_34_11 rfl rfl dX11_flicks_1 ?_
    refine q_iload_n dX11_flicks_4 rfl ?_
    refine q_cV [q_i p] kX11_118_8 rfl (tX8_personAt_y w ξ B P g p (show (0 : Int) ≤ p by omega) (show p < ξ 7 0 by omega) hPs) dX11_flicks_5 rfl (by decide) (Nat.le_of_ble_eq_true rfl) rfl ?_
    refine q_astore_n (lv' := [some (.ref 0), some (q_i p), some (q_i v), some (.ref (B + p.toNat)), none]) dX11_flicks_8 (by decide) rfl ?_
    refine q_aload_n dX11_flicks_9 rfl ?_
    refine q_ifnullS dX11_flicks_10 ?_
    refine q_iload_n dX11_flicks_13 rfl ?_
    refine q_iconst dX11_flicks_14 ?_
    refine q_icmp_lt (tgt := 23) dX11_flicks_15 (by decide) hv ⟨by decide, by decide⟩ (fun h15 => ?_) (fun h15 => ?_)
    · skip
      refine q_iconst dX11_flicks_23 ?_
      exact q_iret rfl dX11_flicks_24 (⟨by unfold m_flicks_v; (repeat first | rw [if_pos (by omega)] | rw [if_neg (by omega)]), _, rfl, by unfold m_flicks_s; (repeat first | rw [if_pos (by omega)] | rw [if_neg (by omega)]); exact hR⟩)
    · skip
      refine q_iload_n dX11_flicks_18 rfl ?_
      refine q_iconst dX11_flicks_19 ?_
      refine q_icmp_le (tgt := 25) dX11_flicks_20 (by decide) hv ⟨by decide, by decide⟩ (fun h20 => ?_) (fun h20 => ?_)
      · skip
        refine q_aload_n dX11_flicks_25 rfl ?_
        refine q_get (v := .ref 7) fX11_34_11 rfl rfl dX11_flicks_26 ?_
        refine q_get (v := .ref 10) fX11_152_8 rfl rfl dX11_flicks_29 ?_
        refine q_get (v := q_i (ξ 10 0)) fX11_114_9 rfl rfl dX11_flicks_32 ?_
        refine q_if_le (tgt := 41) dX11_flicks_35 (by decide) ⟨by omega, by omega⟩ (fun h35 => ?_) (fun h35 => ?_)
        · skip
          refine q_aload_n dX11_flicks_41 rfl ?_
          refine q_get (v := q_i (ξ 1005 p)) (fPX11_156 _) (x_pOi (p := p) (by omega) (by omega) (by omega)) rfl dX11_flicks_42 ?_
          refine q_istore (lv' := [some (.ref 0), some (q_i p), some (q_i v), some (.ref (B + p.toNat)), some (q_i (ξ 1005 p))]) dX11_flicks_45 (by decide) rfl ?_
          refine q_aload_n dX11_flicks_47 rfl ?_
          refine q_get (v := .ref 7) fX11_34_11 rfl rfl dX11_flicks_48 ?_
          refine q_iload_n dX11_flicks_51 rfl ?_
          refine q_iload_n dX11_flicks_52 rfl ?_
          refine q_cVv [q_i p, q_i v] kX11_161_8 rfl (tX8_setFlicks w ξ B P g p v hp0 hp1 (by omega) (hPs.2.2.2 p hp0 (by omega)) (by omega) (by omega) (hTs p hp0 hp1).1 (by omega) (hR.G (by omega))) dX11_flicks_53 rfl (by decide) (Nat.le_of_ble_eq_true rfl) rfl ?_
          refine q_iload dX11_flicks_56 rfl ?_
          exact q_iret rfl dX11_flicks_58 (⟨by unfold m_flicks_v; (repeat first | rw [if_pos (by omega)] | rw [if_neg (by omega)]); rw [(hR.p hp0 (by omega)).2.1], _, rfl, by unfold m_flicks_s; (repeat first | rw [if_pos (by omega)] | rw [if_neg (by omega)]); exact hR.flicks hp0 (by omega) (by omega) (by omega)⟩)
        · skip
          refine q_bipush dX11_flicks_38 ?_
          exact q_iret rfl dX11_flicks_40 (⟨by unfold m_flicks_v; (repeat first | rw [if_pos (by omega)] | rw [if_neg (by omega)]), _, rfl, by unfold m_flicks_s; (repeat first | rw [if_pos (by omega)] | rw [if_neg (by omega)]); exact hR⟩)
      · skip
        refine q_iconst dX11_flicks_23 ?_
        exact q_iret rfl dX11_flicks_24 (⟨by unfold m_flicks_v; (repeat first | rw [if_pos (by omega)] | rw [if_neg (by omega)]), _, rfl, by unfold m_flicks_s; (repeat first | rw [if_pos (by omega)] | rw [if_neg (by omega)]); exact hR⟩)
  · skip
    refine q_aload_n dX11_flicks_0 rfl ?_
    refine q_get (v := .ref 7) fX11_34_11 rfl rfl dX11_flicks_1 ?_
    refine q_iload_n dX11_flicks_4 rfl ?_
    refine q_cV [q_i p] kX11_118_8 rfl (tX8_personAt_n w ξ B P g p (hp) (show ¬ (0 ≤ p ∧ p < ξ 7 0) by omega) hPs) dX11_flicks_5 rfl (by decide) (Nat.le_of_ble_eq_true rfl) rfl ?_
    refine q_astore_nN (lv' := [some (.ref 0), some (q_i p), some (q_i v), some (.null), none]) dX11_flicks_8 (by decide) rfl ?_
    refine q_aload_nN dX11_flicks_9 rfl ?_
    refine q_ifnullN (tgt := 23) dX11_flicks_10 (by decide) ?_
    refine q_iconst dX11_flicks_23 ?_
    exact q_iret rfl dX11_flicks_24 (⟨by unfold m_flicks_v; (repeat first | rw [if_pos (by omega)] | rw [if_neg (by omega)]), _, rfl, by unfold m_flicks_s; (repeat first | rw [if_pos (by omega)] | rw [if_neg (by omega)]); exact hR⟩)
set_option maxRecDepth 20000 in
theorem tX11_look (w : q_W) (μ ξ : m_S) (B P : Nat) (g : Int → Option Nat) (hR : z_R μ ξ B P g) (p t : Int) (hp : q_r p) (ht : q_r t) : q_T mX11_look 5 0 0 [.ref 0, q_i p, q_i t] (x_w w ξ B P g) (z_Q w B P g (q_i (m_look_v μ p t)) (m_look_s μ p t)) := by
  refine q_T.of (lv := [some (.ref 0), some (q_i p), some (q_i t)]) (by decide) rfl (Nat.le_of_ble_eq_true rfl) ?_
  obtain ⟨hn7, hn80, hn81, hn82, hn10⟩ := hR.n
  have hSb := hR.Sh.b
  have hDb := hR.De.1
  have hPs := hR.Ps
  have hPs1 := hPs.1
  have hPs2 := hPs.2.1
  have hPs3 := hPs.2.2.1
  have hTs := hR.Ts
  have hV := hR.V
  by_cases hq0 : 0 ≤ p ∧ p < ξ 7 0
  · skip
    obtain ⟨hp0, hp1⟩ := hq0
    refine q_aload_n dX11_look_0 rfl ?_
    refine q_get (v := .ref 7) fX11_34_11 rfl rfl dX11_look_1 ?_
    refine q_iload_n dX11_look_4 rfl ?_
    refine q_cV [q_i p] kX11_118_8 rfl (tX8_personAt_y w ξ B P g p (show (0 : Int) ≤ p by omega) (show p < ξ 7 0 by omega) hPs) dX11_look_5 rfl (by decide) (Nat.le_of_ble_eq_true rfl) rfl ?_
    refine q_ifnullS dX11_look_8 ?_
    refine q_aload_n dX11_look_11 rfl ?_
    refine q_get (v := .ref 7) fX11_34_11 rfl rfl dX11_look_12 ?_
    refine q_get (v := .ref 8) fX11_165_8 rfl rfl dX11_look_15 ?_
    refine q_iload_n dX11_look_18 rfl ?_
    refine q_cV [q_i t] kX11_169_10 rfl (tX10_isSetting w ξ B P g t (ht) (show 0 ≤ ξ 8 2 ∧ ξ 8 2 ≤ 216 by omega)) dX11_look_19 rfl (by decide) (Nat.le_of_ble_eq_true rfl) rfl ?_
    refine q_ifb_ne (tgt := 27) dX11_look_22 (by decide) (fun h22 => ?_) (fun h22 => ?_)
    · skip
      have hG := hR.G (by omega)
      have hmG := hR.mG (by omega)
      have hlb := hR.lb (t := t) hp0 (show p < μ 4 0 by omega)
      have hlr := m_left_r (μ := μ) p t (by omega)
      have hfw : ∀ c : Int, 0 ≤ c → c < μ 3 0 → x_wlf (ξ 14) (x_lbs ξ p t) p t (ξ 8 2) c = z_w1 (μ 5) (m_fl μ) (μ 1 0) (μ 2 0) (μ 6 c) p t c := fun c c0 c1 => by unfold x_wlf; rw [if_pos (by omega)]; show ξ 14 c * z_ways (ξ 1000 p) (ξ 1005 p) (ξ 8 0) (ξ 8 1) c t = _; rw [hR.w c0 c1, hR.pw hp0 (by omega)]; unfold z_w1; rw [if_neg (by omega)]; rfl
      have hle : z_pos (x_wlf (ξ 14) (x_lbs ξ p t) p t (ξ 8 2)) (ξ 8 2) = m_left μ p t := by rw [show z_pos (x_wlf (ξ 14) (x_lbs ξ p t) p t (ξ 8 2)) (ξ 8 2) = z_pos (x_wlf (ξ 14) (x_lbs ξ p t) p t (ξ 8 2)) (μ 3 0) from congrArg _ hn82]; exact z_pos_c hfw
      refine q_aload_n dX11_look_27 rfl ?_
      refine q_get (v := .ref 7) fX11_34_11 rfl rfl dX11_look_28 ?_
      refine q_iload_n dX11_look_31 rfl ?_
      refine q_iload_n dX11_look_32 rfl ?_
      refine q_cV [q_i p, q_i t] kX11_175_8 rfl (tX8_leftBehindLook w ξ B P g p t hp0 hp1 hPs (hTs p hp0 hp1) hG (by omega) (by omega) hV) dX11_look_33 rfl (by decide) (Nat.le_of_ble_eq_true rfl) rfl ?_
      refine q_if_ne (tgt := 45) dX11_look_36 (by decide) ⟨by omega, by omega⟩ (fun h36 => ?_) (fun h36 => ?_)
      · skip
        refine q_aload_n dX11_look_45 rfl ?_
        refine q_get (v := .ref 7) fX11_34_11 rfl rfl dX11_look_46 ?_
        refine q_get (v := .ref 10) fX11_152_8 rfl rfl dX11_look_49 ?_
        refine q_cV [] kX11_179_9 rfl (tX9_isFull w (x_lbs ξ p t) B P g (show 0 ≤ ξ 10 0 ∧ ξ 10 0 ≤ 16 by omega)) dX11_look_52 rfl (by decide) (Nat.le_of_ble_eq_true rfl) rfl ?_
        show q_J _ _ _ _ _ _ _ [q_b (16 ≤ ξ 10 0)] (x_w w (x_lbs ξ p t) B P g)
        refine q_ifb_eq (tgt := 61) dX11_look_55 (by decide) (fun h55 => ?_) (fun h55 => ?_)
        · skip
          refine q_aload_n dX11_look_61 rfl ?_
          refine q_get (v := .ref 7) fX11_34_11 rfl rfl dX11_look_62 ?_
          refine q_iload_n dX11_look_65 rfl ?_
          refine q_iload_n dX11_look_66 rfl ?_
          refine q_cVv [q_i p, q_i t] kX11_182_8 rfl (tX8_addDeed_y w (x_lbs ξ p t) B P g p t hp0 hp1 hPs ((hTs p hp0 hp1).u (by omega) (by decide) _) hG (by omega) (show t < ξ 8 2 by omega) (fun c h0 h1 => ⟨(hV c h0 h1).1, Int.le_trans (hV c h0 h1).2 (by decide)⟩) (show 0 ≤ ξ 10 0 ∧ ξ 10 0 < 16 by omega)) dX11_look_67 rfl (by decide) (Nat.le_of_ble_eq_true rfl) rfl ?_
          refine q_aload_n dX11_look_70 rfl ?_
          refine q_get (v := .ref 7) fX11_34_11 rfl rfl dX11_look_71 ?_
          refine q_cV [] kX11_139_8 rfl (tX8_howManyCanBe w (m_u (x_ad (x_lbs ξ p t) p t) 14 (x_wlf (ξ 14) (x_lbs ξ p t) p t (ξ 8 2))) B P g (show 0 ≤ ξ 8 2 ∧ ξ 8 2 ≤ 216 by omega) (fun c h0 h1 => by have h1 : c < ξ 8 2 := h1; show 0 ≤ x_wlf (ξ 14) (x_lbs ξ p t) p t (ξ 8 2) c ∧ x_wlf (ξ 14) (x_lbs ξ p t) p t (ξ 8 2) c ≤ _; rw [hfw c h0 (by omega)]; have q := z_w1_r (kd := μ 5) (fl := m_fl μ) (N := μ 2 0) p t c hmG.1 (hR.mV.2 c h0 (by omega)); omega)) dX11_look_74 rfl (by decide) (Nat.le_of_ble_eq_true rfl) rfl ?_
          show q_J _ _ _ _ _ _ _ [q_i (z_pos (x_wlf (ξ 14) (x_lbs ξ p t) p t (ξ 8 2)) (ξ 8 2))] (x_w w (m_u (x_ad (x_lbs ξ p t) p t) 14 (x_wlf (ξ 14) (x_lbs ξ p t) p t (ξ 8 2))) B P g)
          exact q_iret rfl dX11_look_77 (⟨by unfold m_look_v; (repeat first | rw [if_pos (by omega)] | rw [if_neg (by omega)]); unfold m_dd_v; rw [if_neg (by omega), if_neg (by omega)]; rw [hle], _, rfl, by unfold m_look_s; (repeat first | rw [if_pos (by omega)] | rw [if_neg (by omega)]); unfold m_dd_s; rw [if_neg (by omega), if_neg (by omega)]; exact (hR.s15 _).deed (o := p) (Or.inr ⟨⟨hp0, by omega⟩, rfl⟩) (by omega) (by omega) hfw (by omega)⟩)
        · skip
          refine q_bipush dX11_look_58 ?_
          exact q_iret rfl dX11_look_60 (⟨by unfold m_look_v; (repeat first | rw [if_pos (by omega)] | rw [if_neg (by omega)]); unfold m_dd_v; rw [if_neg (by omega), if_pos (by omega)], _, rfl, by unfold m_look_s; (repeat first | rw [if_pos (by omega)] | rw [if_neg (by omega)]); unfold m_dd_s; rw [if_neg (by omega), if_pos (by omega)]; exact (hR.s15 _)⟩)
      · skip
        refine q_aload_n dX11_look_39 rfl ?_
        refine q_iconst dX11_look_40 ?_
        refine q_cV [q_i 4] kX11_85_11 rfl (tX11_found w (x_lbs ξ p t) B P g 4 (by decide) (by decide)) dX11_look_41 rfl (by decide) (Nat.le_of_ble_eq_true rfl) rfl ?_
        exact q_iret rfl dX11_look_44 (⟨by unfold m_look_v; (repeat first | rw [if_pos (by omega)] | rw [if_neg (by omega)]); unfold m_dd_v; rw [if_pos (by omega)], _, rfl, by unfold m_look_s; (repeat first | rw [if_pos (by omega)] | rw [if_neg (by omega)]); unfold m_dd_s; rw [if_pos (by omega)]; exact (hR.s15 _).find 4⟩)
    · skip
      refine q_iconst dX11_look_25 ?_
      exact q_iret rfl dX11_look_26 (⟨by unfold m_look_v; (repeat first | rw [if_pos (by omega)] | rw [if_neg (by omega)]), _, rfl, by unfold m_look_s; (repeat first | rw [if_pos (by omega)] | rw [if_neg (by omega)]); exact hR⟩)
  · skip
    refine q_aload_n dX11_look_0 rfl ?_
    refine q_get (v := .ref 7) fX11_34_11 rfl rfl dX11_look_1 ?_
    refine q_iload_n dX11_look_4 rfl ?_
    refine q_cV [q_i p] kX11_118_8 rfl (tX8_personAt_n w ξ B P g p (hp) (show ¬ (0 ≤ p ∧ p < ξ 7 0) by omega) hPs) dX11_look_5 rfl (by decide) (Nat.le_of_ble_eq_true rfl) rfl ?_
    refine q_ifnullN (tgt := 25) dX11_look_8 (by decide) ?_
    refine q_iconst dX11_look_25 ?_
    exact q_iret rfl dX11_look_26 (⟨by unfold m_look_v; (repeat first | rw [if_pos (by omega)] | rw [if_neg (by omega)]), _, rfl, by unfold m_look_s; (repeat first | rw [if_pos (by omega)] | rw [if_neg (by omega)]); exact hR⟩)
set_option maxRecDepth 20000 in
theorem tX11_vain (w : q_W) (μ ξ : m_S) (B P : Nat) (g : Int → Option Nat) (hR : z_R μ ξ B P g) (t : Int) (ht : q_r t) : q_T mX11_vain 5 0 0 [.ref 0, q_i t] (x_w w ξ B P g) (z_Q w B P g (q_i (m_vain_v μ t)) (m_vain_s μ t)) := by
  refine q_T.of (lv := [some (.ref 0), some (q_i t)]) (by decide) rfl (Nat.le_of_ble_eq_true rfl) ?_
  obtain ⟨hn7, hn80, hn81, hn82, hn10⟩ := hR.n
  have hSb := hR.Sh.b
  have hDb := hR.De.1
  have hPs := hR.Ps
  have hPs1 := hPs.1
  have hPs2 := hPs.2.1
  have hPs3 := hPs.2.2.1
  have hTs := hR.Ts
  have hV := hR.V
  refine q_aload_n dX11_vain_0 rfl ?_
  refine q_get (v := .ref 7) fX11_34_11 rfl rfl dX11_vain_1 ?_
  refine q_get (v := .ref 8) fX11_165_8 rfl rfl dX11_vain_4 ?_
  refine q_iload_n dX11_vain_7 rfl ?_
  refine q_cV [q_i t] kX11_169_10 rfl (tX10_isSetting w ξ B P g t (ht) (show 0 ≤ ξ 8 2 ∧ ξ 8 2 ≤ 216 by omega)) dX11_vain_8 rfl (by decide) (Nat.le_of_ble_eq_true rfl) rfl ?_
  refine q_ifb_ne (tgt := 16) dX11_vain_11 (by decide) (fun h11 => ?_) (fun h11 => ?_)
  · skip
    have hmG := hR.mG (by omega)
    have hlt := hR.lt (t := t) (by omega) (show t < μ 3 0 by omega)
    have hlr := m_left_r (μ := μ) (-9) t (by omega)
    have hfw : ∀ c : Int, 0 ≤ c → c < μ 3 0 → (q_us (ξ 14) t 0) c = z_w1 (μ 5) (m_fl μ) (μ 1 0) (μ 2 0) (μ 6 c) (-9) t c := fun c c0 c1 => by unfold z_w1 q_us; rw [if_pos (show (-9 : Int) < 0 by decide), hR.w c0 c1]
    have hle : z_pos (q_us (ξ 14) t 0) (ξ 8 2) = m_left μ (-9) t := by rw [hn82]; exact z_pos_c hfw
    refine q_aload_n dX11_vain_16 rfl ?_
    refine q_get (v := .ref 7) fX11_34_11 rfl rfl dX11_vain_17 ?_
    refine q_iload_n dX11_vain_20 rfl ?_
    refine q_cV [q_i t] kX11_185_8 rfl (Eq.mp (congrArg (fun z => q_D mX8_leftBehindTry 2 [.ref 7, q_i t] (x_w w ξ B P g) (some (q_i z)) (x_w w ξ B P g)) hlt) (tX8_leftBehindTry w ξ B P g t (by omega) (by omega) (by omega) hV)) dX11_vain_21 rfl (by decide) (Nat.le_of_ble_eq_true rfl) rfl ?_
    refine q_if_ne (tgt := 33) dX11_vain_24 (by decide) ⟨by omega, by omega⟩ (fun h24 => ?_) (fun h24 => ?_)
    · skip
      refine q_aload_n dX11_vain_33 rfl ?_
      refine q_get (v := .ref 7) fX11_34_11 rfl rfl dX11_vain_34 ?_
      refine q_get (v := .ref 10) fX11_152_8 rfl rfl dX11_vain_37 ?_
      refine q_cV [] kX11_179_9 rfl (tX9_isFull w ξ B P g (by omega)) dX11_vain_40 rfl (by decide) (Nat.le_of_ble_eq_true rfl) rfl ?_
      refine q_ifb_eq (tgt := 49) dX11_vain_43 (by decide) (fun h43 => ?_) (fun h43 => ?_)
      · skip
        refine q_aload_n dX11_vain_49 rfl ?_
        refine q_get (v := .ref 7) fX11_34_11 rfl rfl dX11_vain_50 ?_
        refine q_iconst dX11_vain_53 ?_
        refine q_iload_n dX11_vain_54 rfl ?_
        refine q_cVv [q_i (-1), q_i t] kX11_182_8 rfl (tX8_addDeed_n w ξ B P g t hPs (by omega) (by omega) (by omega) (by omega)) dX11_vain_55 rfl (by decide) (Nat.le_of_ble_eq_true rfl) rfl ?_
        refine q_aload_n dX11_vain_58 rfl ?_
        refine q_get (v := .ref 7) fX11_34_11 rfl rfl dX11_vain_59 ?_
        refine q_cV [] kX11_139_8 rfl (tX8_howManyCanBe w (m_u (x_ad ξ (-1) t) 14 (q_us (ξ 14) t 0)) B P g (show 0 ≤ ξ 8 2 ∧ ξ 8 2 ≤ 216 by omega) (fun c h0 h1 => by have h1 : c < ξ 8 2 := h1; show 0 ≤ (q_us (ξ 14) t 0) c ∧ (q_us (ξ 14) t 0) c ≤ _; rw [hfw c h0 (by omega)]; have q := z_w1_r (kd := μ 5) (fl := m_fl μ) (N := μ 2 0) (-9) t c hmG.1 (hR.mV.2 c h0 (by omega)); omega)) dX11_vain_62 rfl (by decide) (Nat.le_of_ble_eq_true rfl) rfl ?_
        show q_J _ _ _ _ _ _ _ [q_i (z_pos (q_us (ξ 14) t 0) (ξ 8 2))] (x_w w (m_u (x_ad ξ (-1) t) 14 (q_us (ξ 14) t 0)) B P g)
        exact q_iret rfl dX11_vain_65 (⟨by unfold m_vain_v; (repeat first | rw [if_pos (by omega)] | rw [if_neg (by omega)]); unfold m_dd_v; rw [if_neg (by omega), if_neg (by omega)]; rw [hle], _, rfl, by unfold m_vain_s; (repeat first | rw [if_pos (by omega)] | rw [if_neg (by omega)]); unfold m_dd_s; rw [if_neg (by omega), if_neg (by omega)]; exact hR.deed (o := (-9)) (Or.inl ⟨rfl, rfl⟩) (by omega) (by omega) hfw (by omega)⟩)
      · skip
        refine q_bipush dX11_vain_46 ?_
        exact q_iret rfl dX11_vain_48 (⟨by unfold m_vain_v; (repeat first | rw [if_pos (by omega)] | rw [if_neg (by omega)]); unfold m_dd_v; rw [if_neg (by omega), if_pos (by omega)], _, rfl, by unfold m_vain_s; (repeat first | rw [if_pos (by omega)] | rw [if_neg (by omega)]); unfold m_dd_s; rw [if_neg (by omega), if_pos (by omega)]; exact hR⟩)
    · skip
      refine q_aload_n dX11_vain_27 rfl ?_
      refine q_iconst dX11_vain_28 ?_
      refine q_cV [q_i 4] kX11_85_11 rfl (tX11_found w ξ B P g 4 (by decide) (by decide)) dX11_vain_29 rfl (by decide) (Nat.le_of_ble_eq_true rfl) rfl ?_
      exact q_iret rfl dX11_vain_32 (⟨by unfold m_vain_v; (repeat first | rw [if_pos (by omega)] | rw [if_neg (by omega)]); unfold m_dd_v; rw [if_pos (by omega)], _, rfl, by unfold m_vain_s; (repeat first | rw [if_pos (by omega)] | rw [if_neg (by omega)]); unfold m_dd_s; rw [if_pos (by omega)]; exact hR.find 4⟩)
  · skip
    refine q_iconst dX11_vain_14 ?_
    exact q_iret rfl dX11_vain_15 (⟨by unfold m_vain_v; (repeat first | rw [if_pos (by omega)] | rw [if_neg (by omega)]), _, rfl, by unfold m_vain_s; (repeat first | rw [if_pos (by omega)] | rw [if_neg (by omega)]); exact hR⟩)
set_option maxRecDepth 20000 in
theorem tX11_undo (w : q_W) (μ ξ : m_S) (B P : Nat) (g : Int → Option Nat) (hR : z_R μ ξ B P g) (n : Int) (hn : q_r n) : q_T mX11_undo 5 0 0 [.ref 0, q_i n] (x_w w ξ B P g) (z_Q w B P g (q_i (m_undo_v μ n)) (m_undo_s μ n)) := by
  refine q_T.of (lv := [some (.ref 0), some (q_i n), none]) (by decide) rfl (Nat.le_of_ble_eq_true rfl) ?_
  obtain ⟨hn7, hn80, hn81, hn82, hn10⟩ := hR.n
  have hSb := hR.Sh.b
  have hDb := hR.De.1
  have hPs := hR.Ps
  have hPs1 := hPs.1
  have hPs2 := hPs.2.1
  have hPs3 := hPs.2.2.1
  have hTs := hR.Ts
  have hV := hR.V
  have hD := hR.xD
  refine q_aload_n dX11_undo_0 rfl ?_
  refine q_get (v := .ref 7) fX11_34_11 rfl rfl dX11_undo_1 ?_
  refine q_get (v := .ref 10) fX11_152_8 rfl rfl dX11_undo_4 ?_
  refine q_get (v := q_i (ξ 10 0)) fX11_114_9 rfl rfl dX11_undo_7 ?_
  refine q_istore_n (lv' := [some (.ref 0), some (q_i n), some (q_i (ξ 10 0))]) dX11_undo_10 (by decide) rfl ?_
  refine q_iload_n dX11_undo_11 rfl ?_
  refine q_if_lt (tgt := 20) dX11_undo_12 (by decide) hn (fun h12 => ?_) (fun h12 => ?_)
  · skip
    refine q_iconst dX11_undo_20 ?_
    exact q_iret rfl dX11_undo_21 (⟨by unfold m_undo_v; (repeat first | rw [if_pos (by omega)] | rw [if_neg (by omega)]), _, rfl, by unfold m_undo_s; (repeat first | rw [if_pos (by omega)] | rw [if_neg (by omega)]); exact hR⟩)
  · skip
    refine q_iload_n dX11_undo_15 rfl ?_
    refine q_iload_n dX11_undo_16 rfl ?_
    refine q_icmp_le (tgt := 22) dX11_undo_17 (by decide) hn ⟨by omega, by omega⟩ (fun h17 => ?_) (fun h17 => ?_)
    · skip
      refine q_aload_n dX11_undo_22 rfl ?_
      refine q_get (v := .ref 7) fX11_34_11 rfl rfl dX11_undo_23 ?_
      refine q_get (v := .ref 10) fX11_152_8 rfl rfl dX11_undo_26 ?_
      refine q_iload_n dX11_undo_29 rfl ?_
      refine q_puti (fs := [q_i (ξ 10 0), .ref 11, .ref 12, .ref 13]) pX11_114_9 rfl (Nat.le_of_ble_eq_true rfl) dX11_undo_30 ?_
      refine q_Jeq rfl rfl (x_up (f := (q_us (ξ 10) 0 n)) rfl) ?_
      refine q_aload_n dX11_undo_33 rfl ?_
      refine q_get (v := .ref 7) fX11_34_11 rfl rfl dX11_undo_34 ?_
      refine q_cVv [] kX11_188_8 rfl (tX8_weighAgain w (m_u ξ 10 (q_us (ξ 10) 0 n)) B P g hPs (fun q h0 h1 => (hTs q h0 h1).u (by have h1 : q < ξ 7 0 := h1; omega) (by decide) _) (fun q => hR.G (Or.inr (Or.inl q))) (show 0 ≤ ξ 8 2 ∧ ξ 8 2 ≤ 216 by omega) ⟨show 0 ≤ n ∧ n ≤ 16 by omega, fun d d0 d1 => hD.2 d d0 (by have d1 : d < n := d1; omega)⟩) dX11_undo_37 rfl (by decide) (Nat.le_of_ble_eq_true rfl) rfl ?_
      refine q_iload_n dX11_undo_40 rfl ?_
      refine q_iload_n dX11_undo_41 rfl ?_
      refine q_isub dX11_undo_42 ?_
      exact q_iret rfl dX11_undo_43 (⟨by unfold m_undo_v; (repeat first | rw [if_pos (by omega)] | rw [if_neg (by omega)]); rw [hn10], _, rfl, by unfold m_undo_s; (repeat first | rw [if_pos (by omega)] | rw [if_neg (by omega)]); exact hR.undo (by omega) (by omega)⟩)
    · skip
      refine q_iconst dX11_undo_20 ?_
      exact q_iret rfl dX11_undo_21 (⟨by unfold m_undo_v; (repeat first | rw [if_pos (by omega)] | rw [if_neg (by omega)]), _, rfl, by unfold m_undo_s; (repeat first | rw [if_pos (by omega)] | rw [if_neg (by omega)]); exact hR⟩)
set_option maxRecDepth 20000 in
theorem tX11_keep (w : q_W) (μ ξ : m_S) (B P : Nat) (g : Int → Option Nat) (hR : z_R μ ξ B P g) (k : Int) (hk : q_r k) : q_T mX11_keep 3 0 0 [.ref 0, q_i k] (x_w w ξ B P g) (z_Q w B P g (q_i (m_keep_v μ k)) (m_keep_s μ k)) := by
  refine q_T.of (lv := [some (.ref 0), some (q_i k)]) (by decide) rfl (Nat.le_of_ble_eq_true rfl) ?_
  obtain ⟨hn7, hn80, hn81, hn82, hn10⟩ := hR.n
  have hSb := hR.Sh.b
  have hDb := hR.De.1
  have hPs := hR.Ps
  have hPs1 := hPs.1
  have hPs2 := hPs.2.1
  have hPs3 := hPs.2.2.1
  have hTs := hR.Ts
  have hV := hR.V
  refine q_iload_n dX11_keep_0 rfl ?_
  refine q_if_lt (tgt := 13) dX11_keep_1 (by decide) hk (fun h1 => ?_) (fun h1 => ?_)
  · skip
    refine q_iconst dX11_keep_13 ?_
    exact q_iret rfl dX11_keep_14 (⟨by unfold m_keep_v; (repeat first | rw [if_pos (by omega)] | rw [if_neg (by omega)]), _, rfl, by unfold m_keep_s; (repeat first | rw [if_pos (by omega)] | rw [if_neg (by omega)]); exact hR⟩)
  · skip
    refine q_iload_n dX11_keep_4 rfl ?_
    refine q_aload_n dX11_keep_5 rfl ?_
    refine q_get (v := .ref 3) fX11_20_11 rfl rfl dX11_keep_6 ?_
    refine q_alen rfl (by decide) dX11_keep_9 ?_
    refine q_icmp_lt (tgt := 15) dX11_keep_10 (by decide) hk ⟨by omega, by omega⟩ (fun h10 => ?_) (fun h10 => ?_)
    · skip
      refine q_aload_n dX11_keep_15 rfl ?_
      refine q_get (v := .ref 7) fX11_34_11 rfl rfl dX11_keep_16 ?_
      refine q_get (v := q_i (ξ 7 0)) fX11_115_8 rfl rfl dX11_keep_19 ?_
      refine q_if_ne (tgt := 28) dX11_keep_22 (by decide) ⟨by omega, by omega⟩ (fun h22 => ?_) (fun h22 => ?_)
      · skip
        refine q_aload_n dX11_keep_28 rfl ?_
        refine q_get (v := .ref 3) fX11_20_11 rfl rfl dX11_keep_29 ?_
        refine q_iload_n dX11_keep_32 rfl ?_
        refine q_aald rfl (by decide) (by omega) (by omega) dX11_keep_33 ?_
        rw [x_kept_e (i := k) (by omega) (by omega)]
        show q_J _ _ _ _ _ _ _ (.ref (52 + 4 * k.toNat) :: _) _
        refine q_aload_n dX11_keep_34 rfl ?_
        refine q_get (v := .ref 7) fX11_34_11 rfl rfl dX11_keep_35 ?_
        refine q_get (v := .ref 10) fX11_152_8 rfl rfl dX11_keep_38 ?_
        refine q_cVv [.ref 10] kX11_191_9 (x_sO (x_isS_k (k := k) (by omega) (by omega))) (tX9_takeFrom w ξ B P g (52 + 4 * k.toNat) 10 (x_isS_k (k := k) (by omega) (by omega)) (Or.inl rfl) (by omega)) dX11_keep_41 rfl (by decide) (Nat.le_of_ble_eq_true rfl) rfl ?_
        refine q_aload_n dX11_keep_44 rfl ?_
        refine q_get (v := .ref 3) fX11_20_11 rfl rfl dX11_keep_45 ?_
        refine q_iload_n dX11_keep_48 rfl ?_
        refine q_aald rfl (by decide) (by omega) (by omega) dX11_keep_49 ?_
        rw [x_kept_e (i := k) (by omega) (by omega)]
        show q_J _ _ _ _ _ _ _ (.ref (52 + 4 * k.toNat) :: _) _
        refine q_get (v := q_i ((x_tf ξ (52 + 4 * k.toNat) 10) (52 + 4 * k.toNat) 0)) fX11_114_9 (x_sO (x_isS_k (k := k) (by omega) (by omega))) rfl dX11_keep_50 ?_
        exact q_iret rfl dX11_keep_53 (⟨by unfold m_keep_v; (repeat first | rw [if_pos (by omega)] | rw [if_neg (by omega)]); rw [show x_tf ξ (52 + 4 * k.toNat) 10 (52 + 4 * k.toNat) 0 = ξ 10 0 by (unfold x_tf; rw [m_un (by omega), m_un (by omega), m_un (by omega), m_us, q_us_s]), hn10], _, rfl, by unfold m_keep_s; (repeat first | rw [if_pos (by omega)] | rw [if_neg (by omega)]); exact hR.keep (by omega) (by omega) (by omega)⟩)
      · skip
        refine q_bipush dX11_keep_25 ?_
        exact q_iret rfl dX11_keep_27 (⟨by unfold m_keep_v; (repeat first | rw [if_pos (by omega)] | rw [if_neg (by omega)]), _, rfl, by unfold m_keep_s; (repeat first | rw [if_pos (by omega)] | rw [if_neg (by omega)]); exact hR⟩)
    · skip
      refine q_iconst dX11_keep_13 ?_
      exact q_iret rfl dX11_keep_14 (⟨by unfold m_keep_v; (repeat first | rw [if_pos (by omega)] | rw [if_neg (by omega)]), _, rfl, by unfold m_keep_s; (repeat first | rw [if_pos (by omega)] | rw [if_neg (by omega)]); exact hR⟩)
set_option maxRecDepth 20000 in
theorem tX11_on (w : q_W) (μ ξ : m_S) (B P : Nat) (g : Int → Option Nat) (hR : z_R μ ξ B P g) (k : Int) (hk : q_r k) : q_T mX11_on 6 0 0 [.ref 0, q_i k] (x_w w ξ B P g) (z_Q w B P g (q_i (m_on_v μ k)) (m_on_s μ k)) := by
  refine q_T.of (lv := [some (.ref 0), some (q_i k)]) (by decide) rfl (Nat.le_of_ble_eq_true rfl) ?_
  obtain ⟨hn7, hn80, hn81, hn82, hn10⟩ := hR.n
  have hSb := hR.Sh.b
  have hDb := hR.De.1
  have hPs := hR.Ps
  have hPs1 := hPs.1
  have hPs2 := hPs.2.1
  have hPs3 := hPs.2.2.1
  have hTs := hR.Ts
  have hV := hR.V
  refine q_iload_n dX11_on_0 rfl ?_
  refine q_if_lt (tgt := 13) dX11_on_1 (by decide) hk (fun h1 => ?_) (fun h1 => ?_)
  · skip
    refine q_iconst dX11_on_13 ?_
    exact q_iret rfl dX11_on_14 (⟨by unfold m_on_v; (repeat first | rw [if_pos (by omega)] | rw [if_neg (by omega)]), _, rfl, by unfold m_on_s; (repeat first | rw [if_pos (by omega)] | rw [if_neg (by omega)]); exact hR⟩)
  · skip
    refine q_iload_n dX11_on_4 rfl ?_
    refine q_aload_n dX11_on_5 rfl ?_
    refine q_get (v := .ref 3) fX11_20_11 rfl rfl dX11_on_6 ?_
    refine q_alen rfl (by decide) dX11_on_9 ?_
    refine q_icmp_lt (tgt := 15) dX11_on_10 (by decide) hk ⟨by omega, by omega⟩ (fun h10 => ?_) (fun h10 => ?_)
    · skip
      have hkk := hR.k (k := k) (by omega) (by omega)
      have hkz := hR.kz (k := k) (by omega) (by omega)
      refine q_aload_n dX11_on_15 rfl ?_
      refine q_get (v := .ref 3) fX11_20_11 rfl rfl dX11_on_16 ?_
      refine q_iload_n dX11_on_19 rfl ?_
      refine q_aald rfl (by decide) (by omega) (by omega) dX11_on_20 ?_
      rw [x_kept_e (i := k) (by omega) (by omega)]
      show q_J _ _ _ _ _ _ _ (.ref (52 + 4 * k.toNat) :: _) _
      refine q_get (v := q_i (ξ (52 + 4 * k.toNat) 0)) fX11_114_9 (x_sO (x_isS_k (k := k) (by omega) (by omega))) rfl dX11_on_21 ?_
      refine q_if_ge (tgt := 33) dX11_on_24 (by decide) ⟨by omega, by omega⟩ (fun h24 => ?_) (fun h24 => ?_)
      · skip
        have hkp := hR.kp (k := k) (by omega) (by omega) (by omega)
        have h4p : 1 ≤ μ 4 0 := hkp.2.1.2.2.2.1.1
        have hG := hR.G (by omega)
        refine q_aload_n dX11_on_33 rfl ?_
        refine q_get (v := .ref 7) fX11_34_11 rfl rfl dX11_on_34 ?_
        refine q_aload_n dX11_on_37 rfl ?_
        refine q_get (v := .ref 3) fX11_20_11 rfl rfl dX11_on_38 ?_
        refine q_iload_n dX11_on_41 rfl ?_
        refine q_aald rfl (by decide) (by omega) (by omega) dX11_on_42 ?_
        rw [x_kept_e (i := k) (by omega) (by omega)]
        show q_J _ _ _ _ _ _ _ (.ref (52 + 4 * k.toNat) :: _) _
        refine q_cVv [.ref (52 + 4 * k.toNat)] kX11_195_8 rfl (tX8_goOnFrom w ξ B P g (52 + 4 * k.toNat) (x_isS_k (k := k) (by omega) (by omega)) (by omega) hPs hG (fun q h0 h1 => (hTs q h0 h1).1) (fun q h0 h1 => by rw [hR.tf11 (by omega) (by omega) (by omega) h0 (by omega)]; exact (hkp.2.1.2.2.2.2 q h0 (by show q < μ 4 0; omega)).2.2) (hR.on0 (by omega) (by omega) (by omega)).xD) dX11_on_43 rfl (by decide) (Nat.le_of_ble_eq_true rfl) rfl ?_
        refine q_aload_n dX11_on_46 rfl ?_
        refine q_get (v := .ref 3) fX11_20_11 rfl rfl dX11_on_47 ?_
        refine q_iload_n dX11_on_50 rfl ?_
        refine q_aald rfl (by decide) (by omega) (by omega) dX11_on_51 ?_
        rw [x_kept_e (i := k) (by omega) (by omega)]
        show q_J _ _ _ _ _ _ _ (.ref (52 + 4 * k.toNat) :: _) _
        refine q_get (v := q_i ((x_wg (x_gs (x_tf ξ 10 (52 + 4 * k.toNat)) (ξ 7 0))) (52 + 4 * k.toNat) 0)) fX11_114_9 (x_sO (x_isS_k (k := k) (by omega) (by omega))) rfl dX11_on_52 ?_
        exact q_iret rfl dX11_on_55 (⟨by unfold m_on_v; (repeat first | rw [if_pos (by omega)] | rw [if_neg (by omega)]); rw [show (x_wg (x_gs (x_tf ξ 10 (52 + 4 * k.toNat)) (ξ 7 0))) (52 + 4 * k.toNat) = ξ (52 + 4 * k.toNat) from (m_un (by omega)).trans ((x_gk_k (by omega) (by omega) _ (by omega)).trans (x_tf_k (by omega))), hkk], _, rfl, by unfold m_on_s; (repeat first | rw [if_pos (by omega)] | rw [if_neg (by omega)]); exact hR.on (by omega) (by omega) (by omega)⟩)
      · skip
        refine q_aload_n dX11_on_27 rfl ?_
        refine q_iconst dX11_on_28 ?_
        refine q_cV [q_i 1] kX11_85_11 rfl (tX11_found w ξ B P g 1 (by decide) (by decide)) dX11_on_29 rfl (by decide) (Nat.le_of_ble_eq_true rfl) rfl ?_
        exact q_iret rfl dX11_on_32 (⟨by unfold m_on_v; (repeat first | rw [if_pos (by omega)] | rw [if_neg (by omega)]), _, rfl, by unfold m_on_s; (repeat first | rw [if_pos (by omega)] | rw [if_neg (by omega)]); exact hR.find 1⟩)
    · skip
      refine q_iconst dX11_on_13 ?_
      exact q_iret rfl dX11_on_14 (⟨by unfold m_on_v; (repeat first | rw [if_pos (by omega)] | rw [if_neg (by omega)]), _, rfl, by unfold m_on_s; (repeat first | rw [if_pos (by omega)] | rw [if_neg (by omega)]); exact hR⟩)
set_option maxRecDepth 20000 in
theorem tX11_lots (w : q_W) (μ ξ : m_S) (B P : Nat) (g : Int → Option Nat) (hR : z_R μ ξ B P g) (n e : Int) (hn : q_r n) (he : q_r e) : q_T mX11_lots 6 0 0 [.ref 0, q_i n, q_i e] (x_w w ξ B P g) (z_Q w B P g (q_i (m_lots_v μ n e)) (m_lots_s μ n e)) := by
  refine q_T.of (lv := [some (.ref 0), some (q_i n), some (q_i e)]) (by decide) rfl (Nat.le_of_ble_eq_true rfl) ?_
  obtain ⟨hn7, hn80, hn81, hn82, hn10⟩ := hR.n
  have hSb := hR.Sh.b
  have hDb := hR.De.1
  have hPs := hR.Ps
  have hPs1 := hPs.1
  have hPs2 := hPs.2.1
  have hPs3 := hPs.2.2.1
  have hTs := hR.Ts
  have hV := hR.V
  refine q_iload_n dX11_lots_0 rfl ?_
  refine q_iconst dX11_lots_1 ?_
  refine q_icmp_lt (tgt := 23) dX11_lots_2 (by decide) hn ⟨by decide, by decide⟩ (fun h2 => ?_) (fun h2 => ?_)
  · skip
    refine q_iconst dX11_lots_23 ?_
    exact q_iret rfl dX11_lots_24 (⟨by unfold m_lots_v; (repeat' split) <;> first | rfl | (exfalso; omega), _, rfl, by unfold m_lots_s; (repeat' split) <;> first | exact hR | (exfalso; omega)⟩)
  · skip
    refine q_iload_n dX11_lots_5 rfl ?_
    refine q_bipush dX11_lots_6 ?_
    refine q_icmp_gt (tgt := 23) dX11_lots_8 (by decide) hn ⟨by decide, by decide⟩ (fun h8 => ?_) (fun h8 => ?_)
    · skip
      refine q_iconst dX11_lots_23 ?_
      exact q_iret rfl dX11_lots_24 (⟨by unfold m_lots_v; (repeat' split) <;> first | rfl | (exfalso; omega), _, rfl, by unfold m_lots_s; (repeat' split) <;> first | exact hR | (exfalso; omega)⟩)
    · skip
      refine q_iload_n dX11_lots_11 rfl ?_
      refine q_iconst dX11_lots_12 ?_
      refine q_icmp_lt (tgt := 23) dX11_lots_13 (by decide) he ⟨by decide, by decide⟩ (fun h13 => ?_) (fun h13 => ?_)
      · skip
        refine q_iconst dX11_lots_23 ?_
        exact q_iret rfl dX11_lots_24 (⟨by unfold m_lots_v; (repeat' split) <;> first | rfl | (exfalso; omega), _, rfl, by unfold m_lots_s; (repeat' split) <;> first | exact hR | (exfalso; omega)⟩)
      · skip
        refine q_iload_n dX11_lots_16 rfl ?_
        refine q_ldcw 2147483646 wd_939 dX11_lots_17 ?_
        refine q_icmp_le (tgt := 25) dX11_lots_20 (by decide) he ⟨by decide, by decide⟩ (fun h20 => ?_) (fun h20 => ?_)
        · skip
          refine q_aload_n dX11_lots_25 rfl ?_
          refine q_get (v := .ref 7) fX11_34_11 rfl rfl dX11_lots_26 ?_
          refine q_get (v := q_i (ξ 7 0)) fX11_115_8 rfl rfl dX11_lots_29 ?_
          refine q_if_ne (tgt := 38) dX11_lots_32 (by decide) ⟨by omega, by omega⟩ (fun h32 => ?_) (fun h32 => ?_)
          · skip
            have hmG := hR.mG (by omega)
            have hmS := hmG.S
            refine q_aload_n dX11_lots_38 rfl ?_
            refine q_get (v := .ref 7) fX11_34_11 rfl rfl dX11_lots_39 ?_
            refine q_iload_n dX11_lots_42 rfl ?_
            refine q_iload_n dX11_lots_43 rfl ?_
            refine q_cV [q_i n, q_i e] kX11_313_8 rfl (tX8_shutByLots w ξ B P g n e (by omega) (by omega) (by omega) hPs hTs (hR.G (by omega))) dX11_lots_44 rfl (by decide) (Nat.le_of_ble_eq_true rfl) rfl ?_
            exact q_iret rfl dX11_lots_47 (⟨by unfold m_lots_v; (repeat first | rw [if_pos (by omega)] | rw [if_neg (by omega)]); unfold m_lots_c; rw [hn82], _, rfl, by unfold m_lots_s; (repeat first | rw [if_pos (by omega)] | rw [if_neg (by omega)]); exact (by unfold m_lots_c; rw [← hn82]; exact hR.lots (by omega) (by omega) (z_nx_r (by omega)) ⟨Int.tmod_nonneg _ (z_nx_r (by omega)).1, by rw [← hn82]; exact Int.tmod_lt_of_pos _ (by omega)⟩)⟩)
          · skip
            refine q_bipush dX11_lots_35 ?_
            exact q_iret rfl dX11_lots_37 (⟨by unfold m_lots_v; (repeat first | rw [if_pos (by omega)] | rw [if_neg (by omega)]), _, rfl, by unfold m_lots_s; (repeat first | rw [if_pos (by omega)] | rw [if_neg (by omega)]); exact hR⟩)
        · skip
          refine q_iconst dX11_lots_23 ?_
          exact q_iret rfl dX11_lots_24 (⟨by unfold m_lots_v; (repeat' split) <;> first | rfl | (exfalso; omega), _, rfl, by unfold m_lots_s; (repeat' split) <;> first | exact hR | (exfalso; omega)⟩)
