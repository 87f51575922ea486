/-! the class's calls, against the reference: persons, chances, orders, worths -/
set_option maxRecDepth 20000 in
theorem tX11_person (w : q_W) (μ ξ : m_S) (B P : Nat) (g : Int → Option Nat) (hR : z_R μ ξ B P g) (p t : Int) (hp : q_r p) (ht : q_r t) : q_T mX11_person 3 0 0 [.ref 0, q_i p, q_i t] (x_w w ξ B P g) (z_Q w B P g (q_i (m_person_v μ p t)) (m_person_s μ p t)) := by
  refine q_T.of (lv := [some (.ref 0), some (q_i p), some (q_i t), none]) (by decide) rfl (Nat.le_of_ble_eq_true rfl) ?_
  obtain ⟨hn7, hn80, hn81, hn82, hn10⟩ := hR.n
  have hSb := hR.Sh.b
  have hDb := hR.De.1
  have hPs := hR.Ps
  have hPs1 := hPs.1
  have hPs2 := hPs.2.1
  have hPs3 := hPs.2.2.1
  have hTs := hR.Ts
  have hV := hR.V
  have hD := hR.xD
  by_cases hq0 : 0 ≤ p ∧ p < ξ 7 0
  · skip
    obtain ⟨hp0, hp1⟩ := hq0
    refine q_aload_n dX11_person_0 rfl ?_
    refine q_get (v := .ref 7) fX11_34_11 rfl rfl dX11_person_1 ?_
    refine q_iload_n dX11_person_4 rfl ?_
    refine q_cV [q_i p] kX11_118_8 rfl (tX8_personAt_y w ξ B P g p (show (0 : Int) ≤ p by omega) (show p < ξ 7 0 by omega) hPs) dX11_person_5 rfl (by decide) (Nat.le_of_ble_eq_true rfl) rfl ?_
    refine q_astore_n (lv' := [some (.ref 0), some (q_i p), some (q_i t), some (.ref (B + p.toNat))]) dX11_person_8 (by decide) rfl ?_
    refine q_aload_n dX11_person_9 rfl ?_
    refine q_ifnullS dX11_person_10 ?_
    refine q_iload_n dX11_person_13 rfl ?_
    refine q_if_lt (tgt := 22) dX11_person_14 (by decide) ht (fun h14 => ?_) (fun h14 => ?_)
    · skip
      refine q_iconst dX11_person_22 ?_
      exact q_iret rfl dX11_person_23 (⟨by unfold m_person_v; (repeat first | rw [if_pos (by omega)] | rw [if_neg (by omega)]), _, rfl, by unfold m_person_s; (repeat first | rw [if_pos (by omega)] | rw [if_neg (by omega)]); exact hR⟩)
    · skip
      refine q_iload_n dX11_person_17 rfl ?_
      refine q_iconst dX11_person_18 ?_
      refine q_icmp_le (tgt := 24) dX11_person_19 (by decide) ht ⟨by decide, by decide⟩ (fun h19 => ?_) (fun h19 => ?_)
      · skip
        refine q_aload_n dX11_person_24 rfl ?_
        refine q_aload_n dX11_person_25 rfl ?_
        refine q_aload_n dX11_person_26 rfl ?_
        refine q_iload_n dX11_person_27 rfl ?_
        refine q_iload_n dX11_person_28 rfl ?_
        refine q_cV [.ref (B + p.toNat), q_i p, q_i t] kX11_122_11 rfl (tX11_factOf w ξ B P g p t (by omega) (by omega) (by omega) (by omega) hPs hTs hD) dX11_person_29 rfl (by decide) (Nat.le_of_ble_eq_true rfl) rfl ?_
        refine q_cVv [q_i (x_fct ξ p t)] kX11_75_11 rfl (tX11_tellNumber w ξ B P g (x_fct ξ p t)) dX11_person_32 rfl (by decide) (Nat.le_of_ble_eq_true rfl) rfl ?_
        refine q_iconst dX11_person_35 ?_
        exact q_iret rfl dX11_person_36 (⟨by unfold m_person_v; (repeat first | rw [if_pos (by omega)] | rw [if_neg (by omega)]), _, rfl, by unfold m_person_s; (repeat first | rw [if_pos (by omega)] | rw [if_neg (by omega)]); exact (by rw [← hR.fct hp0 (by omega) t]; exact hR.tell _)⟩)
      · skip
        refine q_iconst dX11_person_22 ?_
        exact q_iret rfl dX11_person_23 (⟨by unfold m_person_v; (repeat first | rw [if_pos (by omega)] | rw [if_neg (by omega)]), _, rfl, by unfold m_person_s; (repeat first | rw [if_pos (by omega)] | rw [if_neg (by omega)]); exact hR⟩)
  · skip
    refine q_aload_n dX11_person_0 rfl ?_
    refine q_get (v := .ref 7) fX11_34_11 rfl rfl dX11_person_1 ?_
    refine q_iload_n dX11_person_4 rfl ?_
    refine q_cV [q_i p] kX11_118_8 rfl (tX8_personAt_n w ξ B P g p (hp) (show ¬ (0 ≤ p ∧ p < ξ 7 0) by omega) hPs) dX11_person_5 rfl (by decide) (Nat.le_of_ble_eq_true rfl) rfl ?_
    refine q_astore_nN (lv' := [some (.ref 0), some (q_i p), some (q_i t), some (.null)]) dX11_person_8 (by decide) rfl ?_
    refine q_aload_nN dX11_person_9 rfl ?_
    refine q_ifnullN (tgt := 22) dX11_person_10 (by decide) ?_
    refine q_iconst dX11_person_22 ?_
    exact q_iret rfl dX11_person_23 (⟨by unfold m_person_v; (repeat first | rw [if_pos (by omega)] | rw [if_neg (by omega)]), _, rfl, by unfold m_person_s; (repeat first | rw [if_pos (by omega)] | rw [if_neg (by omega)]); exact hR⟩)
set_option maxRecDepth 20000 in
theorem tX11_likely (w : q_W) (μ ξ : m_S) (B P : Nat) (g : Int → Option Nat) (hR : z_R μ ξ B P g) (c : Int) (hc : q_r c) : q_T mX11_likely 3 0 0 [.ref 0, q_i c] (x_w w ξ B P g) (z_Q w B P g (q_i (m_likely_v μ c)) (m_likely_s μ c)) := by
  refine q_T.of (lv := [some (.ref 0), some (q_i c)]) (by decide) rfl (Nat.le_of_ble_eq_true rfl) ?_
  obtain ⟨hn7, hn80, hn81, hn82, hn10⟩ := hR.n
  have hSb := hR.Sh.b
  have hDb := hR.De.1
  have hPs := hR.Ps
  have hPs1 := hPs.1
  have hPs2 := hPs.2.1
  have hPs3 := hPs.2.2.1
  have hTs := hR.Ts
  have hV := hR.V
  refine q_aload_n dX11_likely_0 rfl ?_
  refine q_get (v := .ref 7) fX11_34_11 rfl rfl dX11_likely_1 ?_
  refine q_get (v := .ref 8) fX11_165_8 rfl rfl dX11_likely_4 ?_
  refine q_iload_n dX11_likely_7 rfl ?_
  refine q_cV [q_i c] kX11_169_10 rfl (tX10_isSetting w ξ B P g c (hc) (show 0 ≤ ξ 8 2 ∧ ξ 8 2 ≤ 216 by omega)) dX11_likely_8 rfl (by decide) (Nat.le_of_ble_eq_true rfl) rfl ?_
  refine q_ifb_ne (tgt := 16) dX11_likely_11 (by decide) (fun h11 => ?_) (fun h11 => ?_)
  · skip
    have hpo := hR.Po.2 (by omega)
    have hs6 := m_sum6 hR.mV
    have hse := hR.sum
    have hwc := hV c (by omega) (by omega)
    refine q_aload_n dX11_likely_16 rfl ?_
    refine q_aload_n dX11_likely_17 rfl ?_
    refine q_get (v := .ref 7) fX11_34_11 rfl rfl dX11_likely_18 ?_
    refine q_get (v := .ref 14) fX11_198_8 rfl rfl dX11_likely_21 ?_
    refine q_iload_n dX11_likely_24 rfl ?_
    refine q_lald (f := (ξ 14)) (n9 := 216) rfl (by omega) (by omega) dX11_likely_25 ?_
    refine q_aload_n dX11_likely_26 rfl ?_
    refine q_get (v := .ref 7) fX11_34_11 rfl rfl dX11_likely_27 ?_
    refine q_aload_n dX11_likely_30 rfl ?_
    refine q_get (v := .ref 7) fX11_34_11 rfl rfl dX11_likely_31 ?_
    refine q_get (v := .ref 14) fX11_198_8 rfl rfl dX11_likely_34 ?_
    refine q_cV [.ref 14] kX11_202_8 rfl (tX8_sumOf_14 w ξ B P g (show 0 ≤ ξ 8 2 ∧ ξ 8 2 ≤ 216 by omega)) dX11_likely_37 rfl (by decide) (Nat.le_of_ble_eq_true rfl) rfl ?_
    refine q_cV [q_l ((ξ 14) c), q_l (z_sum (ξ 14) (ξ 8 2))] kX11_206_11 rfl (tX11_tellChance w ξ B P g ((ξ 14) c) (z_sum (ξ 14) (ξ 8 2)) (by omega) (by omega) (by omega) (by omega)) dX11_likely_40 rfl (by decide) (Nat.le_of_ble_eq_true rfl) rfl ?_
    exact q_iret rfl dX11_likely_43 (⟨by unfold m_likely_v; (repeat first | rw [if_pos (by omega)] | rw [if_neg (by omega)]), _, rfl, by unfold m_likely_s; (repeat first | rw [if_pos (by omega)] | rw [if_neg (by omega)]); exact (by rw [← hR.w (c := c) (by omega) (by omega), ← hR.sum]; exact hR.tp _ _)⟩)
  · skip
    refine q_iconst dX11_likely_14 ?_
    exact q_iret rfl dX11_likely_15 (⟨by unfold m_likely_v; (repeat first | rw [if_pos (by omega)] | rw [if_neg (by omega)]), _, rfl, by unfold m_likely_s; (repeat first | rw [if_pos (by omega)] | rw [if_neg (by omega)]); exact hR⟩)
set_option maxRecDepth 20000 in
theorem tX11_best (w : q_W) (μ ξ : m_S) (B P : Nat) (g : Int → Option Nat) (hR : z_R μ ξ B P g) : q_T mX11_best 3 0 0 [.ref 0] (x_w w ξ B P g) (z_Q w B P g (q_i (m_best_v μ)) (m_best_s μ)) := by
  refine q_T.of (lv := [some (.ref 0), none]) (by decide) rfl (Nat.le_of_ble_eq_true rfl) ?_
  obtain ⟨hn7, hn80, hn81, hn82, hn10⟩ := hR.n
  have hSb := hR.Sh.b
  have hDb := hR.De.1
  have hPs := hR.Ps
  have hPs1 := hPs.1
  have hPs2 := hPs.2.1
  have hPs3 := hPs.2.2.1
  have hTs := hR.Ts
  have hV := hR.V
  refine q_aload_n dX11_best_0 rfl ?_
  refine q_get (v := .ref 7) fX11_34_11 rfl rfl dX11_best_1 ?_
  refine q_get (v := q_i (ξ 7 0)) fX11_115_8 rfl rfl dX11_best_4 ?_
  refine q_if_ne (tgt := 13) dX11_best_7 (by decide) ⟨by omega, by omega⟩ (fun h7 => ?_) (fun h7 => ?_)
  · skip
    have hmG := hR.mG (by omega)
    have hmS := hmG.S
    refine q_aload_n dX11_best_13 rfl ?_
    refine q_get (v := .ref 7) fX11_34_11 rfl rfl dX11_best_14 ?_
    refine q_aload_n dX11_best_17 rfl ?_
    refine q_get (v := .ref 7) fX11_34_11 rfl rfl dX11_best_18 ?_
    refine q_get (v := .ref 14) fX11_198_8 rfl rfl dX11_best_21 ?_
    refine q_cV [.ref 14] kX11_210_8 rfl (tX8_likeliest_14 w ξ B P g (show 0 ≤ ξ 8 2 ∧ ξ 8 2 ≤ 216 by omega) (fun c h0 h1 => ⟨(hV c h0 h1).1, Int.le_trans (hV c h0 h1).2 (by decide)⟩) (show (0:Int) < ξ 8 2 by omega)) dX11_best_24 rfl (by decide) (Nat.le_of_ble_eq_true rfl) rfl ?_
    refine q_istore_n (lv' := [some (.ref 0), some (q_i (z_am (ξ 14) (ξ 8 2)))]) dX11_best_27 (by decide) rfl ?_
    have har := z_am_r (ξ 14) (n := ξ 8 2) (by omega)
    have hva := hV (z_am (ξ 14) (ξ 8 2)) har.1 har.2
    refine q_aload_n dX11_best_28 rfl ?_
    refine q_aload_n dX11_best_29 rfl ?_
    refine q_get (v := .ref 7) fX11_34_11 rfl rfl dX11_best_30 ?_
    refine q_aload_n dX11_best_33 rfl ?_
    refine q_get (v := .ref 7) fX11_34_11 rfl rfl dX11_best_34 ?_
    refine q_get (v := .ref 14) fX11_198_8 rfl rfl dX11_best_37 ?_
    refine q_aload_n dX11_best_40 rfl ?_
    refine q_get (v := .ref 7) fX11_34_11 rfl rfl dX11_best_41 ?_
    refine q_get (v := .ref 14) fX11_198_8 rfl rfl dX11_best_44 ?_
    refine q_iload_n dX11_best_47 rfl ?_
    refine q_lald (f := (ξ 14)) (n9 := 216) rfl (by omega) (by omega) dX11_best_48 ?_
    refine q_cV [.ref 14, q_l ((ξ 14) (z_am (ξ 14) (ξ 8 2)))] kX11_214_8 rfl (tX8_howManyAre w ξ B P g ((ξ 14) (z_am (ξ 14) (ξ 8 2))) (by omega) (by omega) (fun c h0 h1 => ⟨(hV c h0 h1).1, Int.le_trans (hV c h0 h1).2 (by decide)⟩)) dX11_best_49 rfl (by decide) (Nat.le_of_ble_eq_true rfl) rfl ?_
    refine q_cVv [q_i (z_sum (fun c => if ξ 14 c = ((ξ 14) (z_am (ξ 14) (ξ 8 2))) then 1 else 0) (ξ 8 2))] kX11_75_11 rfl (tX11_tellNumber w ξ B P g (z_sum (fun c => if ξ 14 c = ((ξ 14) (z_am (ξ 14) (ξ 8 2))) then 1 else 0) (ξ 8 2))) dX11_best_52 rfl (by decide) (Nat.le_of_ble_eq_true rfl) rfl ?_
    refine q_iload_n dX11_best_55 rfl ?_
    exact q_iret rfl dX11_best_56 (⟨by unfold m_best_v; (repeat first | rw [if_pos (by omega)] | rw [if_neg (by omega)]); rw [hR.am], _, rfl, by unfold m_best_s; (repeat first | rw [if_pos (by omega)] | rw [if_neg (by omega)]); rw [← hR.ac (by omega)]; exact hR.tell _⟩)
  · skip
    refine q_bipush dX11_best_10 ?_
    exact q_iret rfl dX11_best_12 (⟨by unfold m_best_v; (repeat first | rw [if_pos (by omega)] | rw [if_neg (by omega)]), _, rfl, by unfold m_best_s; (repeat first | rw [if_pos (by omega)] | rw [if_neg (by omega)]); exact hR⟩)
set_option maxRecDepth 20000 in
theorem tX11_wheel (w : q_W) (μ ξ : m_S) (B P : Nat) (g : Int → Option Nat) (hR : z_R μ ξ B P g) (v n : Int) (hv : q_r v) (hn : q_r n) : q_T mX11_wheel 3 0 0 [.ref 0, q_i v, q_i n] (x_w w ξ B P g) (z_Q w B P g (q_i (m_wheel_v μ v n)) (m_wheel_s μ v n)) := by
  refine q_T.of (lv := [some (.ref 0), some (q_i v), some (q_i n)]) (by decide) rfl (Nat.le_of_ble_eq_true rfl) ?_
  obtain ⟨hn7, hn80, hn81, hn82, hn10⟩ := hR.n
  have hSb := hR.Sh.b
  have hDb := hR.De.1
  have hPs := hR.Ps
  have hPs1 := hPs.1
  have hPs2 := hPs.2.1
  have hPs3 := hPs.2.2.1
  have hTs := hR.Ts
  have hV := hR.V
  refine q_aload_n dX11_wheel_0 rfl ?_
  refine q_get (v := .ref 7) fX11_34_11 rfl rfl dX11_wheel_1 ?_
  refine q_get (v := .ref 8) fX11_165_8 rfl rfl dX11_wheel_4 ?_
  refine q_iload_n dX11_wheel_7 rfl ?_
  refine q_cV [q_i v] kX11_218_10 rfl (tX10_isWheel w ξ B P g v (hv) (show 0 ≤ ξ 8 0 ∧ ξ 8 0 ≤ 3 by omega)) dX11_wheel_8 rfl (by decide) (Nat.le_of_ble_eq_true rfl) rfl ?_
  refine q_ifb_eq (tgt := 32) dX11_wheel_11 (by decide) (fun h11 => ?_) (fun h11 => ?_)
  · skip
    refine q_iconst dX11_wheel_32 ?_
    exact q_iret rfl dX11_wheel_33 (⟨by unfold m_wheel_v; (repeat first | rw [if_pos (by omega)] | rw [if_neg (by omega)]), _, rfl, by unfold m_wheel_s; (repeat first | rw [if_pos (by omega)] | rw [if_neg (by omega)]); exact hR⟩)
  · skip
    refine q_iload_n dX11_wheel_14 rfl ?_
    refine q_if_lt (tgt := 32) dX11_wheel_15 (by decide) hn (fun h15 => ?_) (fun h15 => ?_)
    · skip
      refine q_iconst dX11_wheel_32 ?_
      exact q_iret rfl dX11_wheel_33 (⟨by unfold m_wheel_v; (repeat first | rw [if_pos (by omega)] | rw [if_neg (by omega)]), _, rfl, by unfold m_wheel_s; (repeat first | rw [if_pos (by omega)] | rw [if_neg (by omega)]); exact hR⟩)
    · skip
      refine q_iload_n dX11_wheel_18 rfl ?_
      refine q_aload_n dX11_wheel_19 rfl ?_
      refine q_get (v := .ref 7) fX11_34_11 rfl rfl dX11_wheel_20 ?_
      refine q_get (v := .ref 8) fX11_165_8 rfl rfl dX11_wheel_23 ?_
      refine q_get (v := q_i (ξ 8 1)) fX11_221_10 rfl rfl dX11_wheel_26 ?_
      refine q_icmp_lt (tgt := 34) dX11_wheel_29 (by decide) hn ⟨by omega, by omega⟩ (fun h29 => ?_) (fun h29 => ?_)
      · skip
        have hmG := hR.mG (by omega)
        have hmS := hmG.S
        have hpo := hR.Po.2 (by omega)
        have hs6 := m_sum6 hR.mV
        have hse := hR.sum
        have hwr := x_wa_r (ξ := ξ) (by omega) hV v n
        refine q_aload_n dX11_wheel_34 rfl ?_
        refine q_aload_n dX11_wheel_35 rfl ?_
        refine q_get (v := .ref 7) fX11_34_11 rfl rfl dX11_wheel_36 ?_
        refine q_iload_n dX11_wheel_39 rfl ?_
        refine q_iload_n dX11_wheel_40 rfl ?_
        refine q_cV [q_i v, q_i n] kX11_224_8 rfl (tX8_weightAt w ξ B P g v n (by omega) (by omega) hn (hR.G (by omega))) dX11_wheel_41 rfl (by decide) (Nat.le_of_ble_eq_true rfl) rfl ?_
        show q_J _ _ _ _ _ _ _ [q_l (x_wa ξ v n), .ref 0] (x_w w ξ B P g)
        refine q_aload_n dX11_wheel_44 rfl ?_
        refine q_get (v := .ref 7) fX11_34_11 rfl rfl dX11_wheel_45 ?_
        refine q_aload_n dX11_wheel_48 rfl ?_
        refine q_get (v := .ref 7) fX11_34_11 rfl rfl dX11_wheel_49 ?_
        refine q_get (v := .ref 14) fX11_198_8 rfl rfl dX11_wheel_52 ?_
        refine q_cV [.ref 14] kX11_202_8 rfl (tX8_sumOf_14 w ξ B P g (show 0 ≤ ξ 8 2 ∧ ξ 8 2 ≤ 216 by omega)) dX11_wheel_55 rfl (by decide) (Nat.le_of_ble_eq_true rfl) rfl ?_
        refine q_cV [q_l (x_wa ξ v n), q_l (z_sum (ξ 14) (ξ 8 2))] kX11_206_11 rfl (tX11_tellChance w ξ B P g (x_wa ξ v n) (z_sum (ξ 14) (ξ 8 2)) (by omega) (by omega) (by omega) (by omega)) dX11_wheel_58 rfl (by decide) (Nat.le_of_ble_eq_true rfl) rfl ?_
        exact q_iret rfl dX11_wheel_61 (⟨by unfold m_wheel_v; (repeat first | rw [if_pos (by omega)] | rw [if_neg (by omega)]), _, rfl, by unfold m_wheel_s; (repeat first | rw [if_pos (by omega)] | rw [if_neg (by omega)]); exact (by show z_R (m_tp μ (m_wa μ v n) _) _ B P g; rw [← hR.wa, ← hR.sum]; exact hR.tp _ _)⟩)
      · skip
        refine q_iconst dX11_wheel_32 ?_
        exact q_iret rfl dX11_wheel_33 (⟨by unfold m_wheel_v; (repeat first | rw [if_pos (by omega)] | rw [if_neg (by omega)]), _, rfl, by unfold m_wheel_s; (repeat first | rw [if_pos (by omega)] | rw [if_neg (by omega)]); exact hR⟩)
set_option maxRecDepth 20000 in
theorem tX11_certain (w : q_W) (μ ξ : m_S) (B P : Nat) (g : Int → Option Nat) (hR : z_R μ ξ B P g) : q_T mX11_certain 4 0 0 [.ref 0] (x_w w ξ B P g) (z_Q w B P g (q_i (m_certain_v μ)) (m_certain_s μ)) := by
  refine q_T.of (lv := [some (.ref 0), none, none, none, none]) (by decide) rfl (Nat.le_of_ble_eq_true rfl) ?_
  obtain ⟨hn7, hn80, hn81, hn82, hn10⟩ := hR.n
  have hSb := hR.Sh.b
  have hDb := hR.De.1
  have hPs := hR.Ps
  have hPs1 := hPs.1
  have hPs2 := hPs.2.1
  have hPs3 := hPs.2.2.1
  have hTs := hR.Ts
  have hV := hR.V
  refine q_aload_n dX11_certain_0 rfl ?_
  refine q_get (v := .ref 7) fX11_34_11 rfl rfl dX11_certain_1 ?_
  refine q_get (v := q_i (ξ 7 0)) fX11_115_8 rfl rfl dX11_certain_4 ?_
  refine q_if_ne (tgt := 13) dX11_certain_7 (by decide) ⟨by omega, by omega⟩ (fun h7 => ?_) (fun h7 => ?_)
  · skip
    have hmG := hR.mG (by omega)
    have hmS := hmG.S
    have hG := hR.G (by omega)
    have hW := hG.1.1
    have hN := hG.1.2
    refine q_iconst dX11_certain_13 ?_
    refine q_istore_n (lv' := [some (.ref 0), some (q_i 0), none, none, none]) dX11_certain_14 (by decide) rfl ?_
    refine q_iconst dX11_certain_15 ?_
    refine q_istore_n (lv' := [some (.ref 0), some (q_i 0), some (q_i 0), none, none]) dX11_certain_16 (by decide) rfl ?_
    refine q_iconst dX11_certain_17 ?_
    refine q_istore_n (lv' := [some (.ref 0), some (q_i 0), some (q_i 0), some (q_i 0), none]) dX11_certain_18 (by decide) rfl ?_
    have L19 : ∀ (m9 : Nat) (v : Int) (hv0 : 0 ≤ v) (hv1 : v ≤ ξ 8 0) (hm9 : ξ 8 0 - v < (m9 : Int)), q_J mX11_certain 4 (z_Q w B P g (q_i (m_certain_v μ)) (m_certain_s μ)) 0 0 19 [some (.ref 0), some (q_i (z_bits (m_sure μ) v)), some (q_i (z_tens (m_sure μ) v)), some (q_i v), none] [] (x_w w ξ B P g) := by
      intro m9
      induction m9 with
      | zero => intro v hv0 hv1 hm9; exact absurd hm9 (by omega)
      | succ m9 ih19 =>
        intro v hv0 hv1 hm9
        refine q_iload_n dX11_certain_19 rfl ?_
        refine q_aload_n dX11_certain_20 rfl ?_
        refine q_get (v := .ref 7) fX11_34_11 rfl rfl dX11_certain_21 ?_
        refine q_get (v := .ref 8) fX11_165_8 rfl rfl dX11_certain_24 ?_
        refine q_get (v := q_i (ξ 8 0)) fX11_228_10 rfl rfl dX11_certain_27 ?_
        refine q_icmp_ge (tgt := 82) dX11_certain_30 (by decide) ⟨by omega, by omega⟩ ⟨by omega, by omega⟩ (fun h30 => ?_) (fun h30 => ?_)
        · skip
          refine q_aload_n dX11_certain_82 rfl ?_
          refine q_iload_n dX11_certain_83 rfl ?_
          refine q_cVv [q_i (z_tens (m_sure μ) v)] kX11_75_11 rfl (tX11_tellNumber w ξ B P g (z_tens (m_sure μ) v)) dX11_certain_84 rfl (by decide) (Nat.le_of_ble_eq_true rfl) rfl ?_
          refine q_iload_n dX11_certain_87 rfl ?_
          exact q_iret rfl dX11_certain_88 (⟨by unfold m_certain_v; (repeat first | rw [if_pos (by omega)] | rw [if_neg (by omega)]); rw [show v = μ 1 0 by omega], _, rfl, by unfold m_certain_s; (repeat first | rw [if_pos (by omega)] | rw [if_neg (by omega)]); rw [show v = μ 1 0 by omega]; exact hR.tell _⟩)
        · skip
          refine q_aload_n dX11_certain_33 rfl ?_
          refine q_get (v := .ref 7) fX11_34_11 rfl rfl dX11_certain_34 ?_
          refine q_iload_n dX11_certain_37 rfl ?_
          refine q_cV [q_i v] kX11_229_8 rfl (tX8_certainNotch w ξ B P g v hv0 (by omega) hG hV) dX11_certain_38 rfl (by decide) (Nat.le_of_ble_eq_true rfl) rfl ?_
          refine q_istore (lv' := [some (.ref 0), some (q_i (z_bits (m_sure μ) v)), some (q_i (z_tens (m_sure μ) v)), some (q_i v), some (q_i (if x_wa ξ v (x_cn ξ v) = z_sum (ξ 14) (ξ 8 2) then x_cn ξ v else -9))]) dX11_certain_41 (by decide) rfl ?_
          have hsv := hR.sure (by omega) hv0 (show v < μ 1 0 by omega)
          have hfa := z_fa_p (ξ 14) (S := ξ 8 2) (by omega)
          have hcn : 0 ≤ x_cn ξ v ∧ x_cn ξ v < ξ 8 1 := z_nt_in hG.1 hfa.1.1 hv0 (by omega)
          by_cases hce : x_wa ξ v (x_cn ξ v) = z_sum (ξ 14) (ξ 8 2)
          · skip
            rw [if_pos hce] at hsv ⊢
            refine q_iload_n dX11_certain_43 rfl ?_
            refine q_iload dX11_certain_44 rfl ?_
            refine q_if_lt (tgt := 55) dX11_certain_46 (by decide) ⟨by omega, by omega⟩ (fun h46 => False.elim (by omega)) (fun h46 => ?_)
            refine q_iconst dX11_certain_49 ?_
            refine q_iload_n dX11_certain_50 rfl ?_
            refine q_ishl dX11_certain_51 ?_
            refine q_goto (tgt := 56) dX11_certain_52 (by decide) ?_
            refine q_ior dX11_certain_56 ?_
            refine q_istore_n (lv' := [some (.ref 0), some (q_i (q_or (z_bits (m_sure μ) v) (q_shl 1 v))), some (q_i (z_tens (m_sure μ) v)), some (q_i v), some (q_i (x_cn ξ v))]) dX11_certain_57 (by decide) rfl ?_
            refine q_bipush dX11_certain_58 ?_
            refine q_iload_n dX11_certain_60 rfl ?_
            refine q_imul dX11_certain_61 ?_
            refine q_iload dX11_certain_62 rfl ?_
            refine q_if_lt (tgt := 72) dX11_certain_64 (by decide) ⟨by omega, by omega⟩ (fun h64 => False.elim (by omega)) (fun h64 => ?_)
            refine q_iload dX11_certain_67 rfl ?_
            refine q_goto (tgt := 74) dX11_certain_69 (by decide) ?_
            refine q_iadd dX11_certain_74 ?_
            refine q_istore_n (lv' := [some (.ref 0), some (q_i (q_or (z_bits (m_sure μ) v) (q_shl 1 v))), some (q_i ((10 * (z_tens (m_sure μ) v)) + (x_cn ξ v))), some (q_i v), some (q_i (x_cn ξ v))]) dX11_certain_75 (by decide) rfl ?_
            refine q_iinc (lv' := [some (.ref 0), some (q_i (q_or (z_bits (m_sure μ) v) (q_shl 1 v))), some (q_i ((10 * (z_tens (m_sure μ) v)) + (x_cn ξ v))), some (q_i (v + 1)), some (q_i (x_cn ξ v))]) dX11_certain_76 rfl (by decide) rfl ?_
            refine q_goto (tgt := 19) dX11_certain_79 (by decide) ?_
            exact q_Jle (q_le_s (rfl) (q_le_s (by rw [z_bits_s _ hv0, hsv]; (repeat first | rw [if_pos (by omega)] | rw [if_neg (by omega)])) (q_le_s (by rw [z_tens_s _ hv0, hsv]) (q_le_s (rfl) (q_le_n (q_le_e _)))))) (rfl) (rfl) (ih19 (v + 1) (by omega) (by omega) (by omega))
          · skip
            rw [if_neg hce] at hsv ⊢
            refine q_iload_n dX11_certain_43 rfl ?_
            refine q_iload dX11_certain_44 rfl ?_
            refine q_if_lt (tgt := 55) dX11_certain_46 (by decide) ⟨by decide, by decide⟩ (fun h46 => ?_) (fun h46 => False.elim (by omega))
            refine q_iconst dX11_certain_55 ?_
            refine q_ior dX11_certain_56 ?_
            refine q_istore_n (lv' := [some (.ref 0), some (q_i (q_or (z_bits (m_sure μ) v) 0)), some (q_i (z_tens (m_sure μ) v)), some (q_i v), some (q_i (-9))]) dX11_certain_57 (by decide) rfl ?_
            refine q_bipush dX11_certain_58 ?_
            refine q_iload_n dX11_certain_60 rfl ?_
            refine q_imul dX11_certain_61 ?_
            refine q_iload dX11_certain_62 rfl ?_
            refine q_if_lt (tgt := 72) dX11_certain_64 (by decide) ⟨by decide, by decide⟩ (fun h64 => ?_) (fun h64 => False.elim (by omega))
            refine q_bipush dX11_certain_72 ?_
            refine q_iadd dX11_certain_74 ?_
            refine q_istore_n (lv' := [some (.ref 0), some (q_i (q_or (z_bits (m_sure μ) v) 0)), some (q_i ((10 * (z_tens (m_sure μ) v)) + 9)), some (q_i v), some (q_i (-9))]) dX11_certain_75 (by decide) rfl ?_
            refine q_iinc (lv' := [some (.ref 0), some (q_i (q_or (z_bits (m_sure μ) v) 0)), some (q_i ((10 * (z_tens (m_sure μ) v)) + 9)), some (q_i (v + 1)), some (q_i (-9))]) dX11_certain_76 rfl (by decide) rfl ?_
            refine q_goto (tgt := 19) dX11_certain_79 (by decide) ?_
            exact q_Jle (q_le_s (rfl) (q_le_s (by rw [z_bits_s _ hv0, hsv]; (repeat first | rw [if_pos (by omega)] | rw [if_neg (by omega)])) (q_le_s (by rw [z_tens_s _ hv0, hsv]) (q_le_s (rfl) (q_le_n (q_le_e _)))))) (rfl) (rfl) (ih19 (v + 1) (by omega) (by omega) (by omega))
    exact q_Jle (q_le_s (rfl) (q_le_s (rfl) (q_le_s (rfl) (q_le_s (rfl) (q_le_n (q_le_e _)))))) (rfl) (rfl) (L19 ((ξ 8 0 : Int).toNat + 1) 0 (by omega) (by omega) (by omega))
  · skip
    refine q_bipush dX11_certain_10 ?_
    exact q_iret rfl dX11_certain_12 (⟨by unfold m_certain_v; (repeat first | rw [if_pos (by omega)] | rw [if_neg (by omega)]), _, rfl, by unfold m_certain_s; (repeat first | rw [if_pos (by omega)] | rw [if_neg (by omega)]); exact hR⟩)
theorem z_R.srt {μ ξ : m_S} {B P : Nat} {g : Int → Option Nat} (h : z_R μ ξ B P g) : z_R (m_srt μ) (x_srt ξ) B P g := (h.s16 (x_so ξ)).mm (by decide) (m_so μ)
set_option maxRecDepth 20000 in
theorem tX11_tries (w : q_W) (μ ξ : m_S) (B P : Nat) (g : Int → Option Nat) (hR : z_R μ ξ B P g) : q_T mX11_tries 3 0 0 [.ref 0] (x_w w ξ B P g) (z_Q w B P g (q_i (m_tries_v μ)) (m_tries_s μ)) := by
  refine q_T.of (lv := [some (.ref 0)]) (by decide) rfl (Nat.le_of_ble_eq_true rfl) ?_
  obtain ⟨hn7, hn80, hn81, hn82, hn10⟩ := hR.n
  have hSb := hR.Sh.b
  have hDb := hR.De.1
  have hPs := hR.Ps
  have hPs1 := hPs.1
  have hPs2 := hPs.2.1
  have hPs3 := hPs.2.2.1
  have hTs := hR.Ts
  have hV := hR.V
  refine q_aload_n dX11_tries_0 rfl ?_
  refine q_get (v := .ref 7) fX11_34_11 rfl rfl dX11_tries_1 ?_
  refine q_get (v := q_i (ξ 7 0)) fX11_115_8 rfl rfl dX11_tries_4 ?_
  refine q_if_ne (tgt := 13) dX11_tries_7 (by decide) ⟨by omega, by omega⟩ (fun h7 => ?_) (fun h7 => ?_)
  · skip
    have hmG := hR.mG (by omega)
    have hmS := hmG.S
    have hpo := hR.Po.2 (by omega)
    have hs6 := m_sum6 hR.mV
    have hse := hR.sum
    have hzp := hR.zpos
    have hzr := z_pos_r (μ 6) (n := μ 3 0) (by omega)
    have htr := m_tsum_r hR.mV hzr.1 (Int.le_refl _)
    refine q_aload_n dX11_tries_13 rfl ?_
    refine q_aload_n dX11_tries_14 rfl ?_
    refine q_get (v := .ref 7) fX11_34_11 rfl rfl dX11_tries_15 ?_
    refine q_cV [] kX11_246_8 rfl (tX8_triesInAll w ξ B P g (by omega) hV) dX11_tries_18 rfl (by decide) (Nat.le_of_ble_eq_true rfl) rfl ?_
    refine q_aload_n dX11_tries_21 rfl ?_
    refine q_get (v := .ref 7) fX11_34_11 rfl rfl dX11_tries_22 ?_
    refine q_aload_n dX11_tries_25 rfl ?_
    refine q_get (v := .ref 7) fX11_34_11 rfl rfl dX11_tries_26 ?_
    refine q_get (v := .ref 14) fX11_198_8 rfl rfl dX11_tries_29 ?_
    refine q_cV [.ref 14] kX11_202_8 rfl (tX8_sumOf_14 w (x_srt ξ) B P g (show 0 ≤ ξ 8 2 ∧ ξ 8 2 ≤ 216 by omega)) dX11_tries_32 rfl (by decide) (Nat.le_of_ble_eq_true rfl) rfl ?_
    show q_J _ _ _ _ _ _ _ [q_l (z_sum (ξ 14) (ξ 8 2)), q_l (z_sum (fun j => (j + 1) * ξ 14 (x_so ξ j)) (z_pos (ξ 14) (ξ 8 2))), .ref 0] (x_w w (x_srt ξ) B P g)
    refine q_cV [q_l (z_sum (fun j => (j + 1) * ξ 14 (x_so ξ j)) (z_pos (ξ 14) (ξ 8 2))), q_l (z_sum (ξ 14) (ξ 8 2))] kX11_206_11 rfl (tX11_tellChance w (x_srt ξ) B P g (z_sum (fun j => (j + 1) * ξ 14 (x_so ξ j)) (z_pos (ξ 14) (ξ 8 2))) (z_sum (ξ 14) (ξ 8 2)) (by rw [hR.tsum]; omega) (by rw [hR.tsum]; omega) (by omega) (by omega)) dX11_tries_35 rfl (by decide) (Nat.le_of_ble_eq_true rfl) rfl ?_
    exact q_iret rfl dX11_tries_38 (⟨by unfold m_tries_v; (repeat first | rw [if_pos (by omega)] | rw [if_neg (by omega)]), _, rfl, by unfold m_tries_s; (repeat first | rw [if_pos (by omega)] | rw [if_neg (by omega)]); exact (by rw [← hR.tsum, ← hR.sum]; exact hR.srt.tp _ _)⟩)
  · skip
    refine q_bipush dX11_tries_10 ?_
    exact q_iret rfl dX11_tries_12 (⟨by unfold m_tries_v; (repeat first | rw [if_pos (by omega)] | rw [if_neg (by omega)]), _, rfl, by unfold m_tries_s; (repeat first | rw [if_pos (by omega)] | rw [if_neg (by omega)]); exact hR⟩)
set_option maxRecDepth 20000 in
theorem tX11_within (w : q_W) (μ ξ : m_S) (B P : Nat) (g : Int → Option Nat) (hR : z_R μ ξ B P g) (n : Int) (hn : q_r n) : q_T mX11_within 3 0 0 [.ref 0, q_i n] (x_w w ξ B P g) (z_Q w B P g (q_i (m_within_v μ n)) (m_within_s μ n)) := by
  refine q_T.of (lv := [some (.ref 0), some (q_i n)]) (by decide) rfl (Nat.le_of_ble_eq_true rfl) ?_
  obtain ⟨hn7, hn80, hn81, hn82, hn10⟩ := hR.n
  have hSb := hR.Sh.b
  have hDb := hR.De.1
  have hPs := hR.Ps
  have hPs1 := hPs.1
  have hPs2 := hPs.2.1
  have hPs3 := hPs.2.2.1
  have hTs := hR.Ts
  have hV := hR.V
  refine q_iload_n dX11_within_0 rfl ?_
  refine q_if_lt (tgt := 11) dX11_within_1 (by decide) hn (fun h1 => ?_) (fun h1 => ?_)
  · skip
    refine q_iconst dX11_within_11 ?_
    exact q_iret rfl dX11_within_12 (⟨by unfold m_within_v; (repeat first | rw [if_pos (by omega)] | rw [if_neg (by omega)]), _, rfl, by unfold m_within_s; (repeat first | rw [if_pos (by omega)] | rw [if_neg (by omega)]); exact hR⟩)
  · skip
    refine q_iload_n dX11_within_4 rfl ?_
    refine q_sipush dX11_within_5 ?_
    refine q_icmp_le (tgt := 13) dX11_within_8 (by decide) hn ⟨by decide, by decide⟩ (fun h8 => ?_) (fun h8 => ?_)
    · skip
      refine q_aload_n dX11_within_13 rfl ?_
      refine q_get (v := .ref 7) fX11_34_11 rfl rfl dX11_within_14 ?_
      refine q_get (v := q_i (ξ 7 0)) fX11_115_8 rfl rfl dX11_within_17 ?_
      refine q_if_ne (tgt := 26) dX11_within_20 (by decide) ⟨by omega, by omega⟩ (fun h20 => ?_) (fun h20 => ?_)
      · skip
        have hmG := hR.mG (by omega)
        have hmS := hmG.S
        have hpo := hR.Po.2 (by omega)
        have hs6 := m_sum6 hR.mV
        have hse := hR.sum
        have hzp := hR.zpos
        have hzr := z_pos_r (μ 6) (n := μ 3 0) (by omega)
        have hmn : 0 ≤ m_many μ n ∧ m_many μ n ≤ z_pos (μ 6) (μ 3 0) := by unfold m_many z_min; split <;> omega
        have hwr := m_wsum_r hR.mV hmn.1 hmn.2
        refine q_aload_n dX11_within_26 rfl ?_
        refine q_aload_n dX11_within_27 rfl ?_
        refine q_get (v := .ref 7) fX11_34_11 rfl rfl dX11_within_28 ?_
        refine q_iload_n dX11_within_31 rfl ?_
        refine q_cV [q_i n] kX11_249_8 rfl (tX8_weightOfFirst w ξ B P g n (by omega) (by omega) hV) dX11_within_32 rfl (by decide) (Nat.le_of_ble_eq_true rfl) rfl ?_
        refine q_aload_n dX11_within_35 rfl ?_
        refine q_get (v := .ref 7) fX11_34_11 rfl rfl dX11_within_36 ?_
        refine q_aload_n dX11_within_39 rfl ?_
        refine q_get (v := .ref 7) fX11_34_11 rfl rfl dX11_within_40 ?_
        refine q_get (v := .ref 14) fX11_198_8 rfl rfl dX11_within_43 ?_
        refine q_cV [.ref 14] kX11_202_8 rfl (tX8_sumOf_14 w (x_srt ξ) B P g (show 0 ≤ ξ 8 2 ∧ ξ 8 2 ≤ 216 by omega)) dX11_within_46 rfl (by decide) (Nat.le_of_ble_eq_true rfl) rfl ?_
        show q_J _ _ _ _ _ _ _ [q_l (z_sum (ξ 14) (ξ 8 2)), q_l (z_sum (fun j => ξ 14 (x_so ξ j)) (z_min n (z_pos (ξ 14) (ξ 8 2)))), .ref 0] (x_w w (x_srt ξ) B P g)
        refine q_cV [q_l (z_sum (fun j => ξ 14 (x_so ξ j)) (z_min n (z_pos (ξ 14) (ξ 8 2)))), q_l (z_sum (ξ 14) (ξ 8 2))] kX11_206_11 rfl (tX11_tellChance w (x_srt ξ) B P g (z_sum (fun j => ξ 14 (x_so ξ j)) (z_min n (z_pos (ξ 14) (ξ 8 2)))) (z_sum (ξ 14) (ξ 8 2)) (by rw [hR.wsum]; omega) (by rw [hR.wsum]; omega) (by omega) (by omega)) dX11_within_49 rfl (by decide) (Nat.le_of_ble_eq_true rfl) rfl ?_
        exact q_iret rfl dX11_within_52 (⟨by unfold m_within_v; (repeat first | rw [if_pos (by omega)] | rw [if_neg (by omega)]), _, rfl, by unfold m_within_s; (repeat first | rw [if_pos (by omega)] | rw [if_neg (by omega)]); exact (by rw [← hR.wsum, ← hR.sum]; exact hR.srt.tp _ _)⟩)
      · skip
        refine q_bipush dX11_within_23 ?_
        exact q_iret rfl dX11_within_25 (⟨by unfold m_within_v; (repeat first | rw [if_pos (by omega)] | rw [if_neg (by omega)]), _, rfl, by unfold m_within_s; (repeat first | rw [if_pos (by omega)] | rw [if_neg (by omega)]); exact hR⟩)
    · skip
      refine q_iconst dX11_within_11 ?_
      exact q_iret rfl dX11_within_12 (⟨by unfold m_within_v; (repeat first | rw [if_pos (by omega)] | rw [if_neg (by omega)]), _, rfl, by unfold m_within_s; (repeat first | rw [if_pos (by omega)] | rw [if_neg (by omega)]); exact hR⟩)
theorem z_R.ord {μ ξ : m_S} {B P : Nat} {g : Int → Option Nat} (h : z_R μ ξ B P g) {r n : Int} (h0 : 0 ≤ r) (h1 : r < 6) (hn0 : 1 ≤ n) (hn1 : n ≤ 40) : z_R (m_u (m_mk (m_srt μ) r (m_many μ n)) 8 (q_cpy (m_so μ) (q_fl (μ 8) (40 * r) 40 0) 0 (40 * r) (m_many μ n))) (m_u (x_mr (x_srt ξ) (32 + 2 * r.toNat) (m_many μ n) 0) (32 + 2 * r.toNat + 1) (q_cpy (x_so ξ) (x_mr (x_srt ξ) (32 + 2 * r.toNat) (m_many μ n) 0 (32 + 2 * r.toNat + 1)) 0 0 (m_many μ n))) B P g := by
  have hzr := z_pos_r (μ 6) (n := μ 3 0) h.mV.1.1
  have hmn : 0 ≤ m_many μ n ∧ m_many μ n ≤ z_pos (μ 6) (μ 3 0) ∧ m_many μ n ≤ n := by unfold m_many z_min; split <;> omega
  have hk := h.srt.mk h0 h1 hmn.1 (by omega)
  have hz := hk.rz h0 h1
  have e7 : m_mk (m_srt μ) r (m_many μ n) 7 r = m_many μ n := q_us_s _ _ _
  refine hk.ra (hk.1.set h0 h1 hz.1 ?_ ?_ ?_ ?_ ?_ ?_) ?_ ?_
  · rw [m_un (by omega)]
    exact hz.2
  · intro j a0 a1
    have a1 : j < m_mk (m_srt μ) r (m_many μ n) 7 r := a1
    rw [e7] at a1
    rw [m_us]
    show q_cpy _ _ 0 0 _ j = q_cpy (m_so μ) _ 0 (40 * r) (m_many μ n) (40 * r + j)
    rw [q_cpy_i _ _ (by omega) (by omega), q_cpy_i _ _ (by omega) (by omega), h.so (by omega) (by omega)]
    congr 1
    omega
  · intro q _
    rfl
  · intro q y hq a0 a1
    show q_cpy (m_so μ) _ 0 (40 * r) (m_many μ n) (40 * q + y) = q_fl (μ 8) (40 * r) 40 0 (40 * q + y)
    rw [q_cpy_o _ _ (by omega)]
  · intro k _ _ k0 k1
    exact m_un k1
  · intro j
    show q_r (q_cpy (m_so μ) (q_fl (μ 8) (40 * r) 40 0) 0 (40 * r) (m_many μ n) j)
    unfold q_cpy
    split
    · rename_i hj
      have hr := m_so_r h.mV (j := 0 + (j - 40 * r)) (by omega) (by omega)
      have hS := h.mV.1
      exact ⟨by omega, by omega⟩
    · exact z_fl_r h.1.2 _ _ q_r0 j
  · intro k _ k0 k1
    exact m_un k1
  · intro k k0 _ _ _ _ _ _
    exact m_un (by omega)
set_option maxRecDepth 20000 in
theorem tX11_order (w : q_W) (μ ξ : m_S) (B P : Nat) (g : Int → Option Nat) (hR : z_R μ ξ B P g) (n r : Int) (hn : q_r n) (hr : q_r r) : q_T mX11_order 3 0 0 [.ref 0, q_i n, q_i r] (x_w w ξ B P g) (z_Q w B P g (q_i (m_order_v μ n r)) (m_order_s μ n r)) := by
  refine q_T.of (lv := [some (.ref 0), some (q_i n), some (q_i r), none, none]) (by decide) rfl (Nat.le_of_ble_eq_true rfl) ?_
  obtain ⟨hn7, hn80, hn81, hn82, hn10⟩ := hR.n
  have hSb := hR.Sh.b
  have hDb := hR.De.1
  have hPs := hR.Ps
  have hPs1 := hPs.1
  have hPs2 := hPs.2.1
  have hPs3 := hPs.2.2.1
  have hTs := hR.Ts
  have hV := hR.V
  by_cases hq0 : 0 ≤ r ∧ r < 6
  · skip
    obtain ⟨hr0, hr1⟩ := hq0
    have hzr := hR.rz (r := r) hr0 hr1
    refine q_aload_n dX11_order_0 rfl ?_
    refine q_get (v := .ref 1) fX11_11_11 rfl rfl dX11_order_1 ?_
    refine q_iload_n dX11_order_4 rfl ?_
    refine q_cS [.ref 1, q_i r] kX11_60 (tX11_among_1y w ξ B P g r (by omega) (by omega)) dX11_order_5 rfl (by decide) (Nat.le_of_ble_eq_true rfl) rfl ?_
    refine q_astore_n (lv' := [some (.ref 0), some (q_i n), some (q_i r), some (.ref (32 + 2 * r.toNat)), none]) dX11_order_8 (by decide) rfl ?_
    refine q_aload_n dX11_order_9 rfl ?_
    refine q_ifnullS dX11_order_10 ?_
    refine q_iload_n dX11_order_13 rfl ?_
    refine q_iconst dX11_order_14 ?_
    refine q_icmp_lt (tgt := 24) dX11_order_15 (by decide) hn ⟨by decide, by decide⟩ (fun h15 => ?_) (fun h15 => ?_)
    · skip
      refine q_iconst dX11_order_24 ?_
      exact q_iret rfl dX11_order_25 (⟨by unfold m_order_v; (repeat' split) <;> first | rfl | (exfalso; omega), _, rfl, by unfold m_order_s; (repeat' split) <;> first | exact hR | (exfalso; omega)⟩)
    · skip
      refine q_iload_n dX11_order_18 rfl ?_
      refine q_bipush dX11_order_19 ?_
      refine q_icmp_le (tgt := 26) dX11_order_21 (by decide) hn ⟨by decide, by decide⟩ (fun h21 => ?_) (fun h21 => ?_)
      · skip
        refine q_aload_n dX11_order_26 rfl ?_
        refine q_get (v := .ref 7) fX11_34_11 rfl rfl dX11_order_27 ?_
        refine q_get (v := q_i (ξ 7 0)) fX11_115_8 rfl rfl dX11_order_30 ?_
        refine q_if_ne (tgt := 39) dX11_order_33 (by decide) ⟨by omega, by omega⟩ (fun h33 => ?_) (fun h33 => ?_)
        · skip
          have hmG := hR.mG (by omega)
          have hmS := hmG.S
          have hzp := hR.zpos
          have hzr := z_pos_r (μ 6) (n := μ 3 0) (by omega)
          have hmn : 0 ≤ (m_many μ n) ∧ (m_many μ n) ≤ z_pos (μ 6) (μ 3 0) ∧ (m_many μ n) ≤ n := by unfold m_many z_min; split <;> omega
          refine q_iload_n dX11_order_39 rfl ?_
          refine q_aload_n dX11_order_40 rfl ?_
          refine q_get (v := .ref 7) fX11_34_11 rfl rfl dX11_order_41 ?_
          refine q_cV [] kX11_232_8 rfl (tX8_sortCodes w ξ B P g (by omega) hV) dX11_order_44 rfl (by decide) (Nat.le_of_ble_eq_true rfl) rfl ?_
          refine q_jmin wd_817 wd_292 wd_68 wd_293 (by decide) (Nat.le_of_ble_eq_true rfl) hn ⟨by omega, by omega⟩ dX11_order_47 ?_
          rw [show (if z_pos (ξ 14) (ξ 8 2) < n then z_pos (ξ 14) (ξ 8 2) else n) = (m_many μ n) by rw [hzp]; exact z_min_e _ _]
          refine q_istore (lv' := [some (.ref 0), some (q_i n), some (q_i r), some (.ref (32 + 2 * r.toNat)), some (q_i (m_many μ n))]) dX11_order_50 (by decide) rfl ?_
          refine q_aload_n dX11_order_52 rfl ?_
          refine q_iload dX11_order_53 rfl ?_
          refine q_iconst dX11_order_55 ?_
          refine q_cVv [q_i (m_many μ n), q_i 0] kX11_240_7 (x_rO (x_isR_rows hr0 hr1)) (tX7_make w (x_srt ξ) B P g (32 + 2 * r.toNat) 40 (x_isR_rows hr0 hr1) (by rw [show x_srt ξ (32 + 2 * r.toNat) = ξ (32 + 2 * r.toNat) from m_un (by omega)]; omega) (m_many μ n) 0 (by omega) (by omega)) dX11_order_56 rfl (by decide) (Nat.le_of_ble_eq_true rfl) rfl ?_
          refine q_aload_n dX11_order_59 rfl ?_
          refine q_get (v := .ref 7) fX11_34_11 rfl rfl dX11_order_60 ?_
          refine q_get (v := .ref 16) fX11_243_8 rfl rfl dX11_order_63 ?_
          refine q_iconst dX11_order_66 ?_
          refine q_aload_n dX11_order_67 rfl ?_
          refine q_get (v := .ref ((32 + 2 * r.toNat) + 1)) fX11_72_7 (x_rO (x_isR_rows hr0 hr1)) rfl dX11_order_68 ?_
          refine q_iconst dX11_order_71 ?_
          refine q_iload dX11_order_72 rfl ?_
          refine q_copyi wd_334 wd_336 wd_335 wd_70 rfl (x_rP (x_isR_rows hr0 hr1)) (by omega) (by omega) (by omega) (by omega) (by omega) (by decide) (Nat.le_of_ble_eq_true rfl) dX11_order_74 ?_
          refine q_Jeq rfl rfl (x_rP_u (x_isR_rows hr0 hr1) _) ?_
          refine q_iload dX11_order_77 rfl ?_
          exact q_iret rfl dX11_order_79 (⟨by unfold m_order_v; (repeat first | rw [if_pos (by omega)] | rw [if_neg (by omega)]), _, rfl, by unfold m_order_s; (repeat first | rw [if_pos (by omega)] | rw [if_neg (by omega)]); exact (by have hx16 : (x_mr (x_srt ξ) (32 + 2 * r.toNat) (m_many μ n) 0) 16 = x_so ξ := (m_un (by omega)).trans (m_un (by omega)); show z_R _ (m_u (x_mr (x_srt ξ) (32 + 2 * r.toNat) (m_many μ n) 0) ((32 + 2 * r.toNat) + 1) (q_cpy ((x_mr (x_srt ξ) (32 + 2 * r.toNat) (m_many μ n) 0) 16) ((x_mr (x_srt ξ) (32 + 2 * r.toNat) (m_many μ n) 0) ((32 + 2 * r.toNat) + 1)) 0 0 (m_many μ n))) B P g; rw [hx16]; exact hR.ord hr0 hr1 (by omega) (by omega))⟩)
        · skip
          refine q_bipush dX11_order_36 ?_
          exact q_iret rfl dX11_order_38 (⟨by unfold m_order_v; (repeat first | rw [if_pos (by omega)] | rw [if_neg (by omega)]), _, rfl, by unfold m_order_s; (repeat first | rw [if_pos (by omega)] | rw [if_neg (by omega)]); exact hR⟩)
      · skip
        refine q_iconst dX11_order_24 ?_
        exact q_iret rfl dX11_order_25 (⟨by unfold m_order_v; (repeat' split) <;> first | rfl | (exfalso; omega), _, rfl, by unfold m_order_s; (repeat' split) <;> first | exact hR | (exfalso; omega)⟩)
  · skip
    refine q_aload_n dX11_order_0 rfl ?_
    refine q_get (v := .ref 1) fX11_11_11 rfl rfl dX11_order_1 ?_
    refine q_iload_n dX11_order_4 rfl ?_
    refine q_cS [.ref 1, q_i r] kX11_60 (tX11_among_1n w ξ B P g r (hr) (by omega)) dX11_order_5 rfl (by decide) (Nat.le_of_ble_eq_true rfl) rfl ?_
    refine q_astore_nN (lv' := [some (.ref 0), some (q_i n), some (q_i r), some (.null), none]) dX11_order_8 (by decide) rfl ?_
    refine q_aload_nN dX11_order_9 rfl ?_
    refine q_ifnullN (tgt := 24) dX11_order_10 (by decide) ?_
    refine q_iconst dX11_order_24 ?_
    exact q_iret rfl dX11_order_25 (⟨by unfold m_order_v; (repeat' split) <;> first | rfl | (exfalso; omega), _, rfl, by unfold m_order_s; (repeat' split) <;> first | exact hR | (exfalso; omega)⟩)
set_option maxRecDepth 20000 in
theorem tX11_worth (w : q_W) (μ ξ : m_S) (B P : Nat) (g : Int → Option Nat) (hR : z_R μ ξ B P g) (p : Int) (hp : q_r p) : q_T mX11_worth 4 0 0 [.ref 0, q_i p] (x_w w ξ B P g) (z_Q w B P g (q_i (m_worth_v μ p)) (m_worth_s μ p)) := by
  refine q_T.of (lv := [some (.ref 0), some (q_i p), none]) (by decide) rfl (Nat.le_of_ble_eq_true rfl) ?_
  obtain ⟨hn7, hn80, hn81, hn82, hn10⟩ := hR.n
  have hSb := hR.Sh.b
  have hDb := hR.De.1
  have hPs := hR.Ps
  have hPs1 := hPs.1
  have hPs2 := hPs.2.1
  have hPs3 := hPs.2.2.1
  have hTs := hR.Ts
  have hV := hR.V
  by_cases hq0 : 0 ≤ p ∧ p < ξ 7 0
  · skip
    obtain ⟨hp0, hp1⟩ := hq0
    refine q_aload_n dX11_worth_0 rfl ?_
    refine q_get (v := .ref 7) fX11_34_11 rfl rfl dX11_worth_1 ?_
    refine q_iload_n dX11_worth_4 rfl ?_
    refine q_cV [q_i p] kX11_118_8 rfl (tX8_personAt_y w ξ B P g p (show (0 : Int) ≤ p by omega) (show p < ξ 7 0 by omega) hPs) dX11_worth_5 rfl (by decide) (Nat.le_of_ble_eq_true rfl) rfl ?_
    refine q_astore_n (lv' := [some (.ref 0), some (q_i p), some (.ref (B + p.toNat))]) dX11_worth_8 (by decide) rfl ?_
    refine q_aload_n dX11_worth_9 rfl ?_
    refine q_ifnonnullS (tgt := 15) dX11_worth_10 (by decide) ?_
    have hmG := hR.mG (by omega)
    have hmS := hmG.S
    have hpo := hR.Po.2 (by omega)
    have hs6 := m_sum6 hR.mV
    have hse := hR.sum
    have hinp := hR.inn (p := p) hp0 (by omega)
    have hinr := m_inall_r hmG (p := p) hp0 (by omega)
    have htp := m_tpb hmG hR.mV hpo hp0 (show p < μ 4 0 by omega)
    have hml := z_mul2 (show 0 ≤ z_sum (μ 6) (μ 3 0) ∧ z_sum (μ 6) (μ 3 0) ≤ 927712935936 by omega) (show 0 ≤ m_inall μ p ∧ m_inall μ p ≤ 216 by omega)
    have hwoe := hR.wo (p := p) hp0 (by omega)
    have hwor := m_wo_r hmG hR.mV p
    refine q_aload_n dX11_worth_15 rfl ?_
    refine q_aload_n dX11_worth_16 rfl ?_
    refine q_get (v := .ref 7) fX11_34_11 rfl rfl dX11_worth_17 ?_
    refine q_aload_n dX11_worth_20 rfl ?_
    refine q_cV [.ref (B + p.toNat)] kX11_253_8 rfl (tX8_worthOf w ξ B P g p hp0 hp1 hPs hTs (hR.G (by omega)) hV) dX11_worth_21 rfl (by decide) (Nat.le_of_ble_eq_true rfl) rfl ?_
    refine q_aload_n dX11_worth_24 rfl ?_
    refine q_get (v := .ref 7) fX11_34_11 rfl rfl dX11_worth_25 ?_
    refine q_aload_n dX11_worth_28 rfl ?_
    refine q_get (v := .ref 7) fX11_34_11 rfl rfl dX11_worth_29 ?_
    refine q_get (v := .ref 14) fX11_198_8 rfl rfl dX11_worth_32 ?_
    refine q_cV [.ref 14] kX11_202_8 rfl (tX8_sumOf_14 w (m_u ξ 15 (x_gc ξ p 0 (ξ 8 2))) B P g (show 0 ≤ ξ 8 2 ∧ ξ 8 2 ≤ 216 by omega)) dX11_worth_35 rfl (by decide) (Nat.le_of_ble_eq_true rfl) rfl ?_
    show q_J _ _ _ _ _ _ _ [q_l (z_sum (ξ 14) (ξ 8 2)), q_l (x_wo ξ p), .ref 0] (x_w w (m_u ξ 15 (x_gc ξ p 0 (ξ 8 2))) B P g)
    refine q_aload_n dX11_worth_38 rfl ?_
    refine q_get (v := q_i (ξ 1004 p)) (fPX11_257 _) (x_pOi (p := p) (by omega) (by omega) (by omega)) rfl dX11_worth_39 ?_
    refine q_i2lr dX11_worth_42 ⟨by omega, by omega⟩ ?_
    refine q_lmul dX11_worth_43 ?_
    refine q_cV [q_l (x_wo ξ p), q_l ((z_sum (ξ 14) (ξ 8 2)) * (ξ 1004 p))] kX11_206_11 rfl (tX11_tellChance w (m_u ξ 15 (x_gc ξ p 0 (ξ 8 2))) B P g (x_wo ξ p) ((z_sum (ξ 14) (ξ 8 2)) * (ξ 1004 p)) (by rw [hwoe]; omega) (by rw [hwoe]; omega) (by rw [hse, hinp]; omega) (by rw [hse, hinp]; omega)) dX11_worth_44 rfl (by decide) (Nat.le_of_ble_eq_true rfl) rfl ?_
    exact q_iret rfl dX11_worth_47 (⟨by unfold m_worth_v; (repeat first | rw [if_pos (by omega)] | rw [if_neg (by omega)]), _, rfl, by unfold m_worth_s; (repeat first | rw [if_pos (by omega)] | rw [if_neg (by omega)]); exact (by rw [← hwoe, ← hse, ← hinp]; exact (hR.s15 _).tp _ _)⟩)
  · skip
    refine q_aload_n dX11_worth_0 rfl ?_
    refine q_get (v := .ref 7) fX11_34_11 rfl rfl dX11_worth_1 ?_
    refine q_iload_n dX11_worth_4 rfl ?_
    refine q_cV [q_i p] kX11_118_8 rfl (tX8_personAt_n w ξ B P g p (hp) (show ¬ (0 ≤ p ∧ p < ξ 7 0) by omega) hPs) dX11_worth_5 rfl (by decide) (Nat.le_of_ble_eq_true rfl) rfl ?_
    refine q_astore_nN (lv' := [some (.ref 0), some (q_i p), some (.null)]) dX11_worth_8 (by decide) rfl ?_
    refine q_aload_nN dX11_worth_9 rfl ?_
    refine q_ifnonnullN dX11_worth_10 ?_
    refine q_iconst dX11_worth_13 ?_
    exact q_iret rfl dX11_worth_14 (⟨by unfold m_worth_v; (repeat first | rw [if_pos (by omega)] | rw [if_neg (by omega)]), _, rfl, by unfold m_worth_s; (repeat first | rw [if_pos (by omega)] | rw [if_neg (by omega)]); exact hR⟩)
set_option maxRecDepth 20000 in
theorem tX11_seen (w : q_W) (μ ξ : m_S) (B P : Nat) (g : Int → Option Nat) (hR : z_R μ ξ B P g) (p s : Int) (hp : q_r p) (hs : q_r s) : q_T mX11_seen 3 0 0 [.ref 0, q_i p, q_i s] (x_w w ξ B P g) (z_Q w B P g (q_i (m_seen_v μ p s)) (m_seen_s μ p s)) := by
  refine q_T.of (lv := [some (.ref 0), some (q_i p), some (q_i s), none]) (by decide) rfl (Nat.le_of_ble_eq_true rfl) ?_
  obtain ⟨hn7, hn80, hn81, hn82, hn10⟩ := hR.n
  have hSb := hR.Sh.b
  have hDb := hR.De.1
  have hPs := hR.Ps
  have hPs1 := hPs.1
  have hPs2 := hPs.2.1
  have hPs3 := hPs.2.2.1
  have hTs := hR.Ts
  have hV := hR.V
  by_cases hq0 : 0 ≤ p ∧ p < ξ 7 0
  · skip
    obtain ⟨hp0, hp1⟩ := hq0
    refine q_aload_n dX11_seen_0 rfl ?_
    refine q_get (v := .ref 7) fX11_34_11 rfl rfl dX11_seen_1 ?_
    refine q_iload_n dX11_seen_4 rfl ?_
    refine q_cV [q_i p] kX11_118_8 rfl (tX8_personAt_y w ξ B P g p (show (0 : Int) ≤ p by omega) (show p < ξ 7 0 by omega) hPs) dX11_seen_5 rfl (by decide) (Nat.le_of_ble_eq_true rfl) rfl ?_
    refine q_astore_n (lv' := [some (.ref 0), some (q_i p), some (q_i s), some (.ref (B + p.toNat))]) dX11_seen_8 (by decide) rfl ?_
    refine q_aload_n dX11_seen_9 rfl ?_
    refine q_ifnullS dX11_seen_10 ?_
    refine q_aload_n dX11_seen_13 rfl ?_
    refine q_get (v := .ref 7) fX11_34_11 rfl rfl dX11_seen_14 ?_
    refine q_get (v := .ref 8) fX11_165_8 rfl rfl dX11_seen_17 ?_
    refine q_iload_n dX11_seen_20 rfl ?_
    refine q_cV [q_i s] kX11_169_10 rfl (tX10_isSetting w ξ B P g s (hs) (show 0 ≤ ξ 8 2 ∧ ξ 8 2 ≤ 216 by omega)) dX11_seen_21 rfl (by decide) (Nat.le_of_ble_eq_true rfl) rfl ?_
    refine q_ifb_ne (tgt := 29) dX11_seen_24 (by decide) (fun h24 => ?_) (fun h24 => ?_)
    · skip
      have hmG := hR.mG (by omega)
      have hmS := hmG.S
      have hpo := hR.Po.2 (by omega)
      have hs6 := m_sum6 hR.mV
      have hse := hR.sum
      have hinp := hR.inn (p := p) hp0 (by omega)
      have hinr := m_inall_r hmG (p := p) hp0 (by omega)
      have htp := m_tpb hmG hR.mV hpo hp0 (show p < μ 4 0 by omega)
      have hml := z_mul2 (show 0 ≤ z_sum (μ 6) (μ 3 0) ∧ z_sum (μ 6) (μ 3 0) ≤ 927712935936 by omega) (show 0 ≤ m_inall μ p ∧ m_inall μ p ≤ 216 by omega)
      have hgc := hR.gcs (p := p) hp0 (by omega) (s := s) (by omega) (by omega)
      have hsbr := m_sb_r hmG hR.mV p s
      refine q_aload_n dX11_seen_29 rfl ?_
      refine q_get (v := .ref 7) fX11_34_11 rfl rfl dX11_seen_30 ?_
      refine q_aload_n dX11_seen_33 rfl ?_
      refine q_iconst dX11_seen_34 ?_
      refine q_cVv [.ref (B + p.toNat), q_i 1] kX11_267_8 rfl (tX8_gather_1 w ξ B P g p hp0 hp1 hPs hTs (hR.G (by omega)) hV) dX11_seen_35 rfl (by decide) (Nat.le_of_ble_eq_true rfl) rfl ?_
      refine q_aload_n dX11_seen_38 rfl ?_
      refine q_aload_n dX11_seen_39 rfl ?_
      refine q_get (v := .ref 7) fX11_34_11 rfl rfl dX11_seen_40 ?_
      refine q_get (v := .ref 15) fX11_271_8 rfl rfl dX11_seen_43 ?_
      refine q_iload_n dX11_seen_46 rfl ?_
      refine q_lald (f := (x_gc ξ p 1 (ξ 8 2))) (n9 := 216) rfl (by omega) (by omega) dX11_seen_47 ?_
      refine q_aload_n dX11_seen_48 rfl ?_
      refine q_get (v := .ref 7) fX11_34_11 rfl rfl dX11_seen_49 ?_
      refine q_aload_n dX11_seen_52 rfl ?_
      refine q_get (v := .ref 7) fX11_34_11 rfl rfl dX11_seen_53 ?_
      refine q_get (v := .ref 14) fX11_198_8 rfl rfl dX11_seen_56 ?_
      refine q_cV [.ref 14] kX11_202_8 rfl (tX8_sumOf_14 w (m_u ξ 15 (x_gc ξ p 1 (ξ 8 2))) B P g (show 0 ≤ ξ 8 2 ∧ ξ 8 2 ≤ 216 by omega)) dX11_seen_59 rfl (by decide) (Nat.le_of_ble_eq_true rfl) rfl ?_
      show q_J _ _ _ _ _ _ _ [q_l (z_sum (ξ 14) (ξ 8 2)), q_l ((x_gc ξ p 1 (ξ 8 2)) s), .ref 0] (x_w w (m_u ξ 15 (x_gc ξ p 1 (ξ 8 2))) B P g)
      refine q_aload_n dX11_seen_62 rfl ?_
      refine q_get (v := q_i (ξ 1004 p)) (fPX11_257 _) (x_pOi (p := p) (by omega) (by omega) (by omega)) rfl dX11_seen_63 ?_
      refine q_i2lr dX11_seen_66 ⟨by omega, by omega⟩ ?_
      refine q_lmul dX11_seen_67 ?_
      refine q_cV [q_l ((x_gc ξ p 1 (ξ 8 2)) s), q_l ((z_sum (ξ 14) (ξ 8 2)) * (ξ 1004 p))] kX11_206_11 rfl (tX11_tellChance w (m_u ξ 15 (x_gc ξ p 1 (ξ 8 2))) B P g ((x_gc ξ p 1 (ξ 8 2)) s) ((z_sum (ξ 14) (ξ 8 2)) * (ξ 1004 p)) (by rw [hgc]; omega) (by rw [hgc]; omega) (by rw [hse, hinp]; omega) (by rw [hse, hinp]; omega)) dX11_seen_68 rfl (by decide) (Nat.le_of_ble_eq_true rfl) rfl ?_
      exact q_iret rfl dX11_seen_71 (⟨by unfold m_seen_v; (repeat first | rw [if_pos (by omega)] | rw [if_neg (by omega)]), _, rfl, by unfold m_seen_s; (repeat first | rw [if_pos (by omega)] | rw [if_neg (by omega)]); exact (by rw [← hgc, ← hse, ← hinp]; exact (hR.s15 _).tp _ _)⟩)
    · skip
      refine q_iconst dX11_seen_27 ?_
      exact q_iret rfl dX11_seen_28 (⟨by unfold m_seen_v; (repeat first | rw [if_pos (by omega)] | rw [if_neg (by omega)]), _, rfl, by unfold m_seen_s; (repeat first | rw [if_pos (by omega)] | rw [if_neg (by omega)]); exact hR⟩)
  · skip
    refine q_aload_n dX11_seen_0 rfl ?_
    refine q_get (v := .ref 7) fX11_34_11 rfl rfl dX11_seen_1 ?_
    refine q_iload_n dX11_seen_4 rfl ?_
    refine q_cV [q_i p] kX11_118_8 rfl (tX8_personAt_n w ξ B P g p (hp) (show ¬ (0 ≤ p ∧ p < ξ 7 0) by omega) hPs) dX11_seen_5 rfl (by decide) (Nat.le_of_ble_eq_true rfl) rfl ?_
    refine q_astore_nN (lv' := [some (.ref 0), some (q_i p), some (q_i s), some (.null)]) dX11_seen_8 (by decide) rfl ?_
    refine q_aload_nN dX11_seen_9 rfl ?_
    refine q_ifnullN (tgt := 27) dX11_seen_10 (by decide) ?_
    refine q_iconst dX11_seen_27 ?_
    exact q_iret rfl dX11_seen_28 (⟨by unfold m_seen_v; (repeat first | rw [if_pos (by omega)] | rw [if_neg (by omega)]), _, rfl, by unfold m_seen_s; (repeat first | rw [if_pos (by omega)] | rw [if_neg (by omega)]); exact hR⟩)
set_option maxRecDepth 20000 in
theorem tX11_sights (w : q_W) (μ ξ : m_S) (B P : Nat) (g : Int → Option Nat) (hR : z_R μ ξ B P g) (p : Int) (hp : q_r p) : q_T mX11_sights 3 0 0 [.ref 0, q_i p] (x_w w ξ B P g) (z_Q w B P g (q_i (m_sights_v μ p)) (m_sights_s μ p)) := by
  refine q_T.of (lv := [some (.ref 0), some (q_i p), none]) (by decide) rfl (Nat.le_of_ble_eq_true rfl) ?_
  obtain ⟨hn7, hn80, hn81, hn82, hn10⟩ := hR.n
  have hSb := hR.Sh.b
  have hDb := hR.De.1
  have hPs := hR.Ps
  have hPs1 := hPs.1
  have hPs2 := hPs.2.1
  have hPs3 := hPs.2.2.1
  have hTs := hR.Ts
  have hV := hR.V
  by_cases hq0 : 0 ≤ p ∧ p < ξ 7 0
  · skip
    obtain ⟨hp0, hp1⟩ := hq0
    refine q_aload_n dX11_sights_0 rfl ?_
    refine q_get (v := .ref 7) fX11_34_11 rfl rfl dX11_sights_1 ?_
    refine q_iload_n dX11_sights_4 rfl ?_
    refine q_cV [q_i p] kX11_118_8 rfl (tX8_personAt_y w ξ B P g p (show (0 : Int) ≤ p by omega) (show p < ξ 7 0 by omega) hPs) dX11_sights_5 rfl (by decide) (Nat.le_of_ble_eq_true rfl) rfl ?_
    refine q_astore_n (lv' := [some (.ref 0), some (q_i p), some (.ref (B + p.toNat))]) dX11_sights_8 (by decide) rfl ?_
    refine q_aload_n dX11_sights_9 rfl ?_
    refine q_ifnonnullS (tgt := 15) dX11_sights_10 (by decide) ?_
    have hmG := hR.mG (by omega)
    have hmS := hmG.S
    refine q_aload_n dX11_sights_15 rfl ?_
    refine q_get (v := .ref 7) fX11_34_11 rfl rfl dX11_sights_16 ?_
    refine q_aload_n dX11_sights_19 rfl ?_
    refine q_iconst dX11_sights_20 ?_
    refine q_cVv [.ref (B + p.toNat), q_i 1] kX11_267_8 rfl (tX8_gather_1 w ξ B P g p hp0 hp1 hPs hTs (hR.G (by omega)) hV) dX11_sights_21 rfl (by decide) (Nat.le_of_ble_eq_true rfl) rfl ?_
    refine q_aload_n dX11_sights_24 rfl ?_
    refine q_aload_n dX11_sights_25 rfl ?_
    refine q_get (v := .ref 7) fX11_34_11 rfl rfl dX11_sights_26 ?_
    refine q_aload_n dX11_sights_29 rfl ?_
    refine q_get (v := .ref 7) fX11_34_11 rfl rfl dX11_sights_30 ?_
    refine q_get (v := .ref 15) fX11_271_8 rfl rfl dX11_sights_33 ?_
    refine q_cV [.ref 15] kX11_210_8 rfl (tX8_likeliest_15 w (m_u ξ 15 (x_gc ξ p 1 (ξ 8 2))) B P g (show 0 ≤ ξ 8 2 ∧ ξ 8 2 ≤ 216 by omega) (fun c h0 h1 => by have h1 : c < ξ 8 2 := h1; show 0 ≤ (x_gc ξ p 1 (ξ 8 2)) c ∧ (x_gc ξ p 1 (ξ 8 2)) c ≤ _; rw [hR.gcs hp0 (by omega) h0 (by omega)]; have q := m_sb_r hmG hR.mV p c; omega) (show (0:Int) < ξ 8 2 by omega)) dX11_sights_36 rfl (by decide) (Nat.le_of_ble_eq_true rfl) rfl ?_
    show q_J _ _ _ _ _ _ _ [q_i (z_am (x_gc ξ p 1 (ξ 8 2)) (ξ 8 2)), .ref 0] (x_w w (m_u ξ 15 (x_gc ξ p 1 (ξ 8 2))) B P g)
    refine q_cVv [q_i (z_am (x_gc ξ p 1 (ξ 8 2)) (ξ 8 2))] kX11_75_11 rfl (tX11_tellNumber w (m_u ξ 15 (x_gc ξ p 1 (ξ 8 2))) B P g (z_am (x_gc ξ p 1 (ξ 8 2)) (ξ 8 2))) dX11_sights_39 rfl (by decide) (Nat.le_of_ble_eq_true rfl) rfl ?_
    refine q_aload_n dX11_sights_42 rfl ?_
    refine q_get (v := .ref 7) fX11_34_11 rfl rfl dX11_sights_43 ?_
    refine q_aload_n dX11_sights_46 rfl ?_
    refine q_get (v := .ref 7) fX11_34_11 rfl rfl dX11_sights_47 ?_
    refine q_get (v := .ref 15) fX11_271_8 rfl rfl dX11_sights_50 ?_
    refine q_cV [.ref 15] kX11_274_8 rfl (tX8_howManyAbove_15 w (x_tn (m_u ξ 15 (x_gc ξ p 1 (ξ 8 2))) (z_am (x_gc ξ p 1 (ξ 8 2)) (ξ 8 2))) B P g (show 0 ≤ ξ 8 2 ∧ ξ 8 2 ≤ 216 by omega) (fun c h0 h1 => by have h1 : c < ξ 8 2 := h1; show 0 ≤ (x_gc ξ p 1 (ξ 8 2)) c ∧ (x_gc ξ p 1 (ξ 8 2)) c ≤ _; rw [hR.gcs hp0 (by omega) h0 (by omega)]; have q := m_sb_r hmG hR.mV p c; omega)) dX11_sights_53 rfl (by decide) (Nat.le_of_ble_eq_true rfl) rfl ?_
    show q_J _ _ _ _ _ _ _ [q_i (z_pos ((x_tn (m_u ξ 15 (x_gc ξ p 1 (ξ 8 2))) (z_am (x_gc ξ p 1 (ξ 8 2)) (ξ 8 2))) 15) (ξ 8 2))] (x_w w (x_tn (m_u ξ 15 (x_gc ξ p 1 (ξ 8 2))) (z_am (x_gc ξ p 1 (ξ 8 2)) (ξ 8 2))) B P g)
    exact q_iret rfl dX11_sights_56 (⟨by unfold m_sights_v; (repeat first | rw [if_pos (by omega)] | rw [if_neg (by omega)]); rw [← hR.sgn hp0 (by omega)]; rfl, _, rfl, by unfold m_sights_s; (repeat first | rw [if_pos (by omega)] | rw [if_neg (by omega)]); rw [← hR.sgt hp0 (by omega)]; exact (hR.s15 _).tell _⟩)
  · skip
    refine q_aload_n dX11_sights_0 rfl ?_
    refine q_get (v := .ref 7) fX11_34_11 rfl rfl dX11_sights_1 ?_
    refine q_iload_n dX11_sights_4 rfl ?_
    refine q_cV [q_i p] kX11_118_8 rfl (tX8_personAt_n w ξ B P g p (hp) (show ¬ (0 ≤ p ∧ p < ξ 7 0) by omega) hPs) dX11_sights_5 rfl (by decide) (Nat.le_of_ble_eq_true rfl) rfl ?_
    refine q_astore_nN (lv' := [some (.ref 0), some (q_i p), some (.null)]) dX11_sights_8 (by decide) rfl ?_
    refine q_aload_nN dX11_sights_9 rfl ?_
    refine q_ifnonnullN dX11_sights_10 ?_
    refine q_iconst dX11_sights_13 ?_
    exact q_iret rfl dX11_sights_14 (⟨by unfold m_sights_v; (repeat first | rw [if_pos (by omega)] | rw [if_neg (by omega)]), _, rfl, by unfold m_sights_s; (repeat first | rw [if_pos (by omega)] | rw [if_neg (by omega)]); exact hR⟩)
set_option maxRecDepth 20000 in
theorem tX11_who (w : q_W) (μ ξ : m_S) (B P : Nat) (g : Int → Option Nat) (hR : z_R μ ξ B P g) (c s : Int) (hc : q_r c) (hs : q_r s) : q_T mX11_who 3 0 0 [.ref 0, q_i c, q_i s] (x_w w ξ B P g) (z_Q w B P g (q_i (m_who_v μ c s)) (m_who_s μ c s)) := by
  refine q_T.of (lv := [some (.ref 0), some (q_i c), some (q_i s)]) (by decide) rfl (Nat.le_of_ble_eq_true rfl) ?_
  obtain ⟨hn7, hn80, hn81, hn82, hn10⟩ := hR.n
  have hSb := hR.Sh.b
  have hDb := hR.De.1
  have hPs := hR.Ps
  have hPs1 := hPs.1
  have hPs2 := hPs.2.1
  have hPs3 := hPs.2.2.1
  have hTs := hR.Ts
  have hV := hR.V
  refine q_aload_n dX11_who_0 rfl ?_
  refine q_get (v := .ref 7) fX11_34_11 rfl rfl dX11_who_1 ?_
  refine q_get (v := .ref 8) fX11_165_8 rfl rfl dX11_who_4 ?_
  refine q_iload_n dX11_who_7 rfl ?_
  refine q_cV [q_i c] kX11_169_10 rfl (tX10_isSetting w ξ B P g c (hc) (show 0 ≤ ξ 8 2 ∧ ξ 8 2 ≤ 216 by omega)) dX11_who_8 rfl (by decide) (Nat.le_of_ble_eq_true rfl) rfl ?_
  refine q_ifb_eq (tgt := 28) dX11_who_11 (by decide) (fun h11 => ?_) (fun h11 => ?_)
  · skip
    refine q_iconst dX11_who_28 ?_
    exact q_iret rfl dX11_who_29 (⟨by unfold m_who_v; (repeat first | rw [if_pos (by omega)] | rw [if_neg (by omega)]), _, rfl, by unfold m_who_s; (repeat first | rw [if_pos (by omega)] | rw [if_neg (by omega)]); exact hR⟩)
  · skip
    refine q_aload_n dX11_who_14 rfl ?_
    refine q_get (v := .ref 7) fX11_34_11 rfl rfl dX11_who_15 ?_
    refine q_get (v := .ref 8) fX11_165_8 rfl rfl dX11_who_18 ?_
    refine q_iload_n dX11_who_21 rfl ?_
    refine q_cV [q_i s] kX11_169_10 rfl (tX10_isSetting w ξ B P g s (hs) (show 0 ≤ ξ 8 2 ∧ ξ 8 2 ≤ 216 by omega)) dX11_who_22 rfl (by decide) (Nat.le_of_ble_eq_true rfl) rfl ?_
    refine q_ifb_ne (tgt := 30) dX11_who_25 (by decide) (fun h25 => ?_) (fun h25 => ?_)
    · skip
      have hG := hR.G (by omega)
      refine q_aload_n dX11_who_30 rfl ?_
      refine q_aload_n dX11_who_31 rfl ?_
      refine q_get (v := .ref 7) fX11_34_11 rfl rfl dX11_who_32 ?_
      refine q_iload_n dX11_who_35 rfl ?_
      refine q_iload_n dX11_who_36 rfl ?_
      refine q_cV [q_i c, q_i s] kX11_291_8 rfl (tX8_likeliestWho w ξ B P g c s (by omega) (by omega) (by omega) (by omega) hPs hTs hG) dX11_who_37 rfl (by decide) (Nat.le_of_ble_eq_true rfl) rfl ?_
      refine q_cVv [q_i (z_who (x_wf ξ c s) (ξ 1004) (ξ 7 0))] kX11_75_11 rfl (tX11_tellNumber w ξ B P g (z_who (x_wf ξ c s) (ξ 1004) (ξ 7 0))) dX11_who_40 rfl (by decide) (Nat.le_of_ble_eq_true rfl) rfl ?_
      refine q_aload_n dX11_who_43 rfl ?_
      refine q_get (v := .ref 7) fX11_34_11 rfl rfl dX11_who_44 ?_
      refine q_iload_n dX11_who_47 rfl ?_
      refine q_iload_n dX11_who_48 rfl ?_
      refine q_cV [q_i c, q_i s] kX11_294_8 rfl (tX8_allWho w (x_tn ξ (z_who (x_wf ξ c s) (ξ 1004) (ξ 7 0))) B P g c s (by omega) (show c < ξ 8 2 by omega) (by omega) (show s < ξ 8 2 by omega) hPs (fun q h0 h1 => (hTs q h0 h1).u (by have h1 : q < ξ 7 0 := h1; omega) (by decide) _) hG) dX11_who_49 rfl (by decide) (Nat.le_of_ble_eq_true rfl) rfl ?_
      show q_J _ _ _ _ _ _ _ [q_i (z_bits (fun p => if 0 < x_wf ξ c s p then 0 else 9) (ξ 7 0))] (x_w w (x_tn ξ (z_who (x_wf ξ c s) (ξ 1004) (ξ 7 0))) B P g)
      exact q_iret rfl dX11_who_52 (⟨by unfold m_who_v; (repeat first | rw [if_pos (by omega)] | rw [if_neg (by omega)]); rw [hR.whob], _, rfl, by unfold m_who_s; (repeat first | rw [if_pos (by omega)] | rw [if_neg (by omega)]); rw [← hR.whoe]; exact hR.tell _⟩)
    · skip
      refine q_iconst dX11_who_28 ?_
      exact q_iret rfl dX11_who_29 (⟨by unfold m_who_v; (repeat first | rw [if_pos (by omega)] | rw [if_neg (by omega)]), _, rfl, by unfold m_who_s; (repeat first | rw [if_pos (by omega)] | rw [if_neg (by omega)]); exact hR⟩)
set_option maxRecDepth 20000 in
theorem tX11_whose (w : q_W) (μ ξ : m_S) (B P : Nat) (g : Int → Option Nat) (hR : z_R μ ξ B P g) : q_T mX11_whose 5 0 0 [.ref 0] (x_w w ξ B P g) (z_Q w B P g (q_i (m_whose_v μ)) (m_whose_s μ)) := by
  refine q_T.of (lv := [some (.ref 0)]) (by decide) rfl (Nat.le_of_ble_eq_true rfl) ?_
  obtain ⟨hn7, hn80, hn81, hn82, hn10⟩ := hR.n
  have hSb := hR.Sh.b
  have hDb := hR.De.1
  have hPs := hR.Ps
  have hPs1 := hPs.1
  have hPs2 := hPs.2.1
  have hPs3 := hPs.2.2.1
  have hTs := hR.Ts
  have hV := hR.V
  refine q_aload_n dX11_whose_0 rfl ?_
  refine q_get (v := .ref 7) fX11_34_11 rfl rfl dX11_whose_1 ?_
  refine q_get (v := q_i (ξ 7 0)) fX11_115_8 rfl rfl dX11_whose_4 ?_
  refine q_if_ne (tgt := 13) dX11_whose_7 (by decide) ⟨by omega, by omega⟩ (fun h7 => ?_) (fun h7 => ?_)
  · skip
    have hG := hR.G (by omega)
    refine q_aload_n dX11_whose_13 rfl ?_
    refine q_get (v := .ref 7) fX11_34_11 rfl rfl dX11_whose_14 ?_
    refine q_cVv [] kX11_260_8 rfl (tX8_weighWorths w ξ B P g hPs hTs hG hV) dX11_whose_17 rfl (by decide) (Nat.le_of_ble_eq_true rfl) rfl ?_
    refine q_aload_n dX11_whose_20 rfl ?_
    refine q_aload_n dX11_whose_21 rfl ?_
    refine q_get (v := .ref 7) fX11_34_11 rfl rfl dX11_whose_22 ?_
    refine q_iconst dX11_whose_25 ?_
    refine q_cV [q_i 0] kX11_263_8 rfl (tX8_firstByWorth_0 w (x_ww ξ (ξ 7 0)) B P g hPs (fun q h0 h1 => by have h1 : q < ξ 7 0 := h1; show 0 ≤ x_wsf ξ (ξ 7 0) q ∧ x_wsf ξ (ξ 7 0) q ≤ _; unfold x_wsf; rw [if_pos ⟨h0, h1⟩]; exact x_wo_r hG hV q) (fun q h0 h1 => by have h1 : q < ξ 7 0 := h1; have q1 := x_in_r hG (hTs q h0 h1); exact ⟨q1.1, q1.2.1⟩) (show 1 ≤ ξ 7 0 by omega)) dX11_whose_26 rfl (by decide) (Nat.le_of_ble_eq_true rfl) rfl ?_
    show q_J _ _ _ _ _ _ _ [q_i (z_least (x_wsf ξ (ξ 7 0)) (ξ 1004) (ξ 7 0 - 1)), .ref 0] (x_w w (x_ww ξ (ξ 7 0)) B P g)
    refine q_cVv [q_i (z_least (x_wsf ξ (ξ 7 0)) (ξ 1004) (ξ 7 0 - 1))] kX11_75_11 rfl (tX11_tellNumber w (x_ww ξ (ξ 7 0)) B P g (z_least (x_wsf ξ (ξ 7 0)) (ξ 1004) (ξ 7 0 - 1))) dX11_whose_29 rfl (by decide) (Nat.le_of_ble_eq_true rfl) rfl ?_
    refine q_aload_n dX11_whose_32 rfl ?_
    refine q_get (v := .ref 7) fX11_34_11 rfl rfl dX11_whose_33 ?_
    refine q_iconst dX11_whose_36 ?_
    refine q_cV [q_i 1] kX11_263_8 rfl (tX8_firstByWorth_1 w (x_tn (x_ww ξ (ξ 7 0)) (z_least (x_wsf ξ (ξ 7 0)) (ξ 1004) (ξ 7 0 - 1))) B P g hPs (fun q h0 h1 => by have h1 : q < ξ 7 0 := h1; show 0 ≤ x_wsf ξ (ξ 7 0) q ∧ x_wsf ξ (ξ 7 0) q ≤ _; unfold x_wsf; rw [if_pos ⟨h0, h1⟩]; exact x_wo_r hG hV q) (fun q h0 h1 => by have h1 : q < ξ 7 0 := h1; have q1 := x_in_r hG (hTs q h0 h1); exact ⟨q1.1, q1.2.1⟩) (show 1 ≤ ξ 7 0 by omega)) dX11_whose_37 rfl (by decide) (Nat.le_of_ble_eq_true rfl) rfl ?_
    show q_J _ _ _ _ _ _ _ [q_i (z_most (x_wsf ξ (ξ 7 0)) (ξ 1004) (ξ 7 0 - 1))] (x_w w (x_tn (x_ww ξ (ξ 7 0)) (z_least (x_wsf ξ (ξ 7 0)) (ξ 1004) (ξ 7 0 - 1))) B P g)
    exact q_iret rfl dX11_whose_40 (⟨by unfold m_whose_v; (repeat first | rw [if_pos (by omega)] | rw [if_neg (by omega)]); rw [hR.most (by omega)], _, rfl, by unfold m_whose_s; (repeat first | rw [if_pos (by omega)] | rw [if_neg (by omega)]); rw [← hR.least (by omega)]; exact ((hR.s15 _).s17 _).tell _⟩)
  · skip
    refine q_bipush dX11_whose_10 ?_
    exact q_iret rfl dX11_whose_12 (⟨by unfold m_whose_v; (repeat first | rw [if_pos (by omega)] | rw [if_neg (by omega)]), _, rfl, by unfold m_whose_s; (repeat first | rw [if_pos (by omega)] | rw [if_neg (by omega)]); exact hR⟩)
set_option maxRecDepth 20000 in
theorem tX11_ways (w : q_W) (μ ξ : m_S) (B P : Nat) (g : Int → Option Nat) (hR : z_R μ ξ B P g) (p c s : Int) (hp : q_r p) (hc : q_r c) (hs : q_r s) : q_T mX11_ways 3 0 0 [.ref 0, q_i p, q_i c, q_i s] (x_w w ξ B P g) (z_Q w B P g (q_i (m_ways_v μ p c s)) μ) := by
  refine q_T.of (lv := [some (.ref 0), some (q_i p), some (q_i c), some (q_i s), none]) (by decide) rfl (Nat.le_of_ble_eq_true rfl) ?_
  obtain ⟨hn7, hn80, hn81, hn82, hn10⟩ := hR.n
  have hSb := hR.Sh.b
  have hDb := hR.De.1
  have hPs := hR.Ps
  have hPs1 := hPs.1
  have hPs2 := hPs.2.1
  have hPs3 := hPs.2.2.1
  have hTs := hR.Ts
  have hV := hR.V
  by_cases hq0 : 0 ≤ p ∧ p < ξ 7 0
  · skip
    obtain ⟨hp0, hp1⟩ := hq0
    refine q_aload_n dX11_ways_0 rfl ?_
    refine q_get (v := .ref 7) fX11_34_11 rfl rfl dX11_ways_1 ?_
    refine q_iload_n dX11_ways_4 rfl ?_
    refine q_cV [q_i p] kX11_118_8 rfl (tX8_personAt_y w ξ B P g p (show (0 : Int) ≤ p by omega) (show p < ξ 7 0 by omega) hPs) dX11_ways_5 rfl (by decide) (Nat.le_of_ble_eq_true rfl) rfl ?_
    refine q_astore (lv' := [some (.ref 0), some (q_i p), some (q_i c), some (q_i s), some (.ref (B + p.toNat))]) dX11_ways_8 (by decide) rfl ?_
    refine q_aload dX11_ways_10 rfl ?_
    refine q_ifnullS dX11_ways_12 ?_
    refine q_aload_n dX11_ways_15 rfl ?_
    refine q_get (v := .ref 7) fX11_34_11 rfl rfl dX11_ways_16 ?_
    refine q_get (v := .ref 8) fX11_165_8 rfl rfl dX11_ways_19 ?_
    refine q_iload_n dX11_ways_22 rfl ?_
    refine q_cV [q_i c] kX11_169_10 rfl (tX10_isSetting w ξ B P g c (hc) (show 0 ≤ ξ 8 2 ∧ ξ 8 2 ≤ 216 by omega)) dX11_ways_23 rfl (by decide) (Nat.le_of_ble_eq_true rfl) rfl ?_
    refine q_ifb_eq (tgt := 43) dX11_ways_26 (by decide) (fun h26 => ?_) (fun h26 => ?_)
    · skip
      refine q_iconst dX11_ways_43 ?_
      exact q_iret rfl dX11_ways_44 (⟨by unfold m_ways_v; (repeat first | rw [if_pos (by omega)] | rw [if_neg (by omega)]), _, rfl, hR⟩)
    · skip
      refine q_aload_n dX11_ways_29 rfl ?_
      refine q_get (v := .ref 7) fX11_34_11 rfl rfl dX11_ways_30 ?_
      refine q_get (v := .ref 8) fX11_165_8 rfl rfl dX11_ways_33 ?_
      refine q_iload_n dX11_ways_36 rfl ?_
      refine q_cV [q_i s] kX11_169_10 rfl (tX10_isSetting w ξ B P g s (hs) (show 0 ≤ ξ 8 2 ∧ ξ 8 2 ≤ 216 by omega)) dX11_ways_37 rfl (by decide) (Nat.le_of_ble_eq_true rfl) rfl ?_
      refine q_ifb_ne (tgt := 45) dX11_ways_40 (by decide) (fun h40 => ?_) (fun h40 => ?_)
      · skip
        have hG := hR.G (by omega)
        have htn := z_tn_r hG.1 (c := c) (s := s) (by omega) (by omega)
        refine q_aload dX11_ways_45 rfl ?_
        refine q_aload_n dX11_ways_47 rfl ?_
        refine q_get (v := .ref 7) fX11_34_11 rfl rfl dX11_ways_48 ?_
        refine q_get (v := .ref 8) fX11_165_8 rfl rfl dX11_ways_51 ?_
        refine q_iload_n dX11_ways_54 rfl ?_
        refine q_iload_n dX11_ways_55 rfl ?_
        refine q_cV [q_i c, q_i s] kX11_297_10 rfl (tX10_turnBetween w ξ B P g c s (show (0 : Int) ≤ c by omega) (show c < ξ 8 2 by omega) (show (0 : Int) ≤ s by omega) (show s < ξ 8 2 by omega) hG) dX11_ways_56 rfl (by decide) (Nat.le_of_ble_eq_true rfl) rfl ?_
        refine q_cP [q_i (z_tn (ξ 8 0) (ξ 8 1) c s)] (kPX11_300 _) (x_pOi (p := p) (by omega) (by omega) (by omega)) (Eq.mp (congrArg (fun z => q_D mX5_timesOf 1 [.ref (B + p.toNat), q_i (z_tn (ξ 8 0) (ξ 8 1) c s)] (x_w w ξ B P g) (some (q_i z)) (x_w w ξ B P g)) ((hTs p hp0 hp1).tm hG (show 0 ≤ c by omega) (show 0 ≤ s by omega))) (tX5_timesOf w ξ B P g p.toNat (by omega) (by omega) (by omega) (z_tn (ξ 8 0) (ξ 8 1) c s) htn.1 (by rw [hG.2.1]; exact htn.2) (by omega))) dX11_ways_59 rfl (by decide) (Nat.le_of_ble_eq_true rfl) rfl ?_
        exact q_iret rfl dX11_ways_62 (⟨by unfold m_ways_v; (repeat first | rw [if_pos (by omega)] | rw [if_neg (by omega)]); rw [hR.pw hp0 (by omega)], _, rfl, hR⟩)
      · skip
        refine q_iconst dX11_ways_43 ?_
        exact q_iret rfl dX11_ways_44 (⟨by unfold m_ways_v; (repeat first | rw [if_pos (by omega)] | rw [if_neg (by omega)]), _, rfl, hR⟩)
  · skip
    refine q_aload_n dX11_ways_0 rfl ?_
    refine q_get (v := .ref 7) fX11_34_11 rfl rfl dX11_ways_1 ?_
    refine q_iload_n dX11_ways_4 rfl ?_
    refine q_cV [q_i p] kX11_118_8 rfl (tX8_personAt_n w ξ B P g p (hp) (show ¬ (0 ≤ p ∧ p < ξ 7 0) by omega) hPs) dX11_ways_5 rfl (by decide) (Nat.le_of_ble_eq_true rfl) rfl ?_
    refine q_astoreN (lv' := [some (.ref 0), some (q_i p), some (q_i c), some (q_i s), some (.null)]) dX11_ways_8 (by decide) rfl ?_
    refine q_aloadN dX11_ways_10 rfl ?_
    refine q_ifnullN (tgt := 43) dX11_ways_12 (by decide) ?_
    refine q_iconst dX11_ways_43 ?_
    exact q_iret rfl dX11_ways_44 (⟨by unfold m_ways_v; (repeat first | rw [if_pos (by omega)] | rw [if_neg (by omega)]), _, rfl, hR⟩)
set_option maxRecDepth 20000 in
theorem tX11_apart (w : q_W) (μ ξ : m_S) (B P : Nat) (g : Int → Option Nat) (hR : z_R μ ξ B P g) (c s : Int) (hc : q_r c) (hs : q_r s) : q_T mX11_apart 3 0 0 [.ref 0, q_i c, q_i s] (x_w w ξ B P g) (z_Q w B P g (q_i (m_apart_v μ c s)) (m_apart_s μ c s)) := by
  refine q_T.of (lv := [some (.ref 0), some (q_i c), some (q_i s), none]) (by decide) rfl (Nat.le_of_ble_eq_true rfl) ?_
  obtain ⟨hn7, hn80, hn81, hn82, hn10⟩ := hR.n
  have hSb := hR.Sh.b
  have hDb := hR.De.1
  have hPs := hR.Ps
  have hPs1 := hPs.1
  have hPs2 := hPs.2.1
  have hPs3 := hPs.2.2.1
  have hTs := hR.Ts
  have hV := hR.V
  refine q_aload_n dX11_apart_0 rfl ?_
  refine q_get (v := .ref 7) fX11_34_11 rfl rfl dX11_apart_1 ?_
  refine q_get (v := .ref 8) fX11_165_8 rfl rfl dX11_apart_4 ?_
  refine q_iload_n dX11_apart_7 rfl ?_
  refine q_cV [q_i c] kX11_169_10 rfl (tX10_isSetting w ξ B P g c (hc) (show 0 ≤ ξ 8 2 ∧ ξ 8 2 ≤ 216 by omega)) dX11_apart_8 rfl (by decide) (Nat.le_of_ble_eq_true rfl) rfl ?_
  refine q_ifb_eq (tgt := 28) dX11_apart_11 (by decide) (fun h11 => ?_) (fun h11 => ?_)
  · skip
    refine q_iconst dX11_apart_28 ?_
    exact q_iret rfl dX11_apart_29 (⟨by unfold m_apart_v; (repeat first | rw [if_pos (by omega)] | rw [if_neg (by omega)]), _, rfl, by unfold m_apart_s; (repeat first | rw [if_pos (by omega)] | rw [if_neg (by omega)]); exact hR⟩)
  · skip
    refine q_aload_n dX11_apart_14 rfl ?_
    refine q_get (v := .ref 7) fX11_34_11 rfl rfl dX11_apart_15 ?_
    refine q_get (v := .ref 8) fX11_165_8 rfl rfl dX11_apart_18 ?_
    refine q_iload_n dX11_apart_21 rfl ?_
    refine q_cV [q_i s] kX11_169_10 rfl (tX10_isSetting w ξ B P g s (hs) (show 0 ≤ ξ 8 2 ∧ ξ 8 2 ≤ 216 by omega)) dX11_apart_22 rfl (by decide) (Nat.le_of_ble_eq_true rfl) rfl ?_
    refine q_ifb_ne (tgt := 30) dX11_apart_25 (by decide) (fun h25 => ?_) (fun h25 => ?_)
    · skip
      have hG := hR.G (by omega)
      have htn := z_tn_r hG.1 (c := c) (s := s) (by omega) (by omega)
      rw [← hG.2.1] at htn
      refine q_aload_n dX11_apart_30 rfl ?_
      refine q_get (v := .ref 7) fX11_34_11 rfl rfl dX11_apart_31 ?_
      refine q_get (v := .ref 8) fX11_165_8 rfl rfl dX11_apart_34 ?_
      refine q_iload_n dX11_apart_37 rfl ?_
      refine q_iload_n dX11_apart_38 rfl ?_
      refine q_cV [q_i c, q_i s] kX11_297_10 rfl (tX10_turnBetween w ξ B P g c s (show (0 : Int) ≤ c by omega) (show c < ξ 8 2 by omega) (show (0 : Int) ≤ s by omega) (show s < ξ 8 2 by omega) hG) dX11_apart_39 rfl (by decide) (Nat.le_of_ble_eq_true rfl) rfl ?_
      refine q_istore_n (lv' := [some (.ref 0), some (q_i c), some (q_i s), some (q_i (z_tn (ξ 8 0) (ξ 8 1) c s))]) dX11_apart_42 (by decide) rfl ?_
      refine q_aload_n dX11_apart_43 rfl ?_
      refine q_aload_n dX11_apart_44 rfl ?_
      refine q_get (v := .ref 7) fX11_34_11 rfl rfl dX11_apart_45 ?_
      refine q_get (v := .ref 8) fX11_165_8 rfl rfl dX11_apart_48 ?_
      refine q_iload_n dX11_apart_51 rfl ?_
      refine q_cV [q_i (z_tn (ξ 8 0) (ξ 8 1) c s)] kX11_303_10 rfl (tX10_wheelsIn w ξ B P g (z_tn (ξ 8 0) (ξ 8 1) c s) (show (0 : Int) ≤ (z_tn (ξ 8 0) (ξ 8 1) c s) by omega) (show (z_tn (ξ 8 0) (ξ 8 1) c s) < ξ 8 2 by omega) hG) dX11_apart_52 rfl (by decide) (Nat.le_of_ble_eq_true rfl) rfl ?_
      refine q_cVv [q_i (z_sum (fun w => if z_nt (ξ 8 0) (ξ 8 1) (z_tn (ξ 8 0) (ξ 8 1) c s) w = 0 then 0 else 1) (ξ 8 0))] kX11_75_11 rfl (tX11_tellNumber w ξ B P g (z_sum (fun w => if z_nt (ξ 8 0) (ξ 8 1) (z_tn (ξ 8 0) (ξ 8 1) c s) w = 0 then 0 else 1) (ξ 8 0))) dX11_apart_55 rfl (by decide) (Nat.le_of_ble_eq_true rfl) rfl ?_
      refine q_aload_n dX11_apart_58 rfl ?_
      refine q_get (v := .ref 7) fX11_34_11 rfl rfl dX11_apart_59 ?_
      refine q_get (v := .ref 8) fX11_165_8 rfl rfl dX11_apart_62 ?_
      refine q_iload_n dX11_apart_65 rfl ?_
      refine q_cV [q_i (z_tn (ξ 8 0) (ξ 8 1) c s)] kX11_306_10 rfl (tX10_fewestNotchesIn w (x_tn ξ (z_sum (fun w => if z_nt (ξ 8 0) (ξ 8 1) (z_tn (ξ 8 0) (ξ 8 1) c s) w = 0 then 0 else 1) (ξ 8 0))) B P g (z_tn (ξ 8 0) (ξ 8 1) c s) (show (0 : Int) ≤ (z_tn (ξ 8 0) (ξ 8 1) c s) by omega) (show (z_tn (ξ 8 0) (ξ 8 1) c s) < ξ 8 2 by omega) hG) dX11_apart_66 rfl (by decide) (Nat.le_of_ble_eq_true rfl) rfl ?_
      show q_J _ _ _ _ _ _ _ [q_i (z_sum (fun w => if (ξ 8 1) - z_nt (ξ 8 0) (ξ 8 1) (z_tn (ξ 8 0) (ξ 8 1) c s) w < z_nt (ξ 8 0) (ξ 8 1) (z_tn (ξ 8 0) (ξ 8 1) c s) w then (ξ 8 1) - z_nt (ξ 8 0) (ξ 8 1) (z_tn (ξ 8 0) (ξ 8 1) c s) w else z_nt (ξ 8 0) (ξ 8 1) (z_tn (ξ 8 0) (ξ 8 1) c s) w) (ξ 8 0))] (x_w w (x_tn ξ (z_sum (fun w => if z_nt (ξ 8 0) (ξ 8 1) (z_tn (ξ 8 0) (ξ 8 1) c s) w = 0 then 0 else 1) (ξ 8 0))) B P g)
      exact q_iret rfl dX11_apart_69 (⟨by unfold m_apart_v; (repeat first | rw [if_pos (by omega)] | rw [if_neg (by omega)]); rw [← hn80, ← hn81, ← z_far_e hG.1 (by omega) (by omega)], _, rfl, by unfold m_apart_s; (repeat first | rw [if_pos (by omega)] | rw [if_neg (by omega)]); rw [← hn80, ← hn81, ← z_dif_e hG.1 (by omega) (by omega)]; exact hR.tell _⟩)
    · skip
      refine q_iconst dX11_apart_28 ?_
      exact q_iret rfl dX11_apart_29 (⟨by unfold m_apart_v; (repeat first | rw [if_pos (by omega)] | rw [if_neg (by omega)]), _, rfl, by unfold m_apart_s; (repeat first | rw [if_pos (by omega)] | rw [if_neg (by omega)]); exact hR⟩)
set_option maxRecDepth 20000 in
theorem tX11_near (w : q_W) (μ ξ : m_S) (B P : Nat) (g : Int → Option Nat) (hR : z_R μ ξ B P g) (c n : Int) (hc : q_r c) (hn : q_r n) : q_T mX11_near 3 0 0 [.ref 0, q_i c, q_i n] (x_w w ξ B P g) (z_Q w B P g (q_i (m_near_v μ c n)) μ) := by
  refine q_T.of (lv := [some (.ref 0), some (q_i c), some (q_i n), none, none]) (by decide) rfl (Nat.le_of_ble_eq_true rfl) ?_
  obtain ⟨hn7, hn80, hn81, hn82, hn10⟩ := hR.n
  have hSb := hR.Sh.b
  have hDb := hR.De.1
  have hPs := hR.Ps
  have hPs1 := hPs.1
  have hPs2 := hPs.2.1
  have hPs3 := hPs.2.2.1
  have hTs := hR.Ts
  have hV := hR.V
  refine q_aload_n dX11_near_0 rfl ?_
  refine q_get (v := .ref 7) fX11_34_11 rfl rfl dX11_near_1 ?_
  refine q_get (v := .ref 8) fX11_165_8 rfl rfl dX11_near_4 ?_
  refine q_iload_n dX11_near_7 rfl ?_
  refine q_cV [q_i c] kX11_169_10 rfl (tX10_isSetting w ξ B P g c (hc) (show 0 ≤ ξ 8 2 ∧ ξ 8 2 ≤ 216 by omega)) dX11_near_8 rfl (by decide) (Nat.le_of_ble_eq_true rfl) rfl ?_
  refine q_ifb_eq (tgt := 24) dX11_near_11 (by decide) (fun h11 => ?_) (fun h11 => ?_)
  · skip
    refine q_iconst dX11_near_24 ?_
    exact q_iret rfl dX11_near_25 (⟨by unfold m_near_v; (repeat first | rw [if_pos (by omega)] | rw [if_neg (by omega)]), _, rfl, hR⟩)
  · skip
    refine q_iload_n dX11_near_14 rfl ?_
    refine q_if_lt (tgt := 24) dX11_near_15 (by decide) hn (fun h15 => ?_) (fun h15 => ?_)
    · skip
      refine q_iconst dX11_near_24 ?_
      exact q_iret rfl dX11_near_25 (⟨by unfold m_near_v; (repeat first | rw [if_pos (by omega)] | rw [if_neg (by omega)]), _, rfl, hR⟩)
    · skip
      refine q_iload_n dX11_near_18 rfl ?_
      refine q_bipush dX11_near_19 ?_
      refine q_icmp_le (tgt := 26) dX11_near_21 (by decide) hn ⟨by decide, by decide⟩ (fun h21 => ?_) (fun h21 => ?_)
      · skip
        have hG := hR.G (by omega)
        refine q_iconst dX11_near_26 ?_
        refine q_istore_n (lv' := [some (.ref 0), some (q_i c), some (q_i n), some (q_i 0), none]) dX11_near_27 (by decide) rfl ?_
        refine q_iconst dX11_near_28 ?_
        refine q_istore (lv' := [some (.ref 0), some (q_i c), some (q_i n), some (q_i 0), some (q_i 0)]) dX11_near_29 (by decide) rfl ?_
        have L31 : ∀ (m9 : Nat) (s : Int) (hs0 : 0 ≤ s) (hs1 : s ≤ ξ 8 2) (hm9 : ξ 8 2 - s < (m9 : Int)), q_J mX11_near 3 (z_Q w B P g (q_i (m_near_v μ c n)) μ) 0 0 31 [some (.ref 0), some (q_i c), some (q_i n), some (q_i (z_sum (fun s => if z_far (ξ 8 0) (ξ 8 1) c s ≤ n then 1 else 0) s)), some (q_i s)] [] (x_w w ξ B P g) := by
          intro m9
          induction m9 with
          | zero => intro s hs0 hs1 hm9; exact absurd hm9 (by omega)
          | succ m9 ih31 =>
            intro s hs0 hs1 hm9
            refine q_iload dX11_near_31 rfl ?_
            refine q_aload_n dX11_near_33 rfl ?_
            refine q_get (v := .ref 7) fX11_34_11 rfl rfl dX11_near_34 ?_
            refine q_get (v := .ref 8) fX11_165_8 rfl rfl dX11_near_37 ?_
            refine q_get (v := q_i (ξ 8 2)) fX11_309_10 rfl rfl dX11_near_40 ?_
            refine q_icmp_ge (tgt := 87) dX11_near_43 (by decide) ⟨by omega, by omega⟩ ⟨by omega, by omega⟩ (fun h43 => ?_) (fun h43 => ?_)
            · skip
              refine q_iload_n dX11_near_87 rfl ?_
              exact q_iret rfl dX11_near_88 (⟨by unfold m_near_v; (repeat first | rw [if_pos (by omega)] | rw [if_neg (by omega)]); rw [show s = μ 3 0 by omega, hn80, hn81], _, rfl, hR⟩)
            · skip
              refine q_iload_n dX11_near_46 rfl ?_
              refine q_aload_n dX11_near_47 rfl ?_
              refine q_get (v := .ref 7) fX11_34_11 rfl rfl dX11_near_48 ?_
              refine q_get (v := .ref 8) fX11_165_8 rfl rfl dX11_near_51 ?_
              refine q_aload_n dX11_near_54 rfl ?_
              refine q_get (v := .ref 7) fX11_34_11 rfl rfl dX11_near_55 ?_
              refine q_get (v := .ref 8) fX11_165_8 rfl rfl dX11_near_58 ?_
              refine q_iload_n dX11_near_61 rfl ?_
              refine q_iload dX11_near_62 rfl ?_
              have htn := z_tn_r hG.1 (c := c) (s := s) (by omega) hs0
              rw [← hG.2.1] at htn
              have hfr := z_far_r hG.1.1 hG.1.2 (c := c) (s := s) (by omega) hs0
              refine q_cV [q_i c, q_i s] kX11_297_10 rfl (tX10_turnBetween w ξ B P g c s (show (0 : Int) ≤ c by omega) (show c < ξ 8 2 by omega) (show (0 : Int) ≤ s by omega) (show s < ξ 8 2 by omega) hG) dX11_near_64 rfl (by decide) (Nat.le_of_ble_eq_true rfl) rfl ?_
              refine q_cV [q_i (z_tn (ξ 8 0) (ξ 8 1) c s)] kX11_306_10 rfl (tX10_fewestNotchesIn w ξ B P g (z_tn (ξ 8 0) (ξ 8 1) c s) (show (0 : Int) ≤ (z_tn (ξ 8 0) (ξ 8 1) c s) by omega) (show (z_tn (ξ 8 0) (ξ 8 1) c s) < ξ 8 2 by omega) hG) dX11_near_67 rfl (by decide) (Nat.le_of_ble_eq_true rfl) rfl ?_
              rw [z_far_e hG.1 (by omega) hs0]
              refine q_iload_n dX11_near_70 rfl ?_
              refine q_icmp_gt (tgt := 78) dX11_near_71 (by decide) ⟨by omega, by omega⟩ hn (fun h71 => ?_) (fun h71 => ?_)
              · skip
                refine q_iconst dX11_near_78 ?_
                refine q_iadd dX11_near_79 ?_
                refine q_istore_n (lv' := [some (.ref 0), some (q_i c), some (q_i n), some (q_i ((z_sum (fun s => if z_far (ξ 8 0) (ξ 8 1) c s ≤ n then 1 else 0) s) + 0)), some (q_i s)]) dX11_near_80 (by decide) rfl ?_
                refine q_iinc (lv' := [some (.ref 0), some (q_i c), some (q_i n), some (q_i ((z_sum (fun s => if z_far (ξ 8 0) (ξ 8 1) c s ≤ n then 1 else 0) s) + 0)), some (q_i (s + 1))]) dX11_near_81 rfl (by decide) rfl ?_
                refine q_goto (tgt := 31) dX11_near_84 (by decide) ?_
                exact q_Jle (q_le_s (rfl) (q_le_s (rfl) (q_le_s (rfl) (q_le_s (by rw [z_sum_s _ hs0]; (try dsimp only); (repeat' split) <;> first | rfl | (exfalso; omega)) (q_le_s (rfl) (q_le_e _)))))) (rfl) (rfl) (ih31 (s + 1) (by omega) (by omega) (by omega))
              · skip
                refine q_iconst dX11_near_74 ?_
                refine q_goto (tgt := 79) dX11_near_75 (by decide) ?_
                refine q_iadd dX11_near_79 ?_
                refine q_istore_n (lv' := [some (.ref 0), some (q_i c), some (q_i n), some (q_i ((z_sum (fun s => if z_far (ξ 8 0) (ξ 8 1) c s ≤ n then 1 else 0) s) + 1)), some (q_i s)]) dX11_near_80 (by decide) rfl ?_
                refine q_iinc (lv' := [some (.ref 0), some (q_i c), some (q_i n), some (q_i ((z_sum (fun s => if z_far (ξ 8 0) (ξ 8 1) c s ≤ n then 1 else 0) s) + 1)), some (q_i (s + 1))]) dX11_near_81 rfl (by decide) rfl ?_
                refine q_goto (tgt := 31) dX11_near_84 (by decide) ?_
                exact q_Jle (q_le_s (rfl) (q_le_s (rfl) (q_le_s (rfl) (q_le_s (by rw [z_sum_s _ hs0]; (try dsimp only); (repeat' split) <;> first | rfl | (exfalso; omega)) (q_le_s (rfl) (q_le_e _)))))) (rfl) (rfl) (ih31 (s + 1) (by omega) (by omega) (by omega))
        exact q_Jle (q_le_s (rfl) (q_le_s (rfl) (q_le_s (rfl) (q_le_s (rfl) (q_le_s (rfl) (q_le_e _)))))) (rfl) (rfl) (L31 ((ξ 8 2 : Int).toNat + 1) 0 (by omega) (by omega) (by omega))
      · skip
        refine q_iconst dX11_near_24 ?_
        exact q_iret rfl dX11_near_25 (⟨by unfold m_near_v; (repeat first | rw [if_pos (by omega)] | rw [if_neg (by omega)]), _, rfl, hR⟩)
