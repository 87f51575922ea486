/-! the class: a shed begun -/
set_option maxRecDepth 20000 in
theorem tX8_begin (w : q_W) (ξ : m_S) (B P : Nat) (g : Int → Option Nat) (n : Nat) (hd : q_dom (x_w w ξ B P g) n) (h76 : 76 ≤ n) (hWN : z_WN (ξ 4 0) (ξ 4 1)) (hK5 : 1 ≤ ξ 4 2 ∧ ξ 4 2 ≤ 5) (hKd : ∀ p, 0 ≤ p → p < ξ 4 2 → 0 ≤ ξ 5 p ∧ ξ 5 p ≤ 5) (hFl : ∀ p, 0 ≤ p → p < ξ 4 2 → 1 ≤ ξ 6 p ∧ ξ 6 p ≤ 3) : q_T mX8_begin 5 (ξ 4 2).toNat (6 * (ξ 4 2).toNat) [.ref 7, .ref 4] (x_w w ξ B P g) (fun v' w' => v' = none ∧ ∃ σ g', w' = x_w (x_pw w ξ B P) (x_wg σ) n (ξ 4 2).toNat g' ∧ x_bg ξ σ n g' (ξ 4 2) ∧ σ 10 0 = 0) := by
  refine q_T.of (lv := [some (.ref 7), some (.ref 4), none]) (by decide) rfl (Nat.le_of_ble_eq_true rfl) ?_
  refine q_Jeq (w' := x_w (x_pw w ξ B P) ξ n 0 g) rfl rfl x_w_0 ?_
  refine q_aload_n dX8_begin_0 rfl ?_
  refine q_get (v := .ref 8) fX8_18_8 rfl rfl dX8_begin_1 ?_
  refine q_aload_n dX8_begin_4 rfl ?_
  refine q_get (v := q_i (ξ 4 0)) fX8_59_6 rfl rfl dX8_begin_5 ?_
  refine q_aload_n dX8_begin_8 rfl ?_
  refine q_get (v := q_i (ξ 4 1)) fX8_63_6 rfl rfl dX8_begin_9 ?_
  refine q_cVv [q_i (ξ 4 0), q_i (ξ 4 1)] kX8_66_10 rfl (tX10_make (x_pw w ξ B P) ξ n 0 g (ξ 4 0) (ξ 4 1) hWN) dX8_begin_12 rfl (by decide) (Nat.le_of_ble_eq_true rfl) rfl ?_
  refine q_aload_n dX8_begin_15 rfl ?_
  refine q_aload_n dX8_begin_16 rfl ?_
  refine q_get (v := q_i ((x_mk ξ (ξ 4 0) (ξ 4 1)) 4 2)) fX8_70_6 rfl rfl dX8_begin_17 ?_
  refine q_puti (fs := [q_i ((x_mk ξ (ξ 4 0) (ξ 4 1)) 7 0), .ref 8, .ref 10, .ref 14, .ref 15, .ref 16, .ref 17, .ref 18, .ref 19, .ref 25]) pX8_9_8 rfl (Nat.le_of_ble_eq_true rfl) dX8_begin_20 ?_
  refine q_Jeq rfl rfl (x_up (f := (q_us ((x_mk ξ (ξ 4 0) (ξ 4 1)) 7) 0 ((x_mk ξ (ξ 4 0) (ξ 4 1)) 4 2))) rfl) ?_
  refine q_iconst dX8_begin_23 ?_
  refine q_istore_n (lv' := [some (.ref 7), some (.ref 4), some (q_i 0)]) dX8_begin_24 (by decide) rfl ?_
  have L25 : ∀ (m9 : Nat) (p : Int) (σ : m_S) (g' : Int → Option Nat) (hp0 : 0 ≤ p) (hp1 : p ≤ ξ 4 2) (hB : x_bg ξ σ n g' p) (hm9 : ξ 4 2 - p < (m9 : Int)), q_J mX8_begin 5 (fun v' w' => v' = none ∧ ∃ σ g', w' = x_w (x_pw w ξ B P) (x_wg σ) n (ξ 4 2).toNat g' ∧ x_bg ξ σ n g' (ξ 4 2) ∧ σ 10 0 = 0) ((ξ 4 2).toNat - p.toNat) (6 * ((ξ 4 2).toNat - p.toNat)) 25 [some (.ref 7), some (.ref 4), some (q_i p)] [] (x_w (x_pw w ξ B P) σ n p.toNat g') := by
    intro m9
    induction m9 with
    | zero => intro p σ g' hp0 hp1 hB hm9; exact absurd hm9 (by omega)
    | succ m9 ih25 =>
      intro p σ g' hp0 hp1 hB hm9
      have h70 := hB.2.2.1.2.2
      refine q_iload_n dX8_begin_25 rfl ?_
      refine q_aload_n dX8_begin_26 rfl ?_
      refine q_get (v := q_i (σ 7 0)) fX8_9_8 rfl rfl dX8_begin_27 ?_
      refine q_icmp_ge (tgt := 78) dX8_begin_30 (by decide) ⟨by omega, by omega⟩ ⟨by omega, by omega⟩ (fun h30 => ?_) (fun h30 => ?_)
      · skip
        refine q_Jk (kc' := 0) (ks' := 0) (by omega) (by omega) ?_
        have hpe : p = ξ 4 2 := by omega
        subst hpe
        have hS := hB.2.1.S
        refine q_aload_n dX8_begin_78 rfl ?_
        refine q_get (v := .ref 10) fX8_27_8 rfl rfl dX8_begin_79 ?_
        refine q_iconst dX8_begin_82 ?_
        refine q_puti (fs := [q_i (σ 10 0), .ref 11, .ref 12, .ref 13]) pX8_85_9 rfl (Nat.le_of_ble_eq_true rfl) dX8_begin_83 ?_
        refine q_Jeq rfl rfl (x_up (f := (q_us (σ 10) 0 0)) rfl) ?_
        have hB2 : x_bg ξ (m_u σ 10 (q_us (σ 10) 0 0)) n g' (ξ 4 2) := hB.c (by omega)
        have hPs : x_Ps (m_u σ 10 (q_us (σ 10) 0 0)) n (ξ 4 2).toNat g' := ⟨by omega, hB.2.2.1.2.2.trans (by omega), by omega, fun q q0 q1 => hB.2.2.2.1 q q0 (by omega)⟩
        have hTs : ∀ q, 0 ≤ q → q < (m_u σ 10 (q_us (σ 10) 0 0)) 7 0 → x_Pt (m_u σ 10 (q_us (σ 10) 0 0)) q := fun q q0 q1 => (hB2.2.2.2.2 q q0 (by rw [hB2.2.2.1.2.2] at q1; exact q1)).2.2.2
        have h00 : (m_u σ 10 (q_us (σ 10) 0 0)) 10 0 = 0 := rfl
        have hD : x_De (m_u σ 10 (q_us (σ 10) 0 0)) := ⟨⟨by omega, by omega⟩, fun d q0 q1 => by omega⟩
        have hS : 4 ≤ (m_u σ 10 (q_us (σ 10) 0 0)) 8 2 ∧ (m_u σ 10 (q_us (σ 10) 0 0)) 8 2 ≤ 216 := hB2.2.1.S
        have hB := hB2
        refine q_aload_n dX8_begin_86 rfl ?_
        refine q_cVv [] kX8_88_8 rfl (tX8_weighAgain (x_pw w ξ B P) (m_u σ 10 (q_us (σ 10) 0 0)) n (ξ 4 2).toNat g' hPs hTs (fun _ => hB.2.1) ⟨by omega, hS.2⟩ hD) dX8_begin_87 rfl (by decide) (Nat.le_of_ble_eq_true rfl) rfl ?_
        exact q_vret rfl dX8_begin_90 (⟨rfl, _, _, rfl, hB, rfl⟩)
      · skip
        refine q_aload_n dX8_begin_33 rfl ?_
        refine q_get (v := .ref 18) fX8_47_8 rfl rfl dX8_begin_34 ?_
        refine q_iload_n dX8_begin_37 rfl ?_
        refine q_aload_n dX8_begin_38 rfl ?_
        refine q_aload_n dX8_begin_39 rfl ?_
        refine q_get (v := .ref 5) fX8_72_6 rfl rfl dX8_begin_40 ?_
        refine q_iload_n dX8_begin_43 rfl ?_
        refine q_iald (f := (σ 5)) (n9 := 5) rfl (by omega) (by omega) dX8_begin_44 ?_
        refine q_aload_n dX8_begin_45 rfl ?_
        refine q_get (v := .ref 19) fX8_53_8 rfl rfl dX8_begin_46 ?_
        refine q_iload_n dX8_begin_49 rfl ?_
        refine q_aald rfl (by decide) (by omega) (by omega) dX8_begin_50 ?_
        rw [x_arr_e (b := 20) (i := p) (by omega) (by omega)]
        show q_J _ _ _ _ _ _ _ (.ref (20 + p.toNat) :: _) _
        refine q_aload_n dX8_begin_51 rfl ?_
        refine q_get (v := .ref 25) fX8_56_8 rfl rfl dX8_begin_52 ?_
        refine q_iload_n dX8_begin_55 rfl ?_
        refine q_aald rfl (by decide) (by omega) (by omega) dX8_begin_56 ?_
        rw [x_arr_e (b := 26) (i := p) (by omega) (by omega)]
        show q_J _ _ _ _ _ _ _ (.ref (26 + p.toNat) :: _) _
        have hk5 := hKd p hp0 (by omega)
        have e5 : σ 5 = ξ 5 := hB.1 5 (by omega)
        have e6 : σ 6 = ξ 6 := hB.1 6 (by omega)
        refine q_callV (kc := (ξ 4 2).toNat - (p + 1).toNat) (ks := 6 * ((ξ 4 2).toNat - (p + 1).toNat)) [q_i (σ 5 p), .ref (20 + p.toNat), .ref (26 + p.toNat)] kX8_75_8 rfl (tX8_newPerson (x_pw w ξ B P) σ n p.toNat g' (n + p.toNat) (20 + p.toNat) (26 + p.toNat) (x_dom_n hd (by omega)) (by omega) (σ 5 p) (by rw [e5]; exact ⟨by omega, by omega⟩)) (by decide) rfl rfl (Nat.le_of_ble_eq_true rfl) (by omega) (by omega) dX8_begin_57 (fun v9 w9 h9 => ?_)
        rw [h9.1, h9.2]
        refine q_Jeq (st' := [.ref (n + p.toNat), q_i p, .ref 18]) (w' := x_w (x_pw w ξ B P) (x_nw σ p (σ 5 p)) n (p.toNat + 1) g') rfl rfl (x_nw_w (by omega) hp0) ?_
        obtain ⟨C9, T9, hC9, hce9⟩ := x_clC (σ 5 p)
        have hx9 : x_w (x_pw w ξ B P) (x_nw σ p (σ 5 p)) n (p.toNat + 1) g' (n + p.toNat) = some (q_ob (x_cl (σ 5 p)) (x_po (x_nw σ p (σ 5 p)) p.toNat)) := (x_pO (by omega) (by omega)).trans (by rw [show (x_nw σ p (σ 5 p)) 1000 ((p.toNat : Nat) : Int) = σ 5 p by rw [Int.toNat_of_nonneg hp0]; exact q_us_s _ _ _])
        refine q_aast (ak := 4) (n9 := 5) (f := g') rfl (fun _ => rfl) hx9 hC9 hce9 (by omega) (by omega) dX8_begin_60 ?_
        refine q_Jeq (w' := x_w (x_pw w ξ B P) (x_nw σ p (σ 5 p)) n (p.toNat + 1) (q_us g' p (some (n + p.toNat)))) rfl rfl x_g_u ?_
        refine q_aload_n dX8_begin_61 rfl ?_
        refine q_iload_n dX8_begin_62 rfl ?_
        refine q_aload_n dX8_begin_63 rfl ?_
        refine q_get (v := .ref 6) fX8_79_6 rfl rfl dX8_begin_64 ?_
        refine q_iload_n dX8_begin_67 rfl ?_
        refine q_iald (f := ((x_nw σ p (σ 5 p)) 6)) (n9 := 5) rfl (by omega) (by omega) dX8_begin_68 ?_
        have h76' : (x_nw σ p (σ 5 p)) 7 0 = ξ 4 2 := (by rw [x_nw_k (by decide)]; exact hB.2.2.1.2.2)
        have e66 : (x_nw σ p (σ 5 p)) 6 p = ξ 6 p := (by rw [x_nw_k (by decide), e6])
        have e10 : (x_nw σ p (σ 5 p)) 1000 p = ξ 5 p := (q_us_s _ _ _).trans (by rw [e5])
        refine q_cVv [q_i p, q_i ((x_nw σ p (σ 5 p)) 6 p)] kX8_82_8 rfl (tX8_setFlicks (x_pw w ξ B P) (x_nw σ p (σ 5 p)) n (p.toNat + 1) (q_us g' p (some (n + p.toNat))) p ((x_nw σ p (σ 5 p)) 6 p) hp0 (by rw [h76']; omega) (by rw [h76']; omega) (q_us_s _ _ _) (by omega) (by omega) (by rw [e10]; exact hk5) (by rw [e66]; exact hFl p hp0 (by omega)) hB.g) dX8_begin_69 rfl (by decide) (Nat.le_of_ble_eq_true rfl) rfl ?_
        refine q_iinc (lv' := [some (.ref 7), some (.ref 4), some (q_i (p + 1))]) dX8_begin_72 rfl (by decide) rfl ?_
        refine q_goto (tgt := 25) dX8_begin_75 (by decide) ?_
        exact q_Jle (q_le_s (rfl) (q_le_s (rfl) (q_le_s (rfl) (q_le_e _)))) (rfl) (by rw [show (p + 1).toNat = p.toNat + 1 by omega]) (ih25 (p + 1) (x_sf (x_nw σ p (σ 5 p)) p ((x_nw σ p (σ 5 p)) 6 p)) (q_us g' p (some (n + p.toNat))) (by omega) (by omega) (hB.s hp0 (by omega) hk5 (hFl p hp0 (by omega))) (by omega))
  exact q_Jle (q_le_s (rfl) (q_le_s (rfl) (q_le_s (rfl) (q_le_e _)))) (rfl) (rfl) (L25 ((ξ 4 2 : Int).toNat + 1) 0 (m_u (x_mk ξ (ξ 4 0) (ξ 4 1)) 7 (q_us ((x_mk ξ (ξ 4 0) (ξ 4 1)) 7) 0 ((x_mk ξ (ξ 4 0) (ξ 4 1)) 4 2))) g (by omega) (by omega) (x_bg.z hWN rfl) (by omega))
